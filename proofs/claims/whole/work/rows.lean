section
/-- a private method of a class that the tables say can be made, by its rows of tables_1 -/
def lw_okq (q : MethodName × Nat) : Prop := (q.1.cls ≠ "java/lang/invoke/MethodHandle" ∧ q.1.cls ≠ "java/lang/invoke/VarHandle") ∧ Cond.instantiable q.1.cls q.2 ∈ tables_1 ∧ Cond.privateMethod q.1 ∈ tables_1 ∧ Cond.instanceMethod q.1 ∈ tables_1
theorem lw_p0 : lw_okq (⟨"ForecastLab$State", "areScoresSound", "(I)Z"⟩, 4) := ⟨⟨by decide +kernel, by decide +kernel⟩, List.mem_of_getElem? (i := 36) (by decide +kernel), List.mem_of_getElem? (i := 255) (by decide +kernel), List.mem_of_getElem? (i := 256) (by decide +kernel)⟩
theorem lw_p1 : lw_okq (⟨"java/lang/Throwable", "fillInStackTrace", "(I)Ljava/lang/Throwable;"⟩, 6) := ⟨⟨by decide +kernel, by decide +kernel⟩, List.mem_of_getElem? (i := 393) (by decide +kernel), List.mem_of_getElem? (i := 391) (by decide +kernel), List.mem_of_getElem? (i := 392) (by decide +kernel)⟩
theorem lw_p2 : lw_okq (⟨"ForecastLab", "noteChange", "()V"⟩, 8) := ⟨⟨by decide +kernel, by decide +kernel⟩, List.mem_of_getElem? (i := 28) (by decide +kernel), List.mem_of_getElem? (i := 442) (by decide +kernel), List.mem_of_getElem? (i := 443) (by decide +kernel)⟩
theorem lw_p3 : lw_okq (⟨"ForecastLab", "seriesAt", "(I)LForecastLab$Series;"⟩, 8) := ⟨⟨by decide +kernel, by decide +kernel⟩, List.mem_of_getElem? (i := 28) (by decide +kernel), List.mem_of_getElem? (i := 507) (by decide +kernel), List.mem_of_getElem? (i := 508) (by decide +kernel)⟩
theorem lw_p4 : lw_okq (⟨"ForecastLab", "seriesWithLast", "(II)LForecastLab$Series;"⟩, 8) := ⟨⟨by decide +kernel, by decide +kernel⟩, List.mem_of_getElem? (i := 28) (by decide +kernel), List.mem_of_getElem? (i := 628) (by decide +kernel), List.mem_of_getElem? (i := 629) (by decide +kernel)⟩
theorem lw_p5 : lw_okq (⟨"ForecastLab$Series", "countBelow", "(II)I"⟩, 5) := ⟨⟨by decide +kernel, by decide +kernel⟩, List.mem_of_getElem? (i := 45) (by decide +kernel), List.mem_of_getElem? (i := 663) (by decide +kernel), List.mem_of_getElem? (i := 664) (by decide +kernel)⟩
theorem lw_p6 : lw_okq (⟨"ForecastLab", "prophetAt", "(I)LForecastLab$Prophet;"⟩, 8) := ⟨⟨by decide +kernel, by decide +kernel⟩, List.mem_of_getElem? (i := 28) (by decide +kernel), List.mem_of_getElem? (i := 728) (by decide +kernel), List.mem_of_getElem? (i := 729) (by decide +kernel)⟩
theorem lw_p7 : lw_okq (⟨"ForecastLab", "nextForecast", "(II)D"⟩, 8) := ⟨⟨by decide +kernel, by decide +kernel⟩, List.mem_of_getElem? (i := 28) (by decide +kernel), List.mem_of_getElem? (i := 754) (by decide +kernel), List.mem_of_getElem? (i := 755) (by decide +kernel)⟩
theorem lw_p8 : lw_okq (⟨"ForecastLab$State", "rankOf", "(I)I"⟩, 4) := ⟨⟨by decide +kernel, by decide +kernel⟩, List.mem_of_getElem? (i := 36) (by decide +kernel), List.mem_of_getElem? (i := 848) (by decide +kernel), List.mem_of_getElem? (i := 849) (by decide +kernel)⟩
theorem lw_p9 : lw_okq (⟨"ForecastLab$Program", "parseCommand", "()Z"⟩, 9) := ⟨⟨by decide +kernel, by decide +kernel⟩, List.mem_of_getElem? (i := 142) (by decide +kernel), List.mem_of_getElem? (i := 916) (by decide +kernel), List.mem_of_getElem? (i := 917) (by decide +kernel)⟩
theorem lw_p10 : lw_okq (⟨"ForecastLab$Program", "isAt", "(C)Z"⟩, 9) := ⟨⟨by decide +kernel, by decide +kernel⟩, List.mem_of_getElem? (i := 142) (by decide +kernel), List.mem_of_getElem? (i := 920) (by decide +kernel), List.mem_of_getElem? (i := 921) (by decide +kernel)⟩
theorem lw_p11 : lw_okq (⟨"ForecastLab$Program", "acceptsWord", "(Ljava/lang/String;)Z"⟩, 9) := ⟨⟨by decide +kernel, by decide +kernel⟩, List.mem_of_getElem? (i := 142) (by decide +kernel), List.mem_of_getElem? (i := 925) (by decide +kernel), List.mem_of_getElem? (i := 926) (by decide +kernel)⟩
theorem lw_p12 : lw_okq (⟨"ForecastLab$Program", "accepts", "(C)Z"⟩, 9) := ⟨⟨by decide +kernel, by decide +kernel⟩, List.mem_of_getElem? (i := 142) (by decide +kernel), List.mem_of_getElem? (i := 977) (by decide +kernel), List.mem_of_getElem? (i := 978) (by decide +kernel)⟩
theorem lw_p13 : lw_okq (⟨"ForecastLab$Program", "parseProphet", "()Z"⟩, 9) := ⟨⟨by decide +kernel, by decide +kernel⟩, List.mem_of_getElem? (i := 142) (by decide +kernel), List.mem_of_getElem? (i := 981) (by decide +kernel), List.mem_of_getElem? (i := 982) (by decide +kernel)⟩
theorem lw_p14 : lw_okq (⟨"ForecastLab$Program", "isAtDigit", "()Z"⟩, 9) := ⟨⟨by decide +kernel, by decide +kernel⟩, List.mem_of_getElem? (i := 142) (by decide +kernel), List.mem_of_getElem? (i := 985) (by decide +kernel), List.mem_of_getElem? (i := 986) (by decide +kernel)⟩
theorem lw_p15 : lw_okq (⟨"ForecastLab$Program", "readDigit", "()I"⟩, 9) := ⟨⟨by decide +kernel, by decide +kernel⟩, List.mem_of_getElem? (i := 142) (by decide +kernel), List.mem_of_getElem? (i := 989) (by decide +kernel), List.mem_of_getElem? (i := 990) (by decide +kernel)⟩
def lw_privs_1 : List (MethodName × Nat) := [(⟨"ForecastLab$State", "areScoresSound", "(I)Z"⟩, 4), (⟨"java/lang/Throwable", "fillInStackTrace", "(I)Ljava/lang/Throwable;"⟩, 6), (⟨"ForecastLab", "noteChange", "()V"⟩, 8), (⟨"ForecastLab", "seriesAt", "(I)LForecastLab$Series;"⟩, 8), (⟨"ForecastLab", "seriesWithLast", "(II)LForecastLab$Series;"⟩, 8), (⟨"ForecastLab$Series", "countBelow", "(II)I"⟩, 5), (⟨"ForecastLab", "prophetAt", "(I)LForecastLab$Prophet;"⟩, 8), (⟨"ForecastLab", "nextForecast", "(II)D"⟩, 8), (⟨"ForecastLab$State", "rankOf", "(I)I"⟩, 4), (⟨"ForecastLab$Program", "parseCommand", "()Z"⟩, 9), (⟨"ForecastLab$Program", "isAt", "(C)Z"⟩, 9), (⟨"ForecastLab$Program", "acceptsWord", "(Ljava/lang/String;)Z"⟩, 9), (⟨"ForecastLab$Program", "accepts", "(C)Z"⟩, 9), (⟨"ForecastLab$Program", "parseProphet", "()Z"⟩, 9), (⟨"ForecastLab$Program", "isAtDigit", "()Z"⟩, 9), (⟨"ForecastLab$Program", "readDigit", "()I"⟩, 9)]
theorem lw_r1 : ∀ q ∈ lw_privs_1, lw_okq q := List.forall_mem_cons.mpr ⟨lw_p0, List.forall_mem_cons.mpr ⟨lw_p1, List.forall_mem_cons.mpr ⟨lw_p2, List.forall_mem_cons.mpr ⟨lw_p3, List.forall_mem_cons.mpr ⟨lw_p4, List.forall_mem_cons.mpr ⟨lw_p5, List.forall_mem_cons.mpr ⟨lw_p6, List.forall_mem_cons.mpr ⟨lw_p7, List.forall_mem_cons.mpr ⟨lw_p8, List.forall_mem_cons.mpr ⟨lw_p9, List.forall_mem_cons.mpr ⟨lw_p10, List.forall_mem_cons.mpr ⟨lw_p11, List.forall_mem_cons.mpr ⟨lw_p12, List.forall_mem_cons.mpr ⟨lw_p13, List.forall_mem_cons.mpr ⟨lw_p14, List.forall_mem_cons.mpr ⟨lw_p15, fun _ h => absurd h List.not_mem_nil⟩⟩⟩⟩⟩⟩⟩⟩⟩⟩⟩⟩⟩⟩⟩⟩
theorem lw_p16 : lw_okq (⟨"ForecastLab$Program", "addStep", "(CII)V"⟩, 9) := ⟨⟨by decide +kernel, by decide +kernel⟩, List.mem_of_getElem? (i := 142) (by decide +kernel), List.mem_of_getElem? (i := 993) (by decide +kernel), List.mem_of_getElem? (i := 994) (by decide +kernel)⟩
theorem lw_p17 : lw_okq (⟨"ForecastLab$Program", "parseSee", "()Z"⟩, 9) := ⟨⟨by decide +kernel, by decide +kernel⟩, List.mem_of_getElem? (i := 142) (by decide +kernel), List.mem_of_getElem? (i := 998) (by decide +kernel), List.mem_of_getElem? (i := 999) (by decide +kernel)⟩
theorem lw_p18 : lw_okq (⟨"ForecastLab$Program", "readNumber", "()I"⟩, 9) := ⟨⟨by decide +kernel, by decide +kernel⟩, List.mem_of_getElem? (i := 142) (by decide +kernel), List.mem_of_getElem? (i := 1002) (by decide +kernel), List.mem_of_getElem? (i := 1003) (by decide +kernel)⟩
theorem lw_p19 : lw_okq (⟨"ForecastLab$Program", "parseDigit", "(C)Z"⟩, 9) := ⟨⟨by decide +kernel, by decide +kernel⟩, List.mem_of_getElem? (i := 142) (by decide +kernel), List.mem_of_getElem? (i := 1007) (by decide +kernel), List.mem_of_getElem? (i := 1008) (by decide +kernel)⟩
theorem lw_p20 : lw_okq (⟨"ForecastLab", "firstFailedCommand", "()I"⟩, 8) := ⟨⟨by decide +kernel, by decide +kernel⟩, List.mem_of_getElem? (i := 28) (by decide +kernel), List.mem_of_getElem? (i := 1012) (by decide +kernel), List.mem_of_getElem? (i := 1013) (by decide +kernel)⟩
theorem lw_p21 : lw_okq (⟨"ForecastLab", "takeStep", "(CII)Z"⟩, 8) := ⟨⟨by decide +kernel, by decide +kernel⟩, List.mem_of_getElem? (i := 28) (by decide +kernel), List.mem_of_getElem? (i := 1016) (by decide +kernel), List.mem_of_getElem? (i := 1017) (by decide +kernel)⟩
theorem lw_p22 : lw_okq (⟨"ForecastLabModel", "begin", "()V"⟩, 24) := ⟨⟨by decide +kernel, by decide +kernel⟩, List.mem_of_getElem? (i := 1071) (by decide +kernel), List.mem_of_getElem? (i := 1158) (by decide +kernel), List.mem_of_getElem? (i := 1159) (by decide +kernel)⟩
theorem lw_p23 : lw_okq (⟨"ForecastLabModel", "cannotAdd", "(II)I"⟩, 24) := ⟨⟨by decide +kernel, by decide +kernel⟩, List.mem_of_getElem? (i := 1071) (by decide +kernel), List.mem_of_getElem? (i := 1165) (by decide +kernel), List.mem_of_getElem? (i := 1166) (by decide +kernel)⟩
theorem lw_p24 : lw_okq (⟨"ForecastLabModel", "allDays", "()I"⟩, 24) := ⟨⟨by decide +kernel, by decide +kernel⟩, List.mem_of_getElem? (i := 1071) (by decide +kernel), List.mem_of_getElem? (i := 1175) (by decide +kernel), List.mem_of_getElem? (i := 1176) (by decide +kernel)⟩
theorem lw_p25 : lw_okq (⟨"ForecastLabModel", "daysOf", "(I)I"⟩, 24) := ⟨⟨by decide +kernel, by decide +kernel⟩, List.mem_of_getElem? (i := 1071) (by decide +kernel), List.mem_of_getElem? (i := 1179) (by decide +kernel), List.mem_of_getElem? (i := 1180) (by decide +kernel)⟩
theorem lw_p26 : lw_okq (⟨"ForecastLabModel", "fail", "(I)I"⟩, 24) := ⟨⟨by decide +kernel, by decide +kernel⟩, List.mem_of_getElem? (i := 1071) (by decide +kernel), List.mem_of_getElem? (i := 1183) (by decide +kernel), List.mem_of_getElem? (i := 1184) (by decide +kernel)⟩
theorem lw_p27 : lw_okq (⟨"ForecastLabModel", "adds", "(II)I"⟩, 24) := ⟨⟨by decide +kernel, by decide +kernel⟩, List.mem_of_getElem? (i := 1071) (by decide +kernel), List.mem_of_getElem? (i := 1187) (by decide +kernel), List.mem_of_getElem? (i := 1188) (by decide +kernel)⟩
theorem lw_p28 : lw_okq (⟨"ForecastLabModel", "commit", "(I)I"⟩, 24) := ⟨⟨by decide +kernel, by decide +kernel⟩, List.mem_of_getElem? (i := 1071) (by decide +kernel), List.mem_of_getElem? (i := 1191) (by decide +kernel), List.mem_of_getElem? (i := 1192) (by decide +kernel)⟩
theorem lw_p29 : lw_okq (⟨"ForecastLabModel", "cannotSee", "(II)I"⟩, 24) := ⟨⟨by decide +kernel, by decide +kernel⟩, List.mem_of_getElem? (i := 1071) (by decide +kernel), List.mem_of_getElem? (i := 1199) (by decide +kernel), List.mem_of_getElem? (i := 1200) (by decide +kernel)⟩
theorem lw_p30 : lw_okq (⟨"ForecastLabModel", "sees", "(II)I"⟩, 24) := ⟨⟨by decide +kernel, by decide +kernel⟩, List.mem_of_getElem? (i := 1071) (by decide +kernel), List.mem_of_getElem? (i := 1206) (by decide +kernel), List.mem_of_getElem? (i := 1207) (by decide +kernel)⟩
theorem lw_p31 : lw_okq (⟨"ForecastLabModel", "limits", "(I)I"⟩, 24) := ⟨⟨by decide +kernel, by decide +kernel⟩, List.mem_of_getElem? (i := 1071) (by decide +kernel), List.mem_of_getElem? (i := 1214) (by decide +kernel), List.mem_of_getElem? (i := 1215) (by decide +kernel)⟩
def lw_privs_2 : List (MethodName × Nat) := [(⟨"ForecastLab$Program", "addStep", "(CII)V"⟩, 9), (⟨"ForecastLab$Program", "parseSee", "()Z"⟩, 9), (⟨"ForecastLab$Program", "readNumber", "()I"⟩, 9), (⟨"ForecastLab$Program", "parseDigit", "(C)Z"⟩, 9), (⟨"ForecastLab", "firstFailedCommand", "()I"⟩, 8), (⟨"ForecastLab", "takeStep", "(CII)Z"⟩, 8), (⟨"ForecastLabModel", "begin", "()V"⟩, 24), (⟨"ForecastLabModel", "cannotAdd", "(II)I"⟩, 24), (⟨"ForecastLabModel", "allDays", "()I"⟩, 24), (⟨"ForecastLabModel", "daysOf", "(I)I"⟩, 24), (⟨"ForecastLabModel", "fail", "(I)I"⟩, 24), (⟨"ForecastLabModel", "adds", "(II)I"⟩, 24), (⟨"ForecastLabModel", "commit", "(I)I"⟩, 24), (⟨"ForecastLabModel", "cannotSee", "(II)I"⟩, 24), (⟨"ForecastLabModel", "sees", "(II)I"⟩, 24), (⟨"ForecastLabModel", "limits", "(I)I"⟩, 24)]
theorem lw_r2 : ∀ q ∈ lw_privs_2, lw_okq q := List.forall_mem_cons.mpr ⟨lw_p16, List.forall_mem_cons.mpr ⟨lw_p17, List.forall_mem_cons.mpr ⟨lw_p18, List.forall_mem_cons.mpr ⟨lw_p19, List.forall_mem_cons.mpr ⟨lw_p20, List.forall_mem_cons.mpr ⟨lw_p21, List.forall_mem_cons.mpr ⟨lw_p22, List.forall_mem_cons.mpr ⟨lw_p23, List.forall_mem_cons.mpr ⟨lw_p24, List.forall_mem_cons.mpr ⟨lw_p25, List.forall_mem_cons.mpr ⟨lw_p26, List.forall_mem_cons.mpr ⟨lw_p27, List.forall_mem_cons.mpr ⟨lw_p28, List.forall_mem_cons.mpr ⟨lw_p29, List.forall_mem_cons.mpr ⟨lw_p30, List.forall_mem_cons.mpr ⟨lw_p31, fun _ h => absurd h List.not_mem_nil⟩⟩⟩⟩⟩⟩⟩⟩⟩⟩⟩⟩⟩⟩⟩⟩
theorem lw_p32 : lw_okq (⟨"ForecastLabModel", "forgets", "(I)I"⟩, 24) := ⟨⟨by decide +kernel, by decide +kernel⟩, List.mem_of_getElem? (i := 1071) (by decide +kernel), List.mem_of_getElem? (i := 1222) (by decide +kernel), List.mem_of_getElem? (i := 1223) (by decide +kernel)⟩
theorem lw_p33 : lw_okq (⟨"ForecastLabModel", "checked", "(Z)I"⟩, 24) := ⟨⟨by decide +kernel, by decide +kernel⟩, List.mem_of_getElem? (i := 1071) (by decide +kernel), List.mem_of_getElem? (i := 1230) (by decide +kernel), List.mem_of_getElem? (i := 1231) (by decide +kernel)⟩
theorem lw_p34 : lw_okq (⟨"ForecastLabModel", "noValue", "(II)I"⟩, 24) := ⟨⟨by decide +kernel, by decide +kernel⟩, List.mem_of_getElem? (i := 1071) (by decide +kernel), List.mem_of_getElem? (i := 1238) (by decide +kernel), List.mem_of_getElem? (i := 1239) (by decide +kernel)⟩
theorem lw_p35 : lw_okq (⟨"ForecastLabModel", "v", "(II)I"⟩, 24) := ⟨⟨by decide +kernel, by decide +kernel⟩, List.mem_of_getElem? (i := 1071) (by decide +kernel), List.mem_of_getElem? (i := 1242) (by decide +kernel), List.mem_of_getElem? (i := 1243) (by decide +kernel)⟩
theorem lw_p36 : lw_okq (⟨"ForecastLabModel", "lastMean", "(II)D"⟩, 24) := ⟨⟨by decide +kernel, by decide +kernel⟩, List.mem_of_getElem? (i := 1071) (by decide +kernel), List.mem_of_getElem? (i := 1254) (by decide +kernel), List.mem_of_getElem? (i := 1255) (by decide +kernel)⟩
theorem lw_p37 : lw_okq (⟨"ForecastLabModel", "noLast", "(II)I"⟩, 24) := ⟨⟨by decide +kernel, by decide +kernel⟩, List.mem_of_getElem? (i := 1071) (by decide +kernel), List.mem_of_getElem? (i := 1258) (by decide +kernel), List.mem_of_getElem? (i := 1259) (by decide +kernel)⟩
theorem lw_p38 : lw_okq (⟨"ForecastLabModel", "mean", "(III)D"⟩, 24) := ⟨⟨by decide +kernel, by decide +kernel⟩, List.mem_of_getElem? (i := 1071) (by decide +kernel), List.mem_of_getElem? (i := 1262) (by decide +kernel), List.mem_of_getElem? (i := 1263) (by decide +kernel)⟩
theorem lw_p39 : lw_okq (⟨"ForecastLabModel", "lastMedian", "(II)I"⟩, 24) := ⟨⟨by decide +kernel, by decide +kernel⟩, List.mem_of_getElem? (i := 1071) (by decide +kernel), List.mem_of_getElem? (i := 1274) (by decide +kernel), List.mem_of_getElem? (i := 1275) (by decide +kernel)⟩
theorem lw_p40 : lw_okq (⟨"ForecastLabModel", "medianAhead", "(III)I"⟩, 24) := ⟨⟨by decide +kernel, by decide +kernel⟩, List.mem_of_getElem? (i := 1071) (by decide +kernel), List.mem_of_getElem? (i := 1278) (by decide +kernel), List.mem_of_getElem? (i := 1279) (by decide +kernel)⟩
theorem lw_p41 : lw_okq (⟨"ForecastLabModel", "rowMedian", "(I)I"⟩, 24) := ⟨⟨by decide +kernel, by decide +kernel⟩, List.mem_of_getElem? (i := 1071) (by decide +kernel), List.mem_of_getElem? (i := 1282) (by decide +kernel), List.mem_of_getElem? (i := 1283) (by decide +kernel)⟩
theorem lw_p42 : lw_okq (⟨"ForecastLabModel", "level", "(III)D"⟩, 24) := ⟨⟨by decide +kernel, by decide +kernel⟩, List.mem_of_getElem? (i := 1071) (by decide +kernel), List.mem_of_getElem? (i := 1294) (by decide +kernel), List.mem_of_getElem? (i := 1295) (by decide +kernel)⟩
theorem lw_p43 : lw_okq (⟨"ForecastLabModel", "isOff", "(II)Z"⟩, 24) := ⟨⟨by decide +kernel, by decide +kernel⟩, List.mem_of_getElem? (i := 1071) (by decide +kernel), List.mem_of_getElem? (i := 1303) (by decide +kernel), List.mem_of_getElem? (i := 1304) (by decide +kernel)⟩
theorem lw_p44 : lw_okq (⟨"ForecastLabModel", "offOf", "(I)I"⟩, 24) := ⟨⟨by decide +kernel, by decide +kernel⟩, List.mem_of_getElem? (i := 1071) (by decide +kernel), List.mem_of_getElem? (i := 1314) (by decide +kernel), List.mem_of_getElem? (i := 1315) (by decide +kernel)⟩
theorem lw_p45 : lw_okq (⟨"ForecastLabModel", "plain", "(I)I"⟩, 24) := ⟨⟨by decide +kernel, by decide +kernel⟩, List.mem_of_getElem? (i := 1071) (by decide +kernel), List.mem_of_getElem? (i := 1330) (by decide +kernel), List.mem_of_getElem? (i := 1331) (by decide +kernel)⟩
theorem lw_p46 : lw_okq (⟨"ForecastLabModel", "isProphet", "(I)Z"⟩, 24) := ⟨⟨by decide +kernel, by decide +kernel⟩, List.mem_of_getElem? (i := 1071) (by decide +kernel), List.mem_of_getElem? (i := 1342) (by decide +kernel), List.mem_of_getElem? (i := 1343) (by decide +kernel)⟩
theorem lw_p47 : lw_okq (⟨"ForecastLabModel", "isPair", "(II)Z"⟩, 24) := ⟨⟨by decide +kernel, by decide +kernel⟩, List.mem_of_getElem? (i := 1071) (by decide +kernel), List.mem_of_getElem? (i := 1354) (by decide +kernel), List.mem_of_getElem? (i := 1355) (by decide +kernel)⟩
def lw_privs_3 : List (MethodName × Nat) := [(⟨"ForecastLabModel", "forgets", "(I)I"⟩, 24), (⟨"ForecastLabModel", "checked", "(Z)I"⟩, 24), (⟨"ForecastLabModel", "noValue", "(II)I"⟩, 24), (⟨"ForecastLabModel", "v", "(II)I"⟩, 24), (⟨"ForecastLabModel", "lastMean", "(II)D"⟩, 24), (⟨"ForecastLabModel", "noLast", "(II)I"⟩, 24), (⟨"ForecastLabModel", "mean", "(III)D"⟩, 24), (⟨"ForecastLabModel", "lastMedian", "(II)I"⟩, 24), (⟨"ForecastLabModel", "medianAhead", "(III)I"⟩, 24), (⟨"ForecastLabModel", "rowMedian", "(I)I"⟩, 24), (⟨"ForecastLabModel", "level", "(III)D"⟩, 24), (⟨"ForecastLabModel", "isOff", "(II)Z"⟩, 24), (⟨"ForecastLabModel", "offOf", "(I)I"⟩, 24), (⟨"ForecastLabModel", "plain", "(I)I"⟩, 24), (⟨"ForecastLabModel", "isProphet", "(I)Z"⟩, 24), (⟨"ForecastLabModel", "isPair", "(II)Z"⟩, 24)]
theorem lw_r3 : ∀ q ∈ lw_privs_3, lw_okq q := List.forall_mem_cons.mpr ⟨lw_p32, List.forall_mem_cons.mpr ⟨lw_p33, List.forall_mem_cons.mpr ⟨lw_p34, List.forall_mem_cons.mpr ⟨lw_p35, List.forall_mem_cons.mpr ⟨lw_p36, List.forall_mem_cons.mpr ⟨lw_p37, List.forall_mem_cons.mpr ⟨lw_p38, List.forall_mem_cons.mpr ⟨lw_p39, List.forall_mem_cons.mpr ⟨lw_p40, List.forall_mem_cons.mpr ⟨lw_p41, List.forall_mem_cons.mpr ⟨lw_p42, List.forall_mem_cons.mpr ⟨lw_p43, List.forall_mem_cons.mpr ⟨lw_p44, List.forall_mem_cons.mpr ⟨lw_p45, List.forall_mem_cons.mpr ⟨lw_p46, List.forall_mem_cons.mpr ⟨lw_p47, fun _ h => absurd h List.not_mem_nil⟩⟩⟩⟩⟩⟩⟩⟩⟩⟩⟩⟩⟩⟩⟩⟩
theorem lw_p48 : lw_okq (⟨"ForecastLabModel", "foresees", "(II)Z"⟩, 24) := ⟨⟨by decide +kernel, by decide +kernel⟩, List.mem_of_getElem? (i := 1071) (by decide +kernel), List.mem_of_getElem? (i := 1358) (by decide +kernel), List.mem_of_getElem? (i := 1359) (by decide +kernel)⟩
theorem lw_p49 : lw_okq (⟨"ForecastLabModel", "next", "(II)D"⟩, 24) := ⟨⟨by decide +kernel, by decide +kernel⟩, List.mem_of_getElem? (i := 1071) (by decide +kernel), List.mem_of_getElem? (i := 1366) (by decide +kernel), List.mem_of_getElem? (i := 1367) (by decide +kernel)⟩
theorem lw_p50 : lw_okq (⟨"ForecastLabModel", "foreseen", "(III)D"⟩, 24) := ⟨⟨by decide +kernel, by decide +kernel⟩, List.mem_of_getElem? (i := 1071) (by decide +kernel), List.mem_of_getElem? (i := 1370) (by decide +kernel), List.mem_of_getElem? (i := 1371) (by decide +kernel)⟩
theorem lw_p51 : lw_okq (⟨"ForecastLabModel", "errorsOf", "(II)I"⟩, 24) := ⟨⟨by decide +kernel, by decide +kernel⟩, List.mem_of_getElem? (i := 1071) (by decide +kernel), List.mem_of_getElem? (i := 1392) (by decide +kernel), List.mem_of_getElem? (i := 1393) (by decide +kernel)⟩
theorem lw_p52 : lw_okq (⟨"ForecastLabModel", "errorSumOf", "(II)D"⟩, 24) := ⟨⟨by decide +kernel, by decide +kernel⟩, List.mem_of_getElem? (i := 1071) (by decide +kernel), List.mem_of_getElem? (i := 1400) (by decide +kernel), List.mem_of_getElem? (i := 1401) (by decide +kernel)⟩
theorem lw_p53 : lw_okq (⟨"ForecastLabModel", "error", "(III)D"⟩, 24) := ⟨⟨by decide +kernel, by decide +kernel⟩, List.mem_of_getElem? (i := 1071) (by decide +kernel), List.mem_of_getElem? (i := 1404) (by decide +kernel), List.mem_of_getElem? (i := 1405) (by decide +kernel)⟩
theorem lw_p54 : lw_okq (⟨"ForecastLabModel", "pointsOf", "(II)I"⟩, 24) := ⟨⟨by decide +kernel, by decide +kernel⟩, List.mem_of_getElem? (i := 1071) (by decide +kernel), List.mem_of_getElem? (i := 1416) (by decide +kernel), List.mem_of_getElem? (i := 1417) (by decide +kernel)⟩
theorem lw_p55 : lw_okq (⟨"ForecastLabModel", "winner", "(II)I"⟩, 24) := ⟨⟨by decide +kernel, by decide +kernel⟩, List.mem_of_getElem? (i := 1071) (by decide +kernel), List.mem_of_getElem? (i := 1420) (by decide +kernel), List.mem_of_getElem? (i := 1421) (by decide +kernel)⟩
theorem lw_p56 : lw_okq (⟨"ForecastLabModel", "allErrors", "(I)I"⟩, 24) := ⟨⟨by decide +kernel, by decide +kernel⟩, List.mem_of_getElem? (i := 1071) (by decide +kernel), List.mem_of_getElem? (i := 1428) (by decide +kernel), List.mem_of_getElem? (i := 1429) (by decide +kernel)⟩
theorem lw_p57 : lw_okq (⟨"ForecastLabModel", "meanErrorOf", "(I)D"⟩, 24) := ⟨⟨by decide +kernel, by decide +kernel⟩, List.mem_of_getElem? (i := 1071) (by decide +kernel), List.mem_of_getElem? (i := 1432) (by decide +kernel), List.mem_of_getElem? (i := 1433) (by decide +kernel)⟩
theorem lw_p58 : lw_okq (⟨"ForecastLabModel", "allPoints", "(I)I"⟩, 24) := ⟨⟨by decide +kernel, by decide +kernel⟩, List.mem_of_getElem? (i := 1071) (by decide +kernel), List.mem_of_getElem? (i := 1440) (by decide +kernel), List.mem_of_getElem? (i := 1441) (by decide +kernel)⟩
theorem lw_p59 : lw_okq (⟨"ForecastLabModel", "writeNumber", "(I)V"⟩, 24) := ⟨⟨by decide +kernel, by decide +kernel⟩, List.mem_of_getElem? (i := 1071) (by decide +kernel), List.mem_of_getElem? (i := 1460) (by decide +kernel), List.mem_of_getElem? (i := 1461) (by decide +kernel)⟩
theorem lw_p60 : lw_okq (⟨"ForecastLabModel", "write", "(I)V"⟩, 24) := ⟨⟨by decide +kernel, by decide +kernel⟩, List.mem_of_getElem? (i := 1071) (by decide +kernel), List.mem_of_getElem? (i := 1464) (by decide +kernel), List.mem_of_getElem? (i := 1465) (by decide +kernel)⟩
theorem lw_p61 : lw_okq (⟨"ForecastLabModel", "parse", "()V"⟩, 24) := ⟨⟨by decide +kernel, by decide +kernel⟩, List.mem_of_getElem? (i := 1071) (by decide +kernel), List.mem_of_getElem? (i := 1484) (by decide +kernel), List.mem_of_getElem? (i := 1485) (by decide +kernel)⟩
theorem lw_p62 : lw_okq (⟨"ForecastLabModel", "command", "()V"⟩, 24) := ⟨⟨by decide +kernel, by decide +kernel⟩, List.mem_of_getElem? (i := 1071) (by decide +kernel), List.mem_of_getElem? (i := 1488) (by decide +kernel), List.mem_of_getElem? (i := 1489) (by decide +kernel)⟩
theorem lw_p63 : lw_okq (⟨"ForecastLabModel", "word", "()I"⟩, 24) := ⟨⟨by decide +kernel, by decide +kernel⟩, List.mem_of_getElem? (i := 1071) (by decide +kernel), List.mem_of_getElem? (i := 1492) (by decide +kernel), List.mem_of_getElem? (i := 1493) (by decide +kernel)⟩
def lw_privs_4 : List (MethodName × Nat) := [(⟨"ForecastLabModel", "foresees", "(II)Z"⟩, 24), (⟨"ForecastLabModel", "next", "(II)D"⟩, 24), (⟨"ForecastLabModel", "foreseen", "(III)D"⟩, 24), (⟨"ForecastLabModel", "errorsOf", "(II)I"⟩, 24), (⟨"ForecastLabModel", "errorSumOf", "(II)D"⟩, 24), (⟨"ForecastLabModel", "error", "(III)D"⟩, 24), (⟨"ForecastLabModel", "pointsOf", "(II)I"⟩, 24), (⟨"ForecastLabModel", "winner", "(II)I"⟩, 24), (⟨"ForecastLabModel", "allErrors", "(I)I"⟩, 24), (⟨"ForecastLabModel", "meanErrorOf", "(I)D"⟩, 24), (⟨"ForecastLabModel", "allPoints", "(I)I"⟩, 24), (⟨"ForecastLabModel", "writeNumber", "(I)V"⟩, 24), (⟨"ForecastLabModel", "write", "(I)V"⟩, 24), (⟨"ForecastLabModel", "parse", "()V"⟩, 24), (⟨"ForecastLabModel", "command", "()V"⟩, 24), (⟨"ForecastLabModel", "word", "()I"⟩, 24)]
theorem lw_r4 : ∀ q ∈ lw_privs_4, lw_okq q := List.forall_mem_cons.mpr ⟨lw_p48, List.forall_mem_cons.mpr ⟨lw_p49, List.forall_mem_cons.mpr ⟨lw_p50, List.forall_mem_cons.mpr ⟨lw_p51, List.forall_mem_cons.mpr ⟨lw_p52, List.forall_mem_cons.mpr ⟨lw_p53, List.forall_mem_cons.mpr ⟨lw_p54, List.forall_mem_cons.mpr ⟨lw_p55, List.forall_mem_cons.mpr ⟨lw_p56, List.forall_mem_cons.mpr ⟨lw_p57, List.forall_mem_cons.mpr ⟨lw_p58, List.forall_mem_cons.mpr ⟨lw_p59, List.forall_mem_cons.mpr ⟨lw_p60, List.forall_mem_cons.mpr ⟨lw_p61, List.forall_mem_cons.mpr ⟨lw_p62, List.forall_mem_cons.mpr ⟨lw_p63, fun _ h => absurd h List.not_mem_nil⟩⟩⟩⟩⟩⟩⟩⟩⟩⟩⟩⟩⟩⟩⟩⟩
theorem lw_p64 : lw_okq (⟨"ForecastLabModel", "expect", "(I)V"⟩, 24) := ⟨⟨by decide +kernel, by decide +kernel⟩, List.mem_of_getElem? (i := 1071) (by decide +kernel), List.mem_of_getElem? (i := 1502) (by decide +kernel), List.mem_of_getElem? (i := 1503) (by decide +kernel)⟩
theorem lw_p65 : lw_okq (⟨"ForecastLabModel", "mark", "()I"⟩, 24) := ⟨⟨by decide +kernel, by decide +kernel⟩, List.mem_of_getElem? (i := 1071) (by decide +kernel), List.mem_of_getElem? (i := 1506) (by decide +kernel), List.mem_of_getElem? (i := 1507) (by decide +kernel)⟩
theorem lw_p66 : lw_okq (⟨"ForecastLabModel", "prophetKind", "()I"⟩, 24) := ⟨⟨by decide +kernel, by decide +kernel⟩, List.mem_of_getElem? (i := 1071) (by decide +kernel), List.mem_of_getElem? (i := 1510) (by decide +kernel), List.mem_of_getElem? (i := 1511) (by decide +kernel)⟩
theorem lw_p67 : lw_okq (⟨"ForecastLabModel", "number", "(I)I"⟩, 24) := ⟨⟨by decide +kernel, by decide +kernel⟩, List.mem_of_getElem? (i := 1071) (by decide +kernel), List.mem_of_getElem? (i := 1514) (by decide +kernel), List.mem_of_getElem? (i := 1515) (by decide +kernel)⟩
theorem lw_p68 : lw_okq (⟨"ForecastLabModel", "readsValue", "()V"⟩, 24) := ⟨⟨by decide +kernel, by decide +kernel⟩, List.mem_of_getElem? (i := 1071) (by decide +kernel), List.mem_of_getElem? (i := 1518) (by decide +kernel), List.mem_of_getElem? (i := 1519) (by decide +kernel)⟩
theorem lw_p69 : lw_okq (⟨"ForecastLabModel", "cannot", "(I)Z"⟩, 24) := ⟨⟨by decide +kernel, by decide +kernel⟩, List.mem_of_getElem? (i := 1071) (by decide +kernel), List.mem_of_getElem? (i := 1522) (by decide +kernel), List.mem_of_getElem? (i := 1523) (by decide +kernel)⟩
theorem lw_p70 : lw_okq (⟨"ForecastLabModel", "present", "(I)I"⟩, 24) := ⟨⟨by decide +kernel, by decide +kernel⟩, List.mem_of_getElem? (i := 1071) (by decide +kernel), List.mem_of_getElem? (i := 1530) (by decide +kernel), List.mem_of_getElem? (i := 1531) (by decide +kernel)⟩
def lw_privs_5 : List (MethodName × Nat) := [(⟨"ForecastLabModel", "expect", "(I)V"⟩, 24), (⟨"ForecastLabModel", "mark", "()I"⟩, 24), (⟨"ForecastLabModel", "prophetKind", "()I"⟩, 24), (⟨"ForecastLabModel", "number", "(I)I"⟩, 24), (⟨"ForecastLabModel", "readsValue", "()V"⟩, 24), (⟨"ForecastLabModel", "cannot", "(I)Z"⟩, 24), (⟨"ForecastLabModel", "present", "(I)I"⟩, 24)]
theorem lw_r5 : ∀ q ∈ lw_privs_5, lw_okq q := List.forall_mem_cons.mpr ⟨lw_p64, List.forall_mem_cons.mpr ⟨lw_p65, List.forall_mem_cons.mpr ⟨lw_p66, List.forall_mem_cons.mpr ⟨lw_p67, List.forall_mem_cons.mpr ⟨lw_p68, List.forall_mem_cons.mpr ⟨lw_p69, List.forall_mem_cons.mpr ⟨lw_p70, fun _ h => absurd h List.not_mem_nil⟩⟩⟩⟩⟩⟩⟩
def lw_privs : List (MethodName × Nat) := lw_privs_1 ++ (lw_privs_2 ++ (lw_privs_3 ++ (lw_privs_4 ++ (lw_privs_5))))
def lw_tbl : List Cond := k2_sels lw_privs ++ tables_1
theorem lw_privs_ok : ∀ q ∈ lw_privs, lw_okq q := by
  show ∀ q ∈ lw_privs_1 ++ (lw_privs_2 ++ (lw_privs_3 ++ (lw_privs_4 ++ (lw_privs_5)))), lw_okq q
  exact List.forall_mem_append.mpr ⟨lw_r1, List.forall_mem_append.mpr ⟨lw_r2, List.forall_mem_append.mpr ⟨lw_r3, List.forall_mem_append.mpr ⟨lw_r4, lw_r5⟩⟩⟩⟩
/-- the streams that the claim lets the run draw from -/
abbrev lw_cs : List Choice := [Jvm.Choice.named "NaN.bits"]
theorem lw_bits : nanBits ∈ lw_cs := by first | decide | exact List.mem_cons_self | simp [lw_cs, nanBits]
end
section
/-! ===== BEGIN words of one list among another's, by their places ===== -/
theorem goodIn_r {big : List Cond} (ws : List Cond) (ps : List Nat) (hp : ws = ps.filterMap (fun i => big[i]?)) (h : ws.all goodWord = true) : GoodIn big ws := by
  intro w hw
  have h1 := List.all_eq_true.mp h w hw
  rw [hp] at hw
  obtain ⟨i, -, hi⟩ := List.mem_filterMap.mp hw
  have hm : w ∈ big := by first | exact List.mem_of_getElem? hi | exact List.getElem?_mem hi
  exact ⟨hm, good_of_word h1⟩
theorem goodIn_app {big a b : List Cond} (ha : GoodIn big a) (hb : GoodIn big b) : GoodIn big (a ++ b) := fun w h => (List.mem_append.mp h).elim (ha w) (hb w)
theorem goodIn_ca {big a b : List Cond} {c : Cond} (ha : GoodIn big (c :: a)) (hb : GoodIn big b) : GoodIn big (c :: (a ++ b)) := fun w h => (List.mem_cons.mp h).elim (fun e => ha w (List.mem_cons.mpr (Or.inl e))) (fun h => (List.mem_append.mp h).elim (fun h => ha w (List.mem_cons.mpr (Or.inr h))) (hb w))
theorem goodIn_sub {big ws : List Cond} (hm : ∀ w ∈ ws, w ∈ big) (h : ws.all goodWord = true) : GoodIn big ws := fun w hw => ⟨hm w hw, good_of_word (List.all_eq_true.mp h w hw)⟩
/-! ===== END ===== -/

/-! ===== BEGIN exceptions that leave a method, and their catching by the caller (launches without stack traces) ===== -/
section VXA
/-! The laws vx_back, vx_callV, vx_callS, vx_callSW, vx_throw0, vx_throwS follow proofs of the library, with one case more: JvmDerived/Free/Laws.lean (Back.of_free), Shelf42/LK1.lean (callV, callS), Shelf/KitTraced.lean (throwNew0V, throwNewS). -/
/-- where a method has thrown q: the class by its name, the cell, what was written, the world -/
def vx_T (XC : String → State → State → Prop) (st : State) (q : Addr) (t : State) (mc ms : Nat) (free : Addr → Prop) : Prop :=
  ∃ (E : String) (ce : Cell) (L : List Loc), XC E st t ∧ t.heap[q]? = some ce ∧ ce.vm = .none ∧ st.vm.findClass E = some ce.cls ∧ st.WarmedH t.vm ∧ st.sameButNew ({ t with vm := st.vm } : State) L mc ms ∧ ∀ z ∈ L, free z.base
def vx_Q (Qc : Array Value → State → Outcome → State → Prop) (XC : String → State → State → Prop) (mc ms : Nat) (free : Addr → Prop) : Array Value → State → Outcome → State → Prop := fun a st o t =>
  (Qc a st o t ∧ ∃ L, FrameEnd st o t L mc ms ∧ ∀ q ∈ L, free q.base) ∨ ∃ q, o = .threw q ∧ vx_T XC st q t mc ms free
/-- a callee that returns or throws -/
def vx_Met (l : Launch) (y : MethodName) (ws : List Cond) (rm : Room) (Pc : Array Value → State → Prop) (Qc : Array Value → State → Outcome → State → Prop) (XC : String → State → State → Prop) (mc ms : Nat) (free : Addr → Prop) : Prop :=
  MetFree l y (headSpec ws rm) Pc (fun _ _ _ _ _ => True) (vx_Q Qc XC mc ms free)
def vx_Post (XC : String → State → State → Prop) (mc ms : Nat) (free : Addr → Prop) : Pt → Array Value → Addr → Pt → Prop := fun A a q B =>
  ∃ (g : JFrame) (mk : MethodId) (t : State) (L : List Loc) (E : String) (ce : Cell), B.U.heap = t.heap ∧ B.U.vm = t.vm ∧ XC E (A.U.calling g mk a) t ∧ t.heap[q]? = some ce ∧ ce.vm = .none ∧ A.U.vm.findClass E = some ce.cls ∧ B.locs = A.locs ++ L ∧ (∀ z ∈ L, free z.base) ∧ B.cells = A.cells + mc ∧ B.slots = A.slots + ms
def vx_Back (l : Launch) (R : Room) (p : Program) (e : Env) (below : List Frame) (s : State) (sargs : Array Value) (y : MethodName) (len W9 : Nat)
    (Pre : Pt → Array Value → Prop) (Post : Pt → Array Value → Option Value → Pt → Prop) (PostX : Pt → Array Value → Addr → Pt → Prop) : Prop :=
  ∀ (m : MethodId) (meth : Method) (c : Code) (A : Pt) (g : JFrame) (ig : Instr) (mk : MethodId) (a : Array Value),
    Stand p l e R s m sargs below meth c A.U A.locs A.cells A.slots → g.method = m → g.locals.size = c.maxLocals → decode c.code g.pc = .ok (ig, len) →
    2 * g.monitorRoom + (g.stack.map fun v => v.category).sum ≤ W9 → A.U.methodNamed? y = some mk → Pre A a →
    (∃ (v : Option Value) (B : Pt), Stand p l e R s m sargs below meth c B.U B.locs B.cells B.slots ∧ Post A a v B ∧
      Steps p.tables e below (doInvoke e (A.U.setTop g) [] mk a).1 (B.U.setTop { g with pc := g.pc + len, stack := v.toList ++ g.stack })) ∨
    (∃ (q : Addr) (B : Pt), Stand p l e R s m sargs below meth c B.U B.locs B.cells B.slots ∧ PostX A a q B ∧
      Steps p.tables e below (doInvoke e (A.U.setTop g) [] mk a).1 ((B.U.setTop g).pushFrame (.throwing q)))
section Payer
variable {l : Launch} {R : Room} {p : Program} {e : Env} {below : List Frame} {s : State} {sargs : Array Value} {y : MethodName} {len W9 : Nat}
theorem vx_back {ws : List Cond} {rm : Room} {Pc : Array Value → State → Prop} {Qc : Array Value → State → Outcome → State → Prop} {XC : String → State → State → Prop} {mc ms : Nat} {free : Addr → Prop} {bytes : ByteArray} {maxL : Nat} {ret : Option FieldType}
    (hM : vx_Met l y ws rm Pc Qc XC mc ms free) (hblind : FrameBlind Pc) (hrc : rm.cells = mc) (hrs : rm.slots = ms)
    (hframes : rm.frames + 1 ≤ R.frames) (hlocals : W9 + (maxL + 11) + rm.locals ≤ R.locals)
    (hws : ∀ w ∈ ws, ∀ a' U, s.WarmedH U.vm → w.before a' U = true) (hcode : Cond.code y bytes maxL ret ∈ ws) (hinit : ∀ a' U, s.WarmedH U.vm → (Cond.initialized y.cls).before a' U = true) :
    vx_Back l R p e below s sargs y len W9 (PreOf R mc ms Pc) (PostOf Qc mc ms free) (vx_Post XC mc ms free) := by
  intro m meth c A g ig mk a X hg hsize hdg hW hn hp
  have h1 : (headSpec ws rm).pre.before a A.U = true := atoms_intro fun w hw => hws w hw _ _ X.warmed
  have h2 : (Cond.code y bytes maxL ret).before a A.U = true := hws _ hcode _ _ X.warmed
  have h3 : (Cond.initialized y.cls).before a A.U = true := hinit _ _ X.warmed
  have h4 : A.cells + (headSpec ws rm).room.cells ≤ R.cells := by rw [show (headSpec ws rm).room.cells = mc from hrc]; exact hp.1
  have h5 : A.slots + (headSpec ws rm).room.slots ≤ R.slots := by rw [show (headSpec ws rm).room.slots = ms from hrs]; exact hp.2.1
  have hPc : Pc a (A.U.calling g mk a) := hblind _ _ _ _ hp.2.2
  obtain ⟨U, Ls, c0, s0⟩ := A
  dsimp only [Pt.U, Pt.locs, Pt.cells, Pt.slots] at h1 h2 h3 h4 h5 X hn hPc ⊢
  obtain ⟨methY, cY, hmY, hcY, -, hlY, -, -, -, -⟩ := Cond.code_spec hn h2
  obtain ⟨kY, hkY, -⟩ := className_of_methodNamed hn
  have hinitY : kY.init = .initialized := Cond.initialized_spec (findClass_of_methodNamed hn) hkY h3
  have h : At U g.method c below := by rw [hg]; exact X.here
  have hlocals9 : W9 + (maxL + 11) + (headSpec ws rm).room.locals ≤ R.locals := hlocals
  have happ : (headSpec ws rm).appliesLoose y e.platform (U.calling g mk a) = true :=
    Spec.appliesLoose_calling (g := g) h hdg hn hkY hinitY
      (X.room_calling (g := g) (R' := (headSpec ws rm).room) hsize hmY hcY hframes (by rw [hlY]; omega) h4 h5) h1
  obtain ⟨mid, hmid⟩ := h.above
  have hfr : (U.setTop g).frames = (.java g :: mid) ++ below := by rw [State.frames_setTop' g h.top, hmid]; rfl
  obtain ⟨o, s₂, hsteps, -, hend, hq⟩ := Steps.callFree hM p X.admits X.cas X.clock (acts := []) hfr happ hPc trivial
  have hq' : vx_Q Qc XC mc ms free a (U.calling g mk a) o s₂ := hq
  rw [State.frames_setTop' g h.top] at hend
  obtain ⟨g₀, hg0⟩ := Option.isSome_iff_exists.mp h.top
  obtain ⟨r, hr⟩ := State.topJava?_eq_some.mp hg0
  have hr' : (({ U with heap := s₂.heap, slotsUsed := s₂.slotsUsed } : State).setVm s₂.vm).frames = .java g₀ :: r := hr
  rcases hq' with ⟨hqc, L, hfe, hL⟩ | ⟨q, rfl, E, ce, L, hx, hce, hcv, hcl, hW₂, hsm, hL⟩
  · obtain ⟨⟨v, rfl⟩, hW₂, e2, q2, q3, q4, q5, q6⟩ := id hfe
    have e3 : s₂ = ({ (U.calling g mk a).setFrames s₂.frames with heap := s₂.heap, slotsUsed := s₂.slotsUsed } : State).setVm s₂.vm := by
      have : s₂ = ({ s₂ with vm := (U.calling g mk a).vm } : State).setVm s₂.vm := rfl
      rw [e2] at this
      exact this
    obtain ⟨c₂, i₂, len₂, hc₂, hd₂, hf₂⟩ := hend
    have hW' : U.WarmedH s₂.vm := hW₂
    have hcc : c₂ = c := by
      have h1 : s₂.code? g.method = U.code? g.method := by
        rw [State.code?_eq, State.code?_eq, hW'.alike.method?]
      exact Option.some.inj (hc₂.symm.trans (h1.trans h.code))
    subst hcc
    have hlen : len₂ = len := by rw [hdg] at hd₂; cases hd₂; rfl
    subst hlen
    have hs₂ : s₂ = (({ U with heap := s₂.heap, slotsUsed := s₂.slotsUsed } : State).setVm s₂.vm).setTop { g with pc := g.pc + len₂, stack := v.toList ++ g.stack } := by
      refine e3.trans ?_
      rw [hf₂, State.calling_eq h.top, State.setFrames_setFrames, State.setTop_of_frames _ hr', hr]
      rfl
    have hsame : U.sameButNew ({ U with heap := s₂.heap, slotsUsed := s₂.slotsUsed } : State) L mc ms := by
      refine ⟨?_, q2, q3, q4, q5, q6⟩
      obtain ⟨t, ht, -⟩ := State.frames_cons hr
      show ({ U with heap := s₂.heap, slotsUsed := s₂.slotsUsed } : State) = { U.setFrames U.frames with heap := s₂.heap, slotsUsed := s₂.slotsUsed }
      rw [State.setFrames_self ht]
    subst hg
    refine Or.inl ⟨v, ⟨(({ U with heap := s₂.heap, slotsUsed := s₂.slotsUsed } : State).setVm s₂.vm), Ls ++ L, c0 + mc, s0 + ms⟩,
      ⟨X.admits, X.cas, X.clock, X.frames, X.room, X.hears, X.method, X.code, (X.here.setHeapUsed s₂.heap s₂.slotsUsed).setVm hW'.alike, X.tail, State.WarmedH.trans X.warmed hW', X.limits, X.bytes, X.same.trans (hsame.setVm s.vm)⟩,
      ⟨g, mk, s₂, L, rfl, rfl, hqc, rfl, hL, rfl, rfl⟩, ?_⟩
    show Steps p.tables e below _ ((({ U with heap := s₂.heap, slotsUsed := s₂.slotsUsed } : State).setVm s₂.vm).setTop { g with pc := g.pc + len₂, stack := v.toList ++ g.stack })
    rw [← hs₂]
    exact hsteps
  · obtain ⟨e2, q2, q3, q4, q5, q6⟩ := id hsm
    have e3 : s₂ = ({ (U.calling g mk a).setFrames s₂.frames with heap := s₂.heap, slotsUsed := s₂.slotsUsed } : State).setVm s₂.vm := by
      have : s₂ = ({ s₂ with vm := (U.calling g mk a).vm } : State).setVm s₂.vm := rfl
      rw [e2] at this
      exact this
    have hf₂ : s₂.frames = .throwing q :: .java g :: U.frames.tail := hend
    have hW' : U.WarmedH s₂.vm := hW₂
    have hs₂ : s₂ = ((({ U with heap := s₂.heap, slotsUsed := s₂.slotsUsed } : State).setVm s₂.vm).setTop g).pushFrame (.throwing q) := by
      refine e3.trans ?_
      rw [hf₂, State.calling_eq h.top, State.setFrames_setFrames, State.pushFrame, State.frames_setTop _ hr', State.setTop_of_frames _ hr', State.setFrames_setFrames, hr]
      rfl
    have hsame : U.sameButNew ({ U with heap := s₂.heap, slotsUsed := s₂.slotsUsed } : State) L mc ms := by
      refine ⟨?_, q2, q3, q4, q5, q6⟩
      obtain ⟨t, ht, -⟩ := State.frames_cons hr
      show ({ U with heap := s₂.heap, slotsUsed := s₂.slotsUsed } : State) = { U.setFrames U.frames with heap := s₂.heap, slotsUsed := s₂.slotsUsed }
      rw [State.setFrames_self ht]
    subst hg
    refine Or.inr ⟨q, ⟨(({ U with heap := s₂.heap, slotsUsed := s₂.slotsUsed } : State).setVm s₂.vm), Ls ++ L, c0 + mc, s0 + ms⟩,
      ⟨X.admits, X.cas, X.clock, X.frames, X.room, X.hears, X.method, X.code, (X.here.setHeapUsed s₂.heap s₂.slotsUsed).setVm hW'.alike, X.tail, State.WarmedH.trans X.warmed hW', X.limits, X.bytes, X.same.trans (hsame.setVm s.vm)⟩,
      ⟨g, mk, s₂, L, E, ce, rfl, rfl, hx, hce, hcv, hcl, rfl, hL, rfl, rfl⟩, ?_⟩
    show Steps p.tables e below _ (((({ U with heap := s₂.heap, slotsUsed := s₂.slotsUsed } : State).setVm s₂.vm).setTop g).pushFrame (.throwing q))
    rw [← hs₂]
    exact hsteps
end Payer
section Calls
variable {p : Program} {l : Launch} {e : Env} {R : Room} {s : State} {m : MethodId} {args : Array Value} {below : List Frame} {meth : Method} {c : Code} {T : State} {locs : List Loc} {cells slots : Nat}
theorem vx_callV (X : Stand p l e R s m args below meth c T locs cells slots) (hexec : p.tables.exec = Jvm.exec) {own C : String} {index : Nat} {y : MethodName} {bytes : ByteArray} {maxL : Nat} {ret : Option FieldType}
    (hown : s.vm.findClass own = some m.cls) (hlink : (Cond.methodLink own index y).before args s = true) (hinst : (Cond.instanceMethod y).before args s = true) (hsel : (Cond.selects C y y).before args s = true)
    (hcode : (Cond.code y bytes maxL ret).before args s = true) (hy : y.cls ≠ "java/lang/invoke/MethodHandle" ∧ y.cls ≠ "java/lang/invoke/VarHandle")
    {W9 : Nat} {Pre : Pt → Array Value → Prop} {Post : Pt → Array Value → Option Value → Pt → Prop} {PostX : Pt → Array Value → Addr → Pt → Prop} (hK : vx_Back l R p e below s args y 3 W9 Pre Post PostX)
    {b : Addr} {cellB : Cell} (hcell : T.heap[b]? = some cellB) (hobj : cellB.vm.isStatics = false) (hcls : s.vm.findClass C = some cellB.cls)
    {g : JFrame} (hg : g.method = m) (hsize : g.locals.size = c.maxLocals) {argsL rest : List Value} (hlen : ∀ sig, parseMethodDescriptor y.desc = some sig → argsL.length = sig.parameters.length)
    (hstack : g.stack = argsL.reverse ++ .ref b :: rest) (hW : 2 * g.monitorRoom + (rest.map fun v => v.category).sum ≤ W9) (hdg : decode c.code g.pc = .ok (.invokevirtual index, 3))
    (hpre : ∀ vm₁, s.WarmedH vm₁ → Pre ⟨T.setVm vm₁, locs, cells, slots⟩ (Value.ref b :: argsL).toArray) :
    (∃ (v : Option Value) (vm₁ : Vm) (B : Pt), s.WarmedH vm₁ ∧ Stand p l e R s m args below meth c B.U B.locs B.cells B.slots ∧ Post ⟨T.setVm vm₁, locs, cells, slots⟩ (Value.ref b :: argsL).toArray v B ∧
      ∀ target, Steps p.tables e below (B.U.setTop { g with pc := g.pc + 3, stack := v.toList ++ rest }) target → Steps p.tables e below (T.setTop g) target) ∨
    (∃ (q : Addr) (vm₁ : Vm) (B : Pt), s.WarmedH vm₁ ∧ Stand p l e R s m args below meth c B.U B.locs B.cells B.slots ∧ PostX ⟨T.setVm vm₁, locs, cells, slots⟩ (Value.ref b :: argsL).toArray q B ∧
      Steps p.tables e below (T.setTop g) ((B.U.setTop { g with stack := rest }).pushFrame (.throwing q))) := by
  obtain ⟨mk, methM, hnamed, hmethM, hstM, habM⟩ := Cond.instanceMethod_spec hinst
  obtain ⟨methM', cM, hmethM', -, -, -, -, -, -, hsigM⟩ := Cond.code_spec hnamed hcode
  cases hmethM.symm.trans hmethM'
  obtain ⟨c2, r2, m2, q1, q2, q3, q4, kP, hkP, hkPi⟩ := Cond.selects_spec hsel
  cases hcls.symm.trans q1
  cases (State.methodFound?_of_named hnamed hy).symm.trans q2
  cases hnamed.symm.trans q3
  have hselP : selectMethod e.platform s.vm cellB.cls mk = .method mk := by rw [Launch.admits_selectMethod X.admits]; exact q4
  obtain ⟨vm₁, X₁, hstep₁⟩ := X.invokevirtual hexec hown hlink hnamed hmethM hstM hkP hkPi hy (a := b) (cell := cellB) hcell
    (fun z h => by rw [h] at hobj; cases hobj) hselP hmethM habM hkP hkPi (g := g) hg (argsL := argsL) (rest := rest) (hlen _ hsigM) hstack hdg
  rcases hK m meth c ⟨T.setVm vm₁, locs, cells, slots⟩ { g with stack := rest } (.invokevirtual index) mk (Value.ref b :: argsL).toArray X₁ hg hsize hdg hW (X₁.named hnamed) (hpre vm₁ X₁.warmed) with ⟨v, B, X', hpost, hsteps⟩ | ⟨q, B, X', hpost, hsteps⟩
  · exact Or.inl ⟨v, vm₁, B, X₁.warmed, X', hpost, fun target h => hstep₁ _ fun acts => by rw [doInvoke_state]; exact hsteps.trans h⟩
  · exact Or.inr ⟨q, vm₁, B, X₁.warmed, X', hpost, hstep₁ _ fun acts => by rw [doInvoke_state]; exact hsteps⟩
theorem vx_callS (X : Stand p l e R s m args below meth c T locs cells slots) (hexec : p.tables.exec = Jvm.exec) {own : String} {index : Nat} {y : MethodName} {bytes : ByteArray} {maxL : Nat} {ret : Option FieldType}
    (hown : s.vm.findClass own = some m.cls) (hlink : (Cond.methodLink own index y).before args s = true) (hstat : (Cond.static y).before args s = true) (hinit : (Cond.initialized y.cls).before args s = true)
    (hcode : (Cond.code y bytes maxL ret).before args s = true) (hy : y.cls ≠ "java/lang/invoke/MethodHandle" ∧ y.cls ≠ "java/lang/invoke/VarHandle")
    {W9 : Nat} {Pre : Pt → Array Value → Prop} {Post : Pt → Array Value → Option Value → Pt → Prop} {PostX : Pt → Array Value → Addr → Pt → Prop} (hK : vx_Back l R p e below s args y 3 W9 Pre Post PostX)
    {g : JFrame} (hg : g.method = m) (hsize : g.locals.size = c.maxLocals) {argsL rest : List Value} (hlen : ∀ sig, parseMethodDescriptor y.desc = some sig → argsL.length = sig.parameters.length)
    (hstack : g.stack = argsL.reverse ++ rest) (hW : 2 * g.monitorRoom + (rest.map fun v => v.category).sum ≤ W9) (hdg : decode c.code g.pc = .ok (.invokestatic index, 3))
    (hpre : ∀ vm₁, s.WarmedH vm₁ → Pre ⟨T.setVm vm₁, locs, cells, slots⟩ argsL.toArray) :
    (∃ (v : Option Value) (vm₁ : Vm) (B : Pt), s.WarmedH vm₁ ∧ Stand p l e R s m args below meth c B.U B.locs B.cells B.slots ∧ Post ⟨T.setVm vm₁, locs, cells, slots⟩ argsL.toArray v B ∧
      ∀ target, Steps p.tables e below (B.U.setTop { g with pc := g.pc + 3, stack := v.toList ++ rest }) target → Steps p.tables e below (T.setTop g) target) ∨
    (∃ (q : Addr) (vm₁ : Vm) (B : Pt), s.WarmedH vm₁ ∧ Stand p l e R s m args below meth c B.U B.locs B.cells B.slots ∧ PostX ⟨T.setVm vm₁, locs, cells, slots⟩ argsL.toArray q B ∧
      Steps p.tables e below (T.setTop g) ((B.U.setTop { g with stack := rest }).pushFrame (.throwing q))) := by
  obtain ⟨mk, hnamed⟩ := Cond.code_named hcode
  obtain ⟨methM, cM, hmethM, -, -, -, -, -, -, hsigM⟩ := Cond.code_spec hnamed hcode
  have hstatic : methM.isStatic = true := Cond.static_spec hnamed hmethM hstat
  obtain ⟨kP, hkP, -⟩ := className_of_methodNamed hnamed
  have hinitP : kP.init = .initialized := Cond.initialized_spec (findClass_of_methodNamed hnamed) hkP hinit
  obtain ⟨vm₁, X₁, hstep₁⟩ := X.invokestatic hexec hown hlink hnamed hmethM hstatic hkP hinitP hy (g := g) hg (argsL := argsL) (rest := rest) (hlen _ hsigM) hstack hdg
  rcases hK m meth c ⟨T.setVm vm₁, locs, cells, slots⟩ { g with stack := rest } (.invokestatic index) mk argsL.toArray X₁ hg hsize hdg hW (X₁.named hnamed) (hpre vm₁ X₁.warmed) with ⟨v, B, X', hpost, hsteps⟩ | ⟨q, B, X', hpost, hsteps⟩
  · exact Or.inl ⟨v, vm₁, B, X₁.warmed, X', hpost, fun target h => hstep₁ _ fun acts => by rw [doInvoke_state]; exact hsteps.trans h⟩
  · exact Or.inr ⟨q, vm₁, B, X₁.warmed, X', hpost, hstep₁ _ fun acts => by rw [doInvoke_state]; exact hsteps⟩
end Calls
theorem vx_cls {s : State} {T : State} {vm₁ : Vm} {E : String} {k : ClassId} (hW : s.WarmedH vm₁) (h : (T.setVm vm₁).vm.findClass E = some k) : s.vm.findClass E = some k := by
  have h1 : vm₁.findClass E = some k := h
  rw [hW.alike.findClass] at h1
  exact h1
/-- the method's frame g, with q thrown over it -/
def vx_W (p : Program) (l : Launch) (e : Env) (R : Room) (s : State) (m : MethodId) (args : Array Value) (below : List Frame) (meth : Method) (c : Code) (H : Heap) (locs : List Loc) (cells slots : Nat) (Q : State → Prop) (g : JFrame) (q : Addr) : Prop :=
  ∀ T : State, T.heap = H → Stand p l e R s m args below meth c T locs cells slots → ∃ t, Steps p.tables e below ((T.setTop g).pushFrame (.throwing q)) t ∧ Q t
def vx_Run (p : Program) (l : Launch) (e : Env) (R : Room) (s : State) (m : MethodId) (args : Array Value) (below : List Frame) (meth : Method) (c : Code) (H : Heap) (locs : List Loc) (cells slots mc ms : Nat) (g : JFrame) (rest : List Value) (Qa : State → Outcome → State → Prop) (XC : String → State → State → Prop) (free : Addr → Prop) : Prop :=
  ∀ T : State, T.heap = H → Stand p l e R s m args below meth c T locs cells slots →
    (∃ (v : Option Value) (st₀ t T' : State) (L : List Loc), st₀.heap = H ∧ Stand p l e R s m args below meth c T' (locs ++ L) (cells + mc) (slots + ms) ∧ (∀ q ∈ L, free q.base) ∧ T'.heap = t.heap ∧ T'.vm = t.vm ∧ Qa st₀ (.returned v) t ∧
      Goes p e below T g T' { g with pc := g.pc + 3, stack := v.toList ++ rest }) ∨
    (∃ (q : Addr) (st₀ t T' : State) (L : List Loc) (E : String) (ce : Cell), st₀.heap = H ∧ Stand p l e R s m args below meth c T' (locs ++ L) (cells + mc) (slots + ms) ∧ (∀ z ∈ L, free z.base) ∧ T'.heap = t.heap ∧ T'.vm = t.vm ∧ XC E st₀ t ∧ t.heap[q]? = some ce ∧ ce.vm = .none ∧ s.vm.findClass E = some ce.cls ∧
      Steps p.tables e below (T.setTop g) ((T'.setTop { g with stack := rest }).pushFrame (.throwing q)))
def vx_X {S : Type} (px : S → Prop) (B : String → S → State → Prop) (A : Nat → Prop) : String → State → State → Prop := fun E st t => ∃ u : S, px u ∧ B E u t ∧ va_F A st t
section Runs
variable {p : Program} {l : Launch} {e : Env} {R : Room} {s : State} {m : MethodId} {args : Array Value} {below : List Frame} {meth : Method} {c : Code} {H : Heap} {locs : List Loc} {cells slots : Nat}
variable {y : MethodName} {bytes cc : ByteArray} {maxL nL mc ms n index : Nat} {ret : Option FieldType} {ws : List Cond} {rm : Room} {Pc : Array Value → State → Prop} {Qc : Array Value → State → Outcome → State → Prop} {XC : String → State → State → Prop} {free : Addr → Prop} {Ts : List Cond} {own C : String} {b : Addr} {As rest : List Value} {g : JFrame}
theorem vx_callBack (cb : CallB R s args own index y bytes maxL ret ws rm mc ms n) (hM : vx_Met l y ws rm Pc Qc XC mc ms free) (hbl : FrameBlind Pc) : vx_Back l R p e below s args y 3 8 (PreOf R mc ms Pc) (PostOf Qc mc ms free) (vx_Post XC mc ms free) := by
  obtain ⟨hrc, hrs, hfr, hlo, hws, hcw, -, hini, -⟩ := cb
  exact vx_back (bytes := bytes) (maxL := maxL) (ret := ret) hM hbl hrc hrs hfr hlo hws hcw (fun a' U hW => word_at hW (Or.inl (by first | rfl | simp [Cond.onTables, Cond.keeps, Cond.steady])) hini)
theorem vx_runV (S : CallFix p m c cc nL s args Ts own) (hM : vx_Met l y ws rm Pc Qc XC mc ms free) (cw : CallW R s args own C index y bytes maxL ret ws rm mc ms n) (hp : PreV s H C b Pc As)
    (hg : g.method = m) (hn : As.length = n) (hsize : g.locals.size = nL) (hstack : g.stack = As.reverse ++ .ref b :: rest) (hW : 2 * g.monitorRoom + (rest.map fun v => v.category).sum ≤ 8) (hdg : decode cc g.pc = .ok (.invokevirtual index, 3)) (hf : cells + mc ≤ R.cells ∧ slots + ms ≤ R.slots) :
    vx_Run p l e R s m args below meth c H locs cells slots mc ms g rest (Qc (Value.ref b :: As).toArray) XC free := by
  have hK : vx_Back l R p e below s args y 3 8 (PreOf R mc ms Pc) (PostOf Qc mc ms free) (vx_Post XC mc ms free) := vx_callBack cw.1 hM hp.1
  obtain ⟨⟨-, -, -, -, -, -, hcode, -, hy, hlen, hl⟩, hin, hse⟩ := cw
  obtain ⟨hx, hb, hml, ho, -⟩ := S
  obtain ⟨-, ⟨cellB, hcB, hoB, hclB⟩, hPc⟩ := hp
  intro T hT X
  rcases vx_callV X hx (C := C) (bytes := bytes) (maxL := maxL) (ret := ret) ho hl hin hse hcode hy hK (by rw [hT]; exact hcB) hoB hclB hg (hsize.trans hml.symm) (argsL := As) (rest := rest) (fun sig h => hn.trans (hlen sig h)) hstack hW (by rw [hb]; exact hdg)
    (fun vm₁ hW₁ => ⟨hf.1, hf.2, hPc (T.setVm vm₁) hT hW₁⟩) with ⟨v, vm₁, ⟨U', l2, c2, s2⟩, hW₁, X', ⟨g', mk, t, L, e1, e2, hq, h1, hL, h2, h3⟩, st⟩ | ⟨q, vm₁, ⟨U', l2, c2, s2⟩, hW₁, X', ⟨g', mk, t, L, E, ce, e1, e2, hq, hce, hcv, hcl, h1, hL, h2, h3⟩, st⟩
  · dsimp only [Pt.U, Pt.locs, Pt.cells, Pt.slots] at X' e1 e2 h1 h2 h3 st
    subst h1; subst h2; subst h3
    exact Or.inl ⟨v, (T.setVm vm₁).calling g' mk (Value.ref b :: As).toArray, t, U', L, hT, X', hL, e1, e2, hq, st⟩
  · dsimp only [Pt.U, Pt.locs, Pt.cells, Pt.slots] at X' e1 e2 h1 h2 h3 st hcl
    subst h1; subst h2; subst h3
    exact Or.inr ⟨q, (T.setVm vm₁).calling g' mk (Value.ref b :: As).toArray, t, U', L, E, ce, hT, X', hL, e1, e2, hq, hce, hcv, vx_cls hW₁ hcl, st⟩
theorem vx_runS (S : CallFix p m c cc nL s args Ts own) (hM : vx_Met l y ws rm Pc Qc XC mc ms free) (cw : CallB R s args own index y bytes maxL ret ws rm mc ms n ∧ (Cond.static y).before args s = true) (hp : PreS s H Pc As)
    (hg : g.method = m) (hn : As.length = n) (hsize : g.locals.size = nL) (hstack : g.stack = As.reverse ++ rest) (hW : 2 * g.monitorRoom + (rest.map fun v => v.category).sum ≤ 8) (hdg : decode cc g.pc = .ok (.invokestatic index, 3)) (hf : cells + mc ≤ R.cells ∧ slots + ms ≤ R.slots) :
    vx_Run p l e R s m args below meth c H locs cells slots mc ms g rest (Qc As.toArray) XC free := by
  have hK : vx_Back l R p e below s args y 3 8 (PreOf R mc ms Pc) (PostOf Qc mc ms free) (vx_Post XC mc ms free) := vx_callBack cw.1 hM hp.1
  obtain ⟨⟨-, -, -, -, -, -, hcode, hini, hy, hlen, hl⟩, hstt⟩ := cw
  obtain ⟨hx, hb, hml, ho, -⟩ := S
  intro T hT X
  rcases vx_callS X hx (bytes := bytes) (maxL := maxL) (ret := ret) ho hl hstt hini hcode hy hK hg (hsize.trans hml.symm) (argsL := As) (rest := rest) (fun sig h => hn.trans (hlen sig h)) hstack hW (by rw [hb]; exact hdg)
    (fun vm₁ hW₁ => ⟨hf.1, hf.2, hp.2 (T.setVm vm₁) hT hW₁⟩) with ⟨v, vm₁, ⟨U', l2, c2, s2⟩, hW₁, X', ⟨g', mk, t, L, e1, e2, hq, h1, hL, h2, h3⟩, st⟩ | ⟨q, vm₁, ⟨U', l2, c2, s2⟩, hW₁, X', ⟨g', mk, t, L, E, ce, e1, e2, hq, hce, hcv, hcl, h1, hL, h2, h3⟩, st⟩
  · dsimp only [Pt.U, Pt.locs, Pt.cells, Pt.slots] at X' e1 e2 h1 h2 h3 st
    subst h1; subst h2; subst h3
    exact Or.inl ⟨v, (T.setVm vm₁).calling g' mk As.toArray, t, U', L, hT, X', hL, e1, e2, hq, st⟩
  · dsimp only [Pt.U, Pt.locs, Pt.cells, Pt.slots] at X' e1 e2 h1 h2 h3 st hcl
    subst h1; subst h2; subst h3
    exact Or.inr ⟨q, (T.setVm vm₁).calling g' mk As.toArray, t, U', L, E, ce, hT, X', hL, e1, e2, hq, hce, hcv, vx_cls hW₁ hcl, st⟩
end Runs
section Rows
variable {p : Program} {l : Launch} {e : Env} {R : Room} {s : State} {m : MethodId} {args : Array Value} {below : List Frame} {meth : Method} {c : Code} {H : Heap} {locs : List Loc} {cells slots : Nat} {Q : State → Prop}
variable {mc ms : Nat} {free : Addr → Prop} {A0 A1 : Nat → Prop} {H0 : Heap} {a : Array Value} {pc : Nat} {ls : Array Slot} {st0 rest : List Value}
theorem vx_keep {st₀ t T' : State} {L : List Loc} (h0 : st₀.heap = H) (e1 : T'.heap = t.heap) (hS : va_S A0 H0 H locs) (hA : ∀ q, q < H.size → A1 q → A0 q) (hf : ∀ q, free q → A0 q) (hL : ∀ q ∈ L, free q.base) (hF : va_F A1 st₀ t) :
    H.size ≤ T'.heap.size ∧ (∀ q : Nat, q < H.size → ¬ A1 q → T'.heap[q]? = H[q]?) ∧ va_S A0 H0 T'.heap (locs ++ L) := by
  obtain ⟨hz, hk⟩ := hF
  rw [h0] at hz hk
  exact ⟨by rw [e1]; exact hz, fun q h1 h2 => by rw [e1]; exact hk q h1 h2,
    ⟨Nat.le_trans hS.1 (by rw [e1]; exact hz), fun q h1 h2 => by rw [e1, hk q (Nat.lt_of_lt_of_le h1 hS.1) (fun z => h2 (hA q (Nat.lt_of_lt_of_le h1 hS.1) z))]; exact hS.2.1 q h1 h2, fun q hq => by
      rcases List.mem_append.mp hq with h | h
      · exact hS.2.2 q h
      · exact hf _ (hL q h)⟩⟩
theorem vx_calli {S SX : Type} {post : Int32 → S → Prop} {px : SX → Prop} {B : S → State → Prop} {BX : String → SX → State → Prop} {AX : Nat → Prop} (hr : vx_Run p l e R s m args below meth c H locs cells slots mc ms (F0 m pc ls st0) rest (va_Qi post B A1 a) (vx_X px BX AX) free) (hS : va_S A0 H0 H locs) (hA : ∀ q, q < H.size → A1 q → A0 q) (hf : ∀ q, free q → A0 q) (hAX : ∀ q, q < H.size → AX q → A0 q)
    (kx : ∀ (E : String) (ce : Cell) (q9 : Addr) (u : SX) (t : State) (H1 : Heap) (locs1 : List Loc), t.heap = H1 → s.vm.Alike t.vm → px u → BX E u t → H.size ≤ H1.size → (∀ q : Nat, q < H.size → ¬ AX q → H1[q]? = H[q]?) → va_S A0 H0 H1 locs1 → H1[q9]? = some ce → ce.vm = .none → s.vm.findClass E = some ce.cls → vx_W p l e R s m args below meth c H1 locs1 (cells + mc) (slots + ms) Q (F0 m pc ls rest) q9)
    (kk : ∀ (r : Int32) (u : S) (t : State) (H1 : Heap) (locs1 : List Loc), t.heap = H1 → s.vm.Alike t.vm → post r u → B u t → H.size ≤ H1.size → (∀ q : Nat, q < H.size → ¬ A1 q → H1[q]? = H[q]?) → va_S A0 H0 H1 locs1 → W p l e R s m args below meth c H1 locs1 (cells + mc) (slots + ms) Q (F0 m (pc + 3) ls (.int r :: rest))) : W p l e R s m args below meth c H locs cells slots Q (F0 m pc ls st0) := by
  intro T hT X
  rcases hr T hT X with ⟨v, st₀, t, T', L, h0, X', hL, e1, e2, ⟨⟨r, u, hv, hp, hb⟩, hF⟩, st⟩ | ⟨q, st₀, t, T', L, E, ce, h0, X', hL, e1, e2, ⟨u, hp, hb, hF⟩, hce, hcv, hcl, st⟩
  · cases hv
    obtain ⟨k1, k2, k3⟩ := vx_keep h0 e1 hS hA hf hL hF
    obtain ⟨t2, a1, b1⟩ := kk r u t T'.heap (locs ++ L) e1.symm (by rw [← e2]; exact X'.warmed.alike) hp hb k1 k2 k3 T' rfl X'
    exact ⟨t2, st t2 a1, b1⟩
  · obtain ⟨k1, k2, k3⟩ := vx_keep h0 e1 hS hAX hf hL hF
    obtain ⟨t2, a1, b1⟩ := kx E ce q u t T'.heap (locs ++ L) e1.symm (by rw [← e2]; exact X'.warmed.alike) hp hb k1 k2 k3 (by rw [e1]; exact hce) hcv hcl T' rfl X'
    exact ⟨t2, st.trans a1, b1⟩
theorem vx_calll {S SX : Type} {post : Int64 → S → Prop} {px : SX → Prop} {B : S → State → Prop} {BX : String → SX → State → Prop} {AX : Nat → Prop} (hr : vx_Run p l e R s m args below meth c H locs cells slots mc ms (F0 m pc ls st0) rest (va_Ql post B A1 a) (vx_X px BX AX) free) (hS : va_S A0 H0 H locs) (hA : ∀ q, q < H.size → A1 q → A0 q) (hf : ∀ q, free q → A0 q) (hAX : ∀ q, q < H.size → AX q → A0 q)
    (kx : ∀ (E : String) (ce : Cell) (q9 : Addr) (u : SX) (t : State) (H1 : Heap) (locs1 : List Loc), t.heap = H1 → s.vm.Alike t.vm → px u → BX E u t → H.size ≤ H1.size → (∀ q : Nat, q < H.size → ¬ AX q → H1[q]? = H[q]?) → va_S A0 H0 H1 locs1 → H1[q9]? = some ce → ce.vm = .none → s.vm.findClass E = some ce.cls → vx_W p l e R s m args below meth c H1 locs1 (cells + mc) (slots + ms) Q (F0 m pc ls rest) q9)
    (kk : ∀ (r : Int64) (u : S) (t : State) (H1 : Heap) (locs1 : List Loc), t.heap = H1 → s.vm.Alike t.vm → post r u → B u t → H.size ≤ H1.size → (∀ q : Nat, q < H.size → ¬ A1 q → H1[q]? = H[q]?) → va_S A0 H0 H1 locs1 → W p l e R s m args below meth c H1 locs1 (cells + mc) (slots + ms) Q (F0 m (pc + 3) ls (.long r :: rest))) : W p l e R s m args below meth c H locs cells slots Q (F0 m pc ls st0) := by
  intro T hT X
  rcases hr T hT X with ⟨v, st₀, t, T', L, h0, X', hL, e1, e2, ⟨⟨r, u, hv, hp, hb⟩, hF⟩, st⟩ | ⟨q, st₀, t, T', L, E, ce, h0, X', hL, e1, e2, ⟨u, hp, hb, hF⟩, hce, hcv, hcl, st⟩
  · cases hv
    obtain ⟨k1, k2, k3⟩ := vx_keep h0 e1 hS hA hf hL hF
    obtain ⟨t2, a1, b1⟩ := kk r u t T'.heap (locs ++ L) e1.symm (by rw [← e2]; exact X'.warmed.alike) hp hb k1 k2 k3 T' rfl X'
    exact ⟨t2, st t2 a1, b1⟩
  · obtain ⟨k1, k2, k3⟩ := vx_keep h0 e1 hS hAX hf hL hF
    obtain ⟨t2, a1, b1⟩ := kx E ce q u t T'.heap (locs ++ L) e1.symm (by rw [← e2]; exact X'.warmed.alike) hp hb k1 k2 k3 (by rw [e1]; exact hce) hcv hcl T' rfl X'
    exact ⟨t2, st.trans a1, b1⟩
theorem vx_callf {S SX : Type} {post : UInt32 → S → Prop} {px : SX → Prop} {B : S → State → Prop} {BX : String → SX → State → Prop} {AX : Nat → Prop} (hr : vx_Run p l e R s m args below meth c H locs cells slots mc ms (F0 m pc ls st0) rest (va_Qf post B A1 a) (vx_X px BX AX) free) (hS : va_S A0 H0 H locs) (hA : ∀ q, q < H.size → A1 q → A0 q) (hf : ∀ q, free q → A0 q) (hAX : ∀ q, q < H.size → AX q → A0 q)
    (kx : ∀ (E : String) (ce : Cell) (q9 : Addr) (u : SX) (t : State) (H1 : Heap) (locs1 : List Loc), t.heap = H1 → s.vm.Alike t.vm → px u → BX E u t → H.size ≤ H1.size → (∀ q : Nat, q < H.size → ¬ AX q → H1[q]? = H[q]?) → va_S A0 H0 H1 locs1 → H1[q9]? = some ce → ce.vm = .none → s.vm.findClass E = some ce.cls → vx_W p l e R s m args below meth c H1 locs1 (cells + mc) (slots + ms) Q (F0 m pc ls rest) q9)
    (kk : ∀ (r : UInt32) (u : S) (t : State) (H1 : Heap) (locs1 : List Loc), t.heap = H1 → s.vm.Alike t.vm → post r u → B u t → H.size ≤ H1.size → (∀ q : Nat, q < H.size → ¬ A1 q → H1[q]? = H[q]?) → va_S A0 H0 H1 locs1 → W p l e R s m args below meth c H1 locs1 (cells + mc) (slots + ms) Q (F0 m (pc + 3) ls (.float r :: rest))) : W p l e R s m args below meth c H locs cells slots Q (F0 m pc ls st0) := by
  intro T hT X
  rcases hr T hT X with ⟨v, st₀, t, T', L, h0, X', hL, e1, e2, ⟨⟨r, u, hv, hp, hb⟩, hF⟩, st⟩ | ⟨q, st₀, t, T', L, E, ce, h0, X', hL, e1, e2, ⟨u, hp, hb, hF⟩, hce, hcv, hcl, st⟩
  · cases hv
    obtain ⟨k1, k2, k3⟩ := vx_keep h0 e1 hS hA hf hL hF
    obtain ⟨t2, a1, b1⟩ := kk r u t T'.heap (locs ++ L) e1.symm (by rw [← e2]; exact X'.warmed.alike) hp hb k1 k2 k3 T' rfl X'
    exact ⟨t2, st t2 a1, b1⟩
  · obtain ⟨k1, k2, k3⟩ := vx_keep h0 e1 hS hAX hf hL hF
    obtain ⟨t2, a1, b1⟩ := kx E ce q u t T'.heap (locs ++ L) e1.symm (by rw [← e2]; exact X'.warmed.alike) hp hb k1 k2 k3 (by rw [e1]; exact hce) hcv hcl T' rfl X'
    exact ⟨t2, st.trans a1, b1⟩
theorem vx_calld {S SX : Type} {post : UInt64 → S → Prop} {px : SX → Prop} {B : S → State → Prop} {BX : String → SX → State → Prop} {AX : Nat → Prop} (hr : vx_Run p l e R s m args below meth c H locs cells slots mc ms (F0 m pc ls st0) rest (va_Qd post B A1 a) (vx_X px BX AX) free) (hS : va_S A0 H0 H locs) (hA : ∀ q, q < H.size → A1 q → A0 q) (hf : ∀ q, free q → A0 q) (hAX : ∀ q, q < H.size → AX q → A0 q)
    (kx : ∀ (E : String) (ce : Cell) (q9 : Addr) (u : SX) (t : State) (H1 : Heap) (locs1 : List Loc), t.heap = H1 → s.vm.Alike t.vm → px u → BX E u t → H.size ≤ H1.size → (∀ q : Nat, q < H.size → ¬ AX q → H1[q]? = H[q]?) → va_S A0 H0 H1 locs1 → H1[q9]? = some ce → ce.vm = .none → s.vm.findClass E = some ce.cls → vx_W p l e R s m args below meth c H1 locs1 (cells + mc) (slots + ms) Q (F0 m pc ls rest) q9)
    (kk : ∀ (r : UInt64) (u : S) (t : State) (H1 : Heap) (locs1 : List Loc), t.heap = H1 → s.vm.Alike t.vm → post r u → B u t → H.size ≤ H1.size → (∀ q : Nat, q < H.size → ¬ A1 q → H1[q]? = H[q]?) → va_S A0 H0 H1 locs1 → W p l e R s m args below meth c H1 locs1 (cells + mc) (slots + ms) Q (F0 m (pc + 3) ls (.double r :: rest))) : W p l e R s m args below meth c H locs cells slots Q (F0 m pc ls st0) := by
  intro T hT X
  rcases hr T hT X with ⟨v, st₀, t, T', L, h0, X', hL, e1, e2, ⟨⟨r, u, hv, hp, hb⟩, hF⟩, st⟩ | ⟨q, st₀, t, T', L, E, ce, h0, X', hL, e1, e2, ⟨u, hp, hb, hF⟩, hce, hcv, hcl, st⟩
  · cases hv
    obtain ⟨k1, k2, k3⟩ := vx_keep h0 e1 hS hA hf hL hF
    obtain ⟨t2, a1, b1⟩ := kk r u t T'.heap (locs ++ L) e1.symm (by rw [← e2]; exact X'.warmed.alike) hp hb k1 k2 k3 T' rfl X'
    exact ⟨t2, st t2 a1, b1⟩
  · obtain ⟨k1, k2, k3⟩ := vx_keep h0 e1 hS hAX hf hL hF
    obtain ⟨t2, a1, b1⟩ := kx E ce q u t T'.heap (locs ++ L) e1.symm (by rw [← e2]; exact X'.warmed.alike) hp hb k1 k2 k3 (by rw [e1]; exact hce) hcv hcl T' rfl X'
    exact ⟨t2, st.trans a1, b1⟩
theorem vx_callv {S SX : Type} {post : S → Prop} {px : SX → Prop} {B : S → State → Prop} {BX : String → SX → State → Prop} {AX : Nat → Prop} (hr : vx_Run p l e R s m args below meth c H locs cells slots mc ms (F0 m pc ls st0) rest (va_Qv post B A1 a) (vx_X px BX AX) free) (hS : va_S A0 H0 H locs) (hA : ∀ q, q < H.size → A1 q → A0 q) (hf : ∀ q, free q → A0 q) (hAX : ∀ q, q < H.size → AX q → A0 q)
    (kx : ∀ (E : String) (ce : Cell) (q9 : Addr) (u : SX) (t : State) (H1 : Heap) (locs1 : List Loc), t.heap = H1 → s.vm.Alike t.vm → px u → BX E u t → H.size ≤ H1.size → (∀ q : Nat, q < H.size → ¬ AX q → H1[q]? = H[q]?) → va_S A0 H0 H1 locs1 → H1[q9]? = some ce → ce.vm = .none → s.vm.findClass E = some ce.cls → vx_W p l e R s m args below meth c H1 locs1 (cells + mc) (slots + ms) Q (F0 m pc ls rest) q9)
    (kk : ∀ (u : S) (t : State) (H1 : Heap) (locs1 : List Loc), t.heap = H1 → s.vm.Alike t.vm → post u → B u t → H.size ≤ H1.size → (∀ q : Nat, q < H.size → ¬ A1 q → H1[q]? = H[q]?) → va_S A0 H0 H1 locs1 → W p l e R s m args below meth c H1 locs1 (cells + mc) (slots + ms) Q (F0 m (pc + 3) ls (rest))) : W p l e R s m args below meth c H locs cells slots Q (F0 m pc ls st0) := by
  intro T hT X
  rcases hr T hT X with ⟨v, st₀, t, T', L, h0, X', hL, e1, e2, ⟨⟨u, hv, hp, hb⟩, hF⟩, st⟩ | ⟨q, st₀, t, T', L, E, ce, h0, X', hL, e1, e2, ⟨u, hp, hb, hF⟩, hce, hcv, hcl, st⟩
  · cases hv
    obtain ⟨k1, k2, k3⟩ := vx_keep h0 e1 hS hA hf hL hF
    obtain ⟨t2, a1, b1⟩ := kk u t T'.heap (locs ++ L) e1.symm (by rw [← e2]; exact X'.warmed.alike) hp hb k1 k2 k3 T' rfl X'
    exact ⟨t2, st t2 a1, b1⟩
  · obtain ⟨k1, k2, k3⟩ := vx_keep h0 e1 hS hAX hf hL hF
    obtain ⟨t2, a1, b1⟩ := kx E ce q u t T'.heap (locs ++ L) e1.symm (by rw [← e2]; exact X'.warmed.alike) hp hb k1 k2 k3 (by rw [e1]; exact hce) hcv hcl T' rfl X'
    exact ⟨t2, st.trans a1, b1⟩
/-- caught by the row x of this method's table; the rows ahead don't take it -/
theorem vx_catch {own name : String} {E : String} {ce : Cell} {q : Addr} (hown : s.vm.findClass own = some m.cls) (pre : List ExceptionTableEntry) (x : ExceptionTableEntry) (suf : List ExceptionTableEntry) (hsplit : c.exceptionTable.toList = pre ++ x :: suf)
    (hpass : ∀ z ∈ pre, covers z pc = false ∨ (z.catchType ≠ 0 ∧ ∃ nm : String, (Cond.classLink own z.catchType nm).before args s = true ∧ va_Nc E nm s)) (hx : covers x pc = true) (h0 : x.catchType ≠ 0)
    (hlink : (Cond.classLink own x.catchType name).before args s = true) (hcast : (Cond.castable E name).before args s = true) (hcell : H[q]? = some ce) (hv : ce.vm = .none) (hcl : s.vm.findClass E = some ce.cls)
    (kk : W p l e R s m args below meth c H locs cells slots Q (F0 m x.handlerPc ls [.ref q])) : vx_W p l e R s m args below meth c H locs cells slots Q (F0 m pc ls rest) q := by
  intro T hT X
  have hpl : e.platform.magicAccessors = ({} : Platform).magicAccessors := by rw [X.admits.platform]
  obtain ⟨c3, c4, hc3, hc4, hasg⟩ := Cond.castable_spec hcast
  cases Option.some.inj (hc3.symm.trans hcl)
  obtain ⟨c5, hc5, hcl5⟩ := Cond.classLink_spec hown hlink e.platform hpl
  cases Option.some.inj (hc4.symm.trans hc5)
  obtain ⟨vm', X', st⟩ := X.thenCaughtThrough q (g := F0 m pc ls rest) rfl (Steps.refl _) (by rw [hT]; exact hcell) (by rw [hv]; rfl) (by obtain ⟨k9, h9, -⟩ := Vm.findClass_spec hcl; exact ⟨k9, h9⟩) pre x suf hsplit
    (fun z hz => by
      rcases hpass z hz with h | ⟨hz0, nm, hl1, hn1⟩
      · exact Or.inl h
      · obtain ⟨c6, hc6, hcl6⟩ := Cond.classLink_spec hown hl1 e.platform hpl
        obtain ⟨a8, b8, h1, h2, h3⟩ := hn1
        cases Option.some.inj (h1.symm.trans hcl)
        cases Option.some.inj (h2.symm.trans hc6)
        exact Or.inr ⟨hz0, _, hcl6, h3⟩) hx (Or.inr ⟨h0, c4, hcl5, hasg⟩)
  obtain ⟨t, a1, b1⟩ := kk (T.setVm vm') hT X'
  exact ⟨t, st.trans a1, b1⟩
end Rows
section Ends
variable {p : Program} {l : Launch} {e : Env} {R : Room} {s : State} {m : MethodId} {args : Array Value} {below : List Frame} {meth : Method} {c : Code} {H : Heap} {locs : List Loc} {cells slots : Nat} {Q : State → Prop}
variable {mc ms : Nat} {free : Addr → Prop} {A0 A1 : Nat → Prop} {H0 : Heap} {a : Array Value} {ls : Array Slot} {st0 rest : List Value}
variable {Qc : Array Value → State → Outcome → State → Prop} {XC : String → State → State → Prop}
/-- what a body that may throw owes at its end -/
def vx_MQ (below : List Frame) (Qc : Array Value → State → Outcome → State → Prop) (XC : String → State → State → Prop) (a : Array Value) (s : State) (mc ms : Nat) (free : Addr → Prop) : State → Prop := fun t =>
  ∃ o, t.status = .running ∧ Ended t below o ∧ vx_Q Qc XC mc ms free a s o t
theorem vx_ret {g : JFrame} {mc ms : Nat} (k : W p l e R s m args below meth c H locs cells slots (MQ below Qc args s mc ms free) g) : W p l e R s m args below meth c H locs cells slots (vx_MQ below Qc XC args s mc ms free) g := by
  intro T hT X
  obtain ⟨t, a1, o, b1, b2, b3, b4⟩ := k T hT X
  exact ⟨t, a1, o, b1, b2, Or.inl ⟨b3, b4⟩⟩
/-- not caught here: it goes on to the caller -/
theorem vx_widen {g : JFrame} {q : Addr} {k n : Nat} (h1 : cells ≤ k) (h2 : slots ≤ n) (kk : vx_W p l e R s m args below meth c H locs k n Q g q) : vx_W p l e R s m args below meth c H locs cells slots Q g q := fun T hT X => kk T hT (stand_widen X h1 h2)
theorem vx_out {pc : Nat} {E : String} {ce : Cell} {q : Addr} {mc ms : Nat} (hout : ∀ x ∈ c.exceptionTable.toList, covers x pc = false) (hlocks : meth.locks = false) (hcell : H[q]? = some ce) (hv : ce.vm = .none) (hcl : s.vm.findClass E = some ce.cls)
    (hx : ∀ t : State, t.heap = H → s.vm.Alike t.vm → XC E s t) (hf : ∀ z ∈ locs, free z.base) (hc : cells ≤ mc) (hs : slots ≤ ms) :
    vx_W p l e R s m args below meth c H locs cells slots (vx_MQ below Qc XC args s mc ms free) (F0 m pc ls rest) q := by
  intro T hT X
  obtain ⟨st1, hrun, hend, hW, hsm⟩ := X.leaveThrown q (g := F0 m pc ls rest) rfl rfl rfl hout hlocks
  have hcell9 : (T.setFrames (.throwing q :: below)).heap[q]? = some ce := by
    show T.heap[q]? = some ce
    rw [hT]; exact hcell
  exact ⟨_, st1, .threw q, hrun, hend, Or.inr ⟨q, rfl, E, ce, locs, hx _ hT hW.alike, hcell9, hv, hcl, hW, hsm.mono hc hs, hf⟩⟩
theorem vx_frame {U : State} {k n : Nat} (h : s.sameButNew ({ U with vm := s.vm } : State) locs k n) : s.heap.size ≤ U.heap.size ∧ ∀ q : Nat, q < s.heap.size → (∀ z ∈ locs, z.base ≠ q) → U.heap[q]? = s.heap[q]? := by
  obtain ⟨-, h2, -, -, -, h6⟩ := h
  refine ⟨h2, fun q hq hz => ?_⟩
  obtain ⟨c9, e1, e2, e3, e4⟩ := h6 q _ (Array.getElem?_eq_getElem hq)
  have hs : c9.slots = (s.heap[q]).slots := Array.ext_getElem? fun i => e4 i fun hm => hz _ hm rfl
  have h9 : c9 = s.heap[q] := by
    rw [hs] at e2
    exact e2
  have e5 : U.heap[q]? = some c9 := e1
  rw [e5, h9, Array.getElem?_eq_getElem hq]
/-- the words of a throw but the four that speak of the heap -/
def vx_no (w : Cond) : Bool := decide (w ≠ .isRef (.static Bundle.tN "UNASSIGNED_STACK" Bundle.steD)) && decide (w ≠ .isRef (.static Bundle.tN "SUPPRESSED_SENTINEL" Bundle.listD)) && decide (w ≠ .laysStatic Bundle.tN "UNASSIGNED_STACK" Bundle.steD) && decide (w ≠ .laysStatic Bundle.tN "SUPPRESSED_SENTINEL" Bundle.listD)
def vx_at0 (own : String) (ic : Nat) (X : String) (names : List String) : List Cond := (Bundle.ownAtoms0 own ic X names).filter vx_no
def vx_atS (own : String) (ic : Nat) (X : String) (names : List String) : List Cond := (Bundle.ownAtoms own ic X names).filter vx_no
/-- a word that the tables alone decide, or a good one -/
def vx_ot (w : Cond) : Bool := w.onTables || goodWord w
theorem vx_ot_at {args a' : Array Value} {s U : State} {w : Cond} (hW : s.WarmedH U.vm) (hvm : s.vm = U.vm) (hg : vx_ot w = true) (h : w.before args s = true) : w.before a' U = true := by
  simp only [vx_ot, Bool.or_eq_true] at hg
  rcases hg with hg | hg
  · exact va_tabs hg hvm h
  · exact word_at hW (good_of_word hg) h
/-- a list's words: the good ones out of the method's own list, the others by premises of their own -/
theorem vx_hat {args : Array Value} {s : State} {L B : List Cond} (h1 : ∀ w ∈ L.filter goodWord, w.before args s = true) (h2 : ∀ w ∈ L.filter (fun w => !goodWord w), w ∈ B) (h3 : ∀ w ∈ B, w.before args s = true) : ∀ w ∈ L, w.before args s = true := by
  intro w hw
  by_cases g : goodWord w = true
  · exact h1 w (List.mem_filter.mpr ⟨hw, g⟩)
  · refine h3 w (h2 w (List.mem_filter.mpr ⟨hw, ?_⟩))
    show (!goodWord w) = true
    cases hgw : goodWord w
    · rfl
    · exact absurd hgw g
theorem vx_c {args : Array Value} {s : State} {w : Cond} {B : List Cond} (h : w.before args s = true) (t : ∀ w ∈ B, w.before args s = true) : ∀ w' ∈ w :: B, w'.before args s = true := fun w' h' => (List.mem_cons.mp h').elim (fun e => by rw [e]; exact h) (t w')
theorem vx_n {args : Array Value} {s : State} : ∀ w ∈ ([] : List Cond), w.before args s = true := fun _ h => nomatch h
theorem vx_own {args : Array Value} {s : State} {L : List Cond} (h1 : ∀ w ∈ L.filter vx_no, w.before args s = true)
    (hU : (Cond.isRef (.static Bundle.tN "UNASSIGNED_STACK" Bundle.steD)).before args s = true) (hN : (Cond.isRef (.static Bundle.tN "SUPPRESSED_SENTINEL" Bundle.listD)).before args s = true)
    (lU : (Cond.laysStatic Bundle.tN "UNASSIGNED_STACK" Bundle.steD).before args s = true) (lN : (Cond.laysStatic Bundle.tN "SUPPRESSED_SENTINEL" Bundle.listD).before args s = true) : ∀ w ∈ L, w.before args s = true := by
  intro w hw
  by_cases e1 : w = .isRef (.static Bundle.tN "UNASSIGNED_STACK" Bundle.steD)
  · rw [e1]; exact hU
  · by_cases e2 : w = .isRef (.static Bundle.tN "SUPPRESSED_SENTINEL" Bundle.listD)
    · rw [e2]; exact hN
    · by_cases e3 : w = .laysStatic Bundle.tN "UNASSIGNED_STACK" Bundle.steD
      · rw [e3]; exact lU
      · by_cases e4 : w = .laysStatic Bundle.tN "SUPPRESSED_SENTINEL" Bundle.listD
        · rw [e4]; exact lN
        · exact h1 w (List.mem_filter.mpr ⟨hw, by unfold vx_no; rw [decide_eq_true e1, decide_eq_true e2, decide_eq_true e3, decide_eq_true e4]; rfl⟩)
/-- where a static field lies, its class's statics cell in H -/
def vx_L (C n d : String) (A : Nat → Prop) (U : State) (H : Heap) : Prop := ∃ (c : ClassId) (k : Class) (i : Nat) (f : Field) (a : Nat) (cell : Cell), U.vm.findClass C = some c ∧ U.fieldFound? C n d = some (c, k, i, f) ∧ f.isStatic = true ∧ k.statics = some a ∧ H[a]? = some cell ∧ cell.vm.isStatics = true ∧ cell.cls = c ∧ f.slot < cell.slots.size ∧ k.staticTypes[f.slot]? = some f.type ∧ ¬ A a
theorem vx_L.moved {C n d : String} {A : Nat → Prop} {u U : State} {H : Heap} (hvm : u.vm.Alike U.vm) (h : vx_L C n d A u H) : vx_L C n d A U H := by
  obtain ⟨c, k, i, f, a, cell, h1, h2, h3, h4, h5, h6, h7, h8, h9, h10⟩ := h
  obtain ⟨k', hi', he⟩ := State.fieldFound?_setVm hvm h2
  exact ⟨c, k', i, f, a, cell, by rw [hvm.findClass]; exact h1, hi', h3, by rw [he]; exact h4, h5, h6, h7, h8, by rw [he]; exact h9, h10⟩
theorem vx_L.kept {C n d : String} {A : Nat → Prop} {U : State} {H H1 : Heap} (h : vx_L C n d A U H) (hq : ∀ a : Nat, a < H.size → ¬ A a → H1[a]? = H[a]?) : vx_L C n d A U H1 := by
  obtain ⟨c, k, i, f, a, cell, h1, h2, h3, h4, h5, h6, h7, h8, h9, h10⟩ := h
  exact ⟨c, k, i, f, a, cell, h1, h2, h3, h4, by rw [hq a (Array.getElem?_eq_some_iff.mp h5).1 h10]; exact h5, h6, h7, h8, h9, h10⟩
theorem vx_L.narrow {C n d : String} {A B : Nat → Prop} {U : State} {H : Heap} (h : vx_L C n d A U H) (hAB : ∀ q, B q → A q) : vx_L C n d B U H := by
  obtain ⟨c, k, i, f, a, cell, h1, h2, h3, h4, h5, h6, h7, h8, h9, h10⟩ := h
  exact ⟨c, k, i, f, a, cell, h1, h2, h3, h4, h5, h6, h7, h8, h9, fun z => h10 (hAB _ z)⟩
theorem vx_L.word {C n d : String} {A : Nat → Prop} {s : State} {args : Array Value} (h : vx_L C n d A s s.heap) : (Cond.laysStatic C n d).before args s = true := by
  obtain ⟨c, k, i, f, a, cell, h1, h2, h3, h4, h5, h6, h7, h8, h9, -⟩ := h
  show (Cond.laysStatic C n d).holds args s none s [] = true
  exact Cond.laysStatic_of h1 h2 h3 h4 h5 h6 h7 h8 h9
/-- .. and what it holds: null or some reference -/
def vx_Zq (C n d : String) (A : Nat → Prop) (U : State) (H : Heap) : Prop := va_Zq C n d A U H ∧ vx_L C n d A U H
theorem vx_Zq.moved {C n d : String} {A : Nat → Prop} {u U : State} {H : Heap} (hvm : u.vm.Alike U.vm) (h : vx_Zq C n d A u H) : vx_Zq C n d A U H := ⟨va_Zq.moved hvm h.1, vx_L.moved hvm h.2⟩
theorem vx_Zq.kept {C n d : String} {A : Nat → Prop} {U : State} {H H1 : Heap} (h : vx_Zq C n d A U H) (hq : ∀ a : Nat, a < H.size → ¬ A a → H1[a]? = H[a]?) : vx_Zq C n d A U H1 := ⟨va_Zq.kept h.1 hq, vx_L.kept h.2 hq⟩
theorem vx_Zq.narrow {C n d : String} {A B : Nat → Prop} {U : State} {H : Heap} (h : vx_Zq C n d A U H) (hAB : ∀ q, B q → A q) : vx_Zq C n d B U H := ⟨va_Zq.narrow h.1 hAB, vx_L.narrow h.2 hAB⟩
theorem vx_Zqof {args : Array Value} {s : State} {C n d : String} {A : Nat → Prop} (hl : (Cond.laysStatic C n d).before args s = true) (hini : (Cond.initialized C).before args s = true) (h : (Cond.isRef (.static C n d)).before args s = true) (hA : ∀ a : Nat, a < s.heap.size → ¬ A a) : vx_Zq C n d A s s.heap := by
  refine ⟨va_Zqof hl hini h hA, ?_⟩
  obtain ⟨c, k, i, f, a, cell, h1, h2, h3, h4, h5, h6, h7, h8, h9⟩ := Cond.laysStatic_spec hl
  exact ⟨c, k, i, f, a, cell, h1, h2, h3, h4, h5, h6, h7, h8, h9, hA a (Array.getElem?_eq_some_iff.mp h5).1⟩
theorem vx_isRef {C n d : String} {v : Value} {A : Nat → Prop} {s : State} {args : Array Value} (h : va_Z C n d v A s s.heap) (hv : v.isRef = true) : (Cond.isRef (.static C n d)).before args s = true := by
  obtain ⟨cf, kf, fi, f, a, cell, h1, h2, h3, h4, h5, h6, h7, -⟩ := h
  have he : (Term.static C n d).eval args s none [] s = some v := by
    simp [Term.eval, State.fieldNamed?, h1, h2, h4, h5, h6, h7]
  simp only [Cond.before, Cond.holds, Cond.value, he]
  cases v <;> simp_all [Value.isRef]
theorem vx_isRefq {C n d : String} {A : Nat → Prop} {s : State} {args : Array Value} (h : va_Zq C n d A s s.heap) : (Cond.isRef (.static C n d)).before args s = true := by
  rcases h with h | ⟨t, h⟩
  · exact vx_isRef h rfl
  · exact vx_isRef h rfl
/-- the same frame, seen from here: as if the method were called anew in this heap -/
theorem vx_rebase {T : State} (X : Stand p l e R s m args below meth c T locs cells slots) {R' : Room} (hf : R'.frames ≤ R.frames) (hl : R'.locals ≤ R.locals) (hc : cells + R'.cells ≤ R.cells) (hs : slots + R'.slots ≤ R.slots) :
    Stand p l e R' ((T.setVm s.vm).setFrames (.invoking m args :: below)) m args below meth c T [] 0 0 := by
  have htop : (T.setVm s.vm).topJava?.isSome := X.here.top
  have hF : ((T.setVm s.vm).setFrames (.invoking m args :: below)).frames = .invoking m args :: below := State.frames_setFrames _ (State.cur_lt_of_top htop)
  obtain ⟨g₀, hg0⟩ := Option.isSome_iff_exists.mp htop
  obtain ⟨r, hr⟩ := State.topJava?_eq_some.mp hg0
  have hl9 : e.platform.stackLimits (T.setVm s.vm).me = e.platform.stackLimits s.me := X.limits
  have hb9 : (T.setVm s.vm).me.stackBytes = s.me.stackBytes := X.bytes
  refine ⟨X.admits, X.cas, X.clock, hF, ?_, X.hears, X.method, X.code, X.here, X.tail, X.warmed, ?_, ?_, ?_⟩
  · have h := X.room
    have hU : ((T.setVm s.vm).setFrames (.invoking m args :: below)).localsInUse = s.localsInUse := by
      rw [State.localsInUse_invoking hF (meth := meth) (c := c) X.method X.code, State.localsInUse_invoking X.frames X.method X.code]
    simp only [State.hasRoom, Bool.and_eq_true, decide_eq_true_eq] at h ⊢
    obtain ⟨⟨⟨⟨h1, h2, h3, h4, h5, h6⟩, h7⟩, h8⟩, h9⟩ := h
    rw [X.frames, List.length_cons] at h2 h3
    have q1 := X.heapSize
    have q2 := X.used
    simp only [hF, hU, List.length_cons, State.stackLimits_setFrames, State.stackBytes_setFrames, hl9, hb9]
    refine ⟨⟨⟨⟨by omega, by omega, by omega, by omega, by omega, h6⟩, ?_⟩, ?_⟩, X.book⟩
    · show T.heap.size + R'.cells ≤ e.platform.maxCells
      omega
    · show T.slotsUsed + R'.slots ≤ e.platform.maxSlots
      omega
  · rw [State.stackLimits_setFrames]; rfl
  · rw [State.stackBytes_setFrames]; rfl
  · refine ⟨?_, Nat.le_refl _, Nat.le_refl _, ?_, ?_, fun a c9 h9 => ⟨c9, h9, rfl, rfl, fun _ _ => rfl⟩⟩
    · obtain ⟨t, ht, -⟩ := State.frames_cons hr
      show T.setVm s.vm = { ((T.setVm s.vm).setFrames (.invoking m args :: below)).setFrames (T.setVm s.vm).frames with heap := T.heap, slotsUsed := T.slotsUsed }
      rw [State.setFrames_setFrames, State.setFrames_self ht]
      rfl
    · show T.slotsUsed = T.slotsUsed + ((T.heap.toList.drop T.heap.size).map (·.slots.size)).sum
      rw [List.drop_eq_nil_of_le (Nat.le_of_eq Array.length_toList)]
      rfl
    · show ((T.heap.toList.drop T.heap.size).map (·.slots.size)).sum ≤ 0
      rw [List.drop_eq_nil_of_le (Nat.le_of_eq Array.length_toList)]
      exact Nat.le_refl _
/-- 'throw new E()': new; dup; invokespecial; athrow -/
theorem vx_throw0 {cc : ByteArray} {pc : Nat} (hexec : p.tables.exec = Jvm.exec) (hb : c.code = cc) (hl : l.stackTraces = false) {own cls : String} {names : List String} {ik ic mc ms : Nat} {A : Nat → Prop}
    (hown : s.vm.findClass own = some m.cls) (hcls : Bundle.fit cls = true) (hnames : ∀ n ∈ names, Bundle.fit n = true)
    (hk : (Cond.classLink own ik cls).before args s = true) (hini : (Cond.initialized cls).before args s = true) (hat : ∀ w ∈ vx_at0 own ic cls names, w.before args s = true)
    (hgood : ∀ w ∈ Cond.classLink own ik cls :: Cond.initialized cls :: vx_at0 own ic cls names, vx_ot w = true)
    (hU : vx_Zq Bundle.tN "UNASSIGNED_STACK" Bundle.steD A s s.heap) (hN : vx_Zq Bundle.tN "SUPPRESSED_SENTINEL" Bundle.listD A s s.heap) (hS : va_S A s.heap H locs) (hsize : ls.size = c.maxLocals)
    (d0 : decode cc pc = .ok (.new ik, 3)) (d3 : decode cc (pc + 3) = .ok (.dup, 1)) (d4 : decode cc (pc + 4) = .ok (.invokespecial ic, 3)) (d7 : decode cc (pc + 7) = .ok (.athrow, 1))
    (hout : ∀ x ∈ c.exceptionTable.toList, covers x (pc + 7) = false)
    (hRframes : names.length + 3 < R.frames) (hRlocals : (rest.map fun v => v.category).sum + (13 * (names.length + 1) + 42) ≤ R.locals) (hRcells : cells + 1 ≤ R.cells) (hRslots : slots + 6 ≤ R.slots) (hlocks : meth.locks = false)
    (hx : ∀ t : State, s.vm.Alike t.vm → H.size ≤ t.heap.size → (∀ q : Nat, q < H.size → t.heap[q]? = H[q]?) → XC cls s t)
    (hf : ∀ z ∈ locs, free z.base) (hc : cells + 1 ≤ mc) (hs : slots + 6 ≤ ms) :
    W p l e R s m args below meth c H locs cells slots (vx_MQ below Qc XC args s mc ms free) (F0 m pc ls rest) := by
  intro T hT X
  have htr : e.platform.stackTraces = false := (show e.platform.stackTraces = l.stackTraces by rw [X.admits.platform]).trans hl
  have Y := vx_rebase X (R' := { frames := R.frames, locals := R.locals, cells := 1, slots := 6 }) (Nat.le_refl _) (Nat.le_refl _) hRcells hRslots
  obtain ⟨s', hA⟩ : ∃ z, z = (T.setVm s.vm).setFrames (.invoking m args :: below) := ⟨_, rfl⟩
  rw [← hA] at Y
  have hvm : s'.vm = s.vm := by rw [hA]; rfl
  have hhp : s'.heap = H := by rw [hA]; exact hT
  have hW0 : s.WarmedH s'.vm := by rw [hvm]; exact State.WarmedH.refl s
  have hat' : ∀ w ∈ vx_at0 own ic cls names, w.before args s' = true := fun w hw => vx_ot_at hW0 hvm.symm (hgood w (List.mem_cons_of_mem _ (List.mem_cons_of_mem _ hw))) (hat w hw)
  have hk' : (Cond.classLink own ik cls).before args s' = true := vx_ot_at hW0 hvm.symm (hgood _ List.mem_cons_self) hk
  have hini' : (Cond.initialized cls).before args s' = true := vx_ot_at hW0 hvm.symm (hgood _ (List.mem_cons_of_mem _ List.mem_cons_self)) hini
  have hU' : vx_Zq Bundle.tN "UNASSIGNED_STACK" Bundle.steD A s' s'.heap := by rw [hhp]; exact vx_Zq.moved hW0.alike (hU.kept hS.2.1)
  have hN' : vx_Zq Bundle.tN "SUPPRESSED_SENTINEL" Bundle.listD A s' s'.heap := by rw [hhp]; exact vx_Zq.moved hW0.alike (hN.kept hS.2.1)
  have h : ∀ w ∈ Bundle.ownAtoms0 own ic cls names, w.before args s' = true := vx_own hat' (vx_isRefq hU'.1) (vx_isRefq hN'.1) hU'.2.word hN'.2.word
  have hown' : s'.vm.findClass own = some m.cls := by rw [hvm]; exact hown
  have hins : (Cond.instantiable cls 6).before args s' = true := h _ (by simp [Bundle.ownAtoms0])
  obtain ⟨vm₁, cX, kX, hfX, hkX, -, -, X₁, st1⟩ := Y.newCold hexec (own := own) (C := cls) (index := ik) (n := 6) hown' hk' hins hini'
    (g := F0 m pc ls rest) rfl (by rw [hb]; exact d0) (Nat.le_refl _) (Nat.le_refl _)
  generalize hT1 : (T.setVm vm₁).pushCell { cls := cX, slots := kX.instanceTypes.map defaultValue, vm := .none } = T1 at X₁ st1
  have hcat : (Value.ref T.heap.size).category = 1 := rfl
  have hcellA : T1.heap[T.heap.size]? = some (freshCell cX kX) := by rw [← hT1]; exact State.heap_pushCell_size _ _
  have d3' : decode c.code (pc + 3) = .ok (.dup, 1) := by rw [hb]; exact d3
  obtain ⟨U, hsteps, hrun, hend, hW, hsame, ce, hce, hO⟩ := X₁.ctorThrow0 hexec htr (own := own) (cls := cls) (names := names) (ic := ic) hown' hcls hnames h (fun x hx => nomatch hx) hfX hkX hcellA (by rw [hhp, hT]; exact Nat.le_refl _)
    (g := { method := m, pc := pc + 4, locals := ls, stack := .ref T.heap.size :: .ref T.heap.size :: rest, locked := none }) rfl hsize rfl rfl (rest := rest) rfl
    (by rw [hb]; exact d4) (by rw [hb]; exact d7) hout hRframes (by simp only [List.map_cons, List.sum_cons, hcat]; omega) hlocks
  obtain ⟨f1, f2⟩ := vx_frame hsame
  rw [hhp] at f1 f2
  have hWs : s.WarmedH U.vm := State.WarmedH.trans hW0 hW
  have hcl : s.vm.findClass cls = some ce.cls := by
    have h9 := hO.cls
    rw [hvm] at h9
    exact h9
  have hall : s.sameButNew ({ U with vm := s.vm } : State) locs mc ms := by
    subst hA
    obtain ⟨e1, e2⟩ := hsame
    rw [State.setFrames_setFrames] at e1
    have h2 : (T.setVm s.vm).sameButNew ({ U with vm := s.vm } : State) [] (0 + 1) (0 + 6) := ⟨e1, e2⟩
    have h3 := X.same.trans h2
    rw [List.append_nil] at h3
    exact h3.mono hc hs
  refine ⟨U, ?_, .threw T.heap.size, hrun, hend, Or.inr ⟨T.heap.size, rfl, cls, ce, locs, hx U hWs.alike f1 (fun q hq => f2 q hq (fun z hz => nomatch hz)), hce, hO.vm, hcl, hWs, hall, hf⟩⟩
  refine st1 _ ?_
  show Steps p.tables e below (T1.setTop { method := m, pc := pc + 3, locals := ls, stack := .ref T.heap.size :: rest, locked := none }) _
  jvm_step X₁.here [X₁.here.top, hexec, d3', Value.category]
  exact hsteps
/-- 'throw new E("text")': new; dup; ldc; invokespecial; athrow -/
theorem vx_throwS {cc : ByteArray} {pc : Nat} (hexec : p.tables.exec = Jvm.exec) (hb : c.code = cc) (hl : l.stackTraces = false) {own cls text : String} {names : List String} {ik is ic mc ms sa : Nat} {A : Nat → Prop}
    (hown : s.vm.findClass own = some m.cls) (hcls : Bundle.fit cls = true) (hnames : ∀ n ∈ names, Bundle.fit n = true)
    (hk : (Cond.classLink own ik cls).before args s = true) (hini : (Cond.initialized cls).before args s = true) (hstr : vk_R own is text sa s) (hat : ∀ w ∈ vx_atS own ic cls names, w.before args s = true)
    (hgood : ∀ w ∈ Cond.classLink own ik cls :: Cond.initialized cls :: vx_atS own ic cls names, vx_ot w = true)
    (hU : vx_Zq Bundle.tN "UNASSIGNED_STACK" Bundle.steD A s s.heap) (hN : vx_Zq Bundle.tN "SUPPRESSED_SENTINEL" Bundle.listD A s s.heap) (hS : va_S A s.heap H locs) (hsize : ls.size = c.maxLocals)
    (d0 : decode cc pc = .ok (.new ik, 3)) (d3 : decode cc (pc + 3) = .ok (.dup, 1)) (d4 : decode cc (pc + 4) = .ok (.ldc is, 2)) (d6 : decode cc (pc + 6) = .ok (.invokespecial ic, 3)) (d9 : decode cc (pc + 9) = .ok (.athrow, 1))
    (hout : ∀ x ∈ c.exceptionTable.toList, covers x (pc + 9) = false)
    (hRframes : names.length + 3 < R.frames) (hRlocals : (rest.map fun v => v.category).sum + (13 * (names.length + 1) + 43) ≤ R.locals) (hRcells : cells + 1 ≤ R.cells) (hRslots : slots + 6 ≤ R.slots) (hlocks : meth.locks = false)
    (hx : ∀ t : State, s.vm.Alike t.vm → H.size ≤ t.heap.size → (∀ q : Nat, q < H.size → t.heap[q]? = H[q]?) → XC cls s t)
    (hf : ∀ z ∈ locs, free z.base) (hc : cells + 1 ≤ mc) (hs : slots + 6 ≤ ms) :
    W p l e R s m args below meth c H locs cells slots (vx_MQ below Qc XC args s mc ms free) (F0 m pc ls rest) := by
  intro T hT X
  have htr : e.platform.stackTraces = false := (show e.platform.stackTraces = l.stackTraces by rw [X.admits.platform]).trans hl
  have Y := vx_rebase X (R' := { frames := R.frames, locals := R.locals, cells := 1, slots := 6 }) (Nat.le_refl _) (Nat.le_refl _) hRcells hRslots
  obtain ⟨s', hA⟩ : ∃ z, z = (T.setVm s.vm).setFrames (.invoking m args :: below) := ⟨_, rfl⟩
  rw [← hA] at Y
  have hvm : s'.vm = s.vm := by rw [hA]; rfl
  have hhp : s'.heap = H := by rw [hA]; exact hT
  have hW0 : s.WarmedH s'.vm := by rw [hvm]; exact State.WarmedH.refl s
  have hat' : ∀ w ∈ vx_atS own ic cls names, w.before args s' = true := fun w hw => vx_ot_at hW0 hvm.symm (hgood w (List.mem_cons_of_mem _ (List.mem_cons_of_mem _ hw))) (hat w hw)
  have hk' : (Cond.classLink own ik cls).before args s' = true := vx_ot_at hW0 hvm.symm (hgood _ List.mem_cons_self) hk
  have hini' : (Cond.initialized cls).before args s' = true := vx_ot_at hW0 hvm.symm (hgood _ (List.mem_cons_of_mem _ List.mem_cons_self)) hini
  have hU' : vx_Zq Bundle.tN "UNASSIGNED_STACK" Bundle.steD A s' s'.heap := by rw [hhp]; exact vx_Zq.moved hW0.alike (hU.kept hS.2.1)
  have hN' : vx_Zq Bundle.tN "SUPPRESSED_SENTINEL" Bundle.listD A s' s'.heap := by rw [hhp]; exact vx_Zq.moved hW0.alike (hN.kept hS.2.1)
  have h : ∀ w ∈ Bundle.ownAtoms own ic cls names, w.before args s' = true := vx_own hat' (vx_isRefq hU'.1) (vx_isRefq hN'.1) hU'.2.word hN'.2.word
  have hown' : s'.vm.findClass own = some m.cls := by rw [hvm]; exact hown
  have hins : (Cond.instantiable cls 6).before args s' = true := h _ (by simp [Bundle.ownAtoms])
  obtain ⟨vm₁, cX, kX, hfX, hkX, -, -, X₁, st1⟩ := Y.newCold hexec (own := own) (C := cls) (index := ik) (n := 6) hown' hk' hins hini'
    (g := F0 m pc ls rest) rfl (by rw [hb]; exact d0) (Nat.le_refl _) (Nat.le_refl _)
  generalize hT1 : (T.setVm vm₁).pushCell { cls := cX, slots := kX.instanceTypes.map defaultValue, vm := .none } = T1 at X₁ st1
  have hcat : (Value.ref T.heap.size).category = 1 := rfl
  have hcellA : T1.heap[T.heap.size]? = some (freshCell cX kX) := by rw [← hT1]; exact State.heap_pushCell_size _ _
  have d3' : decode c.code (pc + 3) = .ok (.dup, 1) := by rw [hb]; exact d3
  have d4' : decode c.code (pc + 4) = .ok (.ldc is, 2) := by rw [hb]; exact d4
  have hstr' : vk_R own is text sa s' := vk_R.warm hW0 hstr
  obtain ⟨U, hsteps, hrun, hend, hW, hsame, ce, hce, hO⟩ := X₁.ctorThrowS hexec htr (own := own) (cls := cls) (names := names) (ic := ic) hown' hcls hnames h (fun x hx => nomatch hx) hfX hkX hcellA (by rw [hhp, hT]; exact Nat.le_refl _) (msg := .ref sa) rfl
    (g := { method := m, pc := pc + 6, locals := ls, stack := .ref sa :: .ref T.heap.size :: .ref T.heap.size :: rest, locked := none }) rfl hsize rfl rfl (rest := rest) rfl
    (by rw [hb]; exact d6) (by rw [hb]; exact d9) hout hRframes (by simp only [List.map_cons, List.sum_cons, hcat]; omega) hlocks
  obtain ⟨f1, f2⟩ := vx_frame hsame
  rw [hhp] at f1 f2
  have hWs : s.WarmedH U.vm := State.WarmedH.trans hW0 hW
  have hcl : s.vm.findClass cls = some ce.cls := by
    have h9 := hO.cls
    rw [hvm] at h9
    exact h9
  have hall : s.sameButNew ({ U with vm := s.vm } : State) locs mc ms := by
    subst hA
    obtain ⟨e1, e2⟩ := hsame
    rw [State.setFrames_setFrames] at e1
    have h2 : (T.setVm s.vm).sameButNew ({ U with vm := s.vm } : State) [] (0 + 1) (0 + 6) := ⟨e1, e2⟩
    have h3 := X.same.trans h2
    rw [List.append_nil] at h3
    exact h3.mono hc hs
  refine ⟨U, ?_, .threw T.heap.size, hrun, hend, Or.inr ⟨T.heap.size, rfl, cls, ce, locs, hx U hWs.alike f1 (fun q hq => f2 q hq (fun z hz => nomatch hz)), hce, hO.vm, hcl, hWs, hall, hf⟩⟩
  refine st1 _ ?_
  show Steps p.tables e below (T1.setTop { method := m, pc := pc + 3, locals := ls, stack := .ref T.heap.size :: rest, locked := none }) _
  jvm_step X₁.here [X₁.here.top, hexec, d3', Value.category]
  exact X₁.ldcString hexec (own := own) (text := text) (index := is) (a := sa) hown' hstr'.1 hstr'.2
    (g := { method := m, pc := pc + 4, locals := ls, stack := .ref T.heap.size :: .ref T.heap.size :: rest, locked := none }) rfl d4' _ hsteps
/-- 'throw new E("text")', the text by a wide index -/
theorem vx_throwSW {cc : ByteArray} {pc : Nat} (hexec : p.tables.exec = Jvm.exec) (hb : c.code = cc) (hl : l.stackTraces = false) {own cls text : String} {names : List String} {ik is ic mc ms sa : Nat} {A : Nat → Prop}
    (hown : s.vm.findClass own = some m.cls) (hcls : Bundle.fit cls = true) (hnames : ∀ n ∈ names, Bundle.fit n = true)
    (hk : (Cond.classLink own ik cls).before args s = true) (hini : (Cond.initialized cls).before args s = true) (hstr : vk_R own is text sa s) (hat : ∀ w ∈ vx_atS own ic cls names, w.before args s = true)
    (hgood : ∀ w ∈ Cond.classLink own ik cls :: Cond.initialized cls :: vx_atS own ic cls names, vx_ot w = true)
    (hU : vx_Zq Bundle.tN "UNASSIGNED_STACK" Bundle.steD A s s.heap) (hN : vx_Zq Bundle.tN "SUPPRESSED_SENTINEL" Bundle.listD A s s.heap) (hS : va_S A s.heap H locs) (hsize : ls.size = c.maxLocals)
    (d0 : decode cc pc = .ok (.new ik, 3)) (d3 : decode cc (pc + 3) = .ok (.dup, 1)) (d4 : decode cc (pc + 4) = .ok (.ldc_w is, 3)) (d7 : decode cc (pc + 7) = .ok (.invokespecial ic, 3)) (d10 : decode cc (pc + 10) = .ok (.athrow, 1))
    (hout : ∀ x ∈ c.exceptionTable.toList, covers x (pc + 10) = false)
    (hRframes : names.length + 3 < R.frames) (hRlocals : (rest.map fun v => v.category).sum + (13 * (names.length + 1) + 43) ≤ R.locals) (hRcells : cells + 1 ≤ R.cells) (hRslots : slots + 6 ≤ R.slots) (hlocks : meth.locks = false)
    (hx : ∀ t : State, s.vm.Alike t.vm → H.size ≤ t.heap.size → (∀ q : Nat, q < H.size → t.heap[q]? = H[q]?) → XC cls s t)
    (hf : ∀ z ∈ locs, free z.base) (hc : cells + 1 ≤ mc) (hs : slots + 6 ≤ ms) :
    W p l e R s m args below meth c H locs cells slots (vx_MQ below Qc XC args s mc ms free) (F0 m pc ls rest) := by
  intro T hT X
  have htr : e.platform.stackTraces = false := (show e.platform.stackTraces = l.stackTraces by rw [X.admits.platform]).trans hl
  have Y := vx_rebase X (R' := { frames := R.frames, locals := R.locals, cells := 1, slots := 6 }) (Nat.le_refl _) (Nat.le_refl _) hRcells hRslots
  obtain ⟨s', hA⟩ : ∃ z, z = (T.setVm s.vm).setFrames (.invoking m args :: below) := ⟨_, rfl⟩
  rw [← hA] at Y
  have hvm : s'.vm = s.vm := by rw [hA]; rfl
  have hhp : s'.heap = H := by rw [hA]; exact hT
  have hW0 : s.WarmedH s'.vm := by rw [hvm]; exact State.WarmedH.refl s
  have hat' : ∀ w ∈ vx_atS own ic cls names, w.before args s' = true := fun w hw => vx_ot_at hW0 hvm.symm (hgood w (List.mem_cons_of_mem _ (List.mem_cons_of_mem _ hw))) (hat w hw)
  have hk' : (Cond.classLink own ik cls).before args s' = true := vx_ot_at hW0 hvm.symm (hgood _ List.mem_cons_self) hk
  have hini' : (Cond.initialized cls).before args s' = true := vx_ot_at hW0 hvm.symm (hgood _ (List.mem_cons_of_mem _ List.mem_cons_self)) hini
  have hU' : vx_Zq Bundle.tN "UNASSIGNED_STACK" Bundle.steD A s' s'.heap := by rw [hhp]; exact vx_Zq.moved hW0.alike (hU.kept hS.2.1)
  have hN' : vx_Zq Bundle.tN "SUPPRESSED_SENTINEL" Bundle.listD A s' s'.heap := by rw [hhp]; exact vx_Zq.moved hW0.alike (hN.kept hS.2.1)
  have h : ∀ w ∈ Bundle.ownAtoms own ic cls names, w.before args s' = true := vx_own hat' (vx_isRefq hU'.1) (vx_isRefq hN'.1) hU'.2.word hN'.2.word
  have hown' : s'.vm.findClass own = some m.cls := by rw [hvm]; exact hown
  have hins : (Cond.instantiable cls 6).before args s' = true := h _ (by simp [Bundle.ownAtoms])
  obtain ⟨vm₁, cX, kX, hfX, hkX, -, -, X₁, st1⟩ := Y.newCold hexec (own := own) (C := cls) (index := ik) (n := 6) hown' hk' hins hini'
    (g := F0 m pc ls rest) rfl (by rw [hb]; exact d0) (Nat.le_refl _) (Nat.le_refl _)
  generalize hT1 : (T.setVm vm₁).pushCell { cls := cX, slots := kX.instanceTypes.map defaultValue, vm := .none } = T1 at X₁ st1
  have hcat : (Value.ref T.heap.size).category = 1 := rfl
  have hcellA : T1.heap[T.heap.size]? = some (freshCell cX kX) := by rw [← hT1]; exact State.heap_pushCell_size _ _
  have d3' : decode c.code (pc + 3) = .ok (.dup, 1) := by rw [hb]; exact d3
  have d4' : decode c.code (pc + 4) = .ok (.ldc_w is, 3) := by rw [hb]; exact d4
  have hstr' : vk_R own is text sa s' := vk_R.warm hW0 hstr
  obtain ⟨U, hsteps, hrun, hend, hW, hsame, ce, hce, hO⟩ := X₁.ctorThrowS hexec htr (own := own) (cls := cls) (names := names) (ic := ic) hown' hcls hnames h (fun x hx => nomatch hx) hfX hkX hcellA (by rw [hhp, hT]; exact Nat.le_refl _) (msg := .ref sa) rfl
    (g := { method := m, pc := pc + 7, locals := ls, stack := .ref sa :: .ref T.heap.size :: .ref T.heap.size :: rest, locked := none }) rfl hsize rfl rfl (rest := rest) rfl
    (by rw [hb]; exact d7) (by rw [hb]; exact d10) hout hRframes (by simp only [List.map_cons, List.sum_cons, hcat]; omega) hlocks
  obtain ⟨f1, f2⟩ := vx_frame hsame
  rw [hhp] at f1 f2
  have hWs : s.WarmedH U.vm := State.WarmedH.trans hW0 hW
  have hcl : s.vm.findClass cls = some ce.cls := by
    have h9 := hO.cls
    rw [hvm] at h9
    exact h9
  have hall : s.sameButNew ({ U with vm := s.vm } : State) locs mc ms := by
    subst hA
    obtain ⟨e1, e2⟩ := hsame
    rw [State.setFrames_setFrames] at e1
    have h2 : (T.setVm s.vm).sameButNew ({ U with vm := s.vm } : State) [] (0 + 1) (0 + 6) := ⟨e1, e2⟩
    have h3 := X.same.trans h2
    rw [List.append_nil] at h3
    exact h3.mono hc hs
  refine ⟨U, ?_, .threw T.heap.size, hrun, hend, Or.inr ⟨T.heap.size, rfl, cls, ce, locs, hx U hWs.alike f1 (fun q hq => f2 q hq (fun z hz => nomatch hz)), hce, hO.vm, hcl, hWs, hall, hf⟩⟩
  refine st1 _ ?_
  show Steps p.tables e below (T1.setTop { method := m, pc := pc + 3, locals := ls, stack := .ref T.heap.size :: rest, locked := none }) _
  jvm_step X₁.here [X₁.here.top, hexec, d3', Value.category]
  exact X₁.ldcStringW hexec (own := own) (text := text) (index := is) (a := sa) hown' hstr'.1 hstr'.2
    (g := { method := m, pc := pc + 4, locals := ls, stack := .ref T.heap.size :: .ref T.heap.size :: rest, locked := none }) rfl d4' _ hsteps
end Ends
section Bodies
variable {l : Launch}
theorem vx_ofW {y : MethodName} {ws ws' : List Cond} {rm : Room} {Pc : Array Value → State → Prop} {Qc : Array Value → State → Outcome → State → Prop} {XC : String → State → State → Prop} {mc ms : Nat} {free : Addr → Prop} {cc : ByteArray} {maxL : Nat} {ret : Option FieldType}
    (hy : plainName y.cls = true) (hw : ws = Cond.code y cc maxL ret :: ws')
    (body : ∀ p e s m args below meth c s₁, BodyLoose p l y (headSpec ws rm) cc maxL ret e s m args below meth c s₁ → c.maxLocals = maxL → (∀ x ∈ c.exceptionTable.toList, False) → Pc args s →
      W p l e (headSpec ws rm).room s m args below meth c s.heap [] 0 0 (vx_MQ below Qc XC args s mc ms free) (entryFrame m args maxL)) : vx_Met l y ws rm Pc Qc XC mc ms free := by
  refine MetFree.of_bodyS (code := cc) (maxLocals := maxL) (ret := ret) hy ?_ ?_
  · intro args s m h hn
    obtain ⟨meth, c, h1, h2, h3, h4, h5, h6, -, -⟩ := Cond.code_spec hn (atoms_spec (ws := ws) h _ (by rw [hw]; exact List.mem_cons_self))
    exact ⟨meth, c, h1, h2, h3, h4, h5, h6⟩
  · intro p e s m args below meth c s₁ B hml hP _
    have hh0 : s₁.heap = s.heap := by rw [B.state]; rfl
    have ht : ∀ x ∈ c.exceptionTable.toList, False := by
      obtain ⟨meth9, c9, h1, h2, -, -, -, -, h7, -⟩ := Cond.code_spec B.named (atoms_spec (ws := ws) B.pre _ (by rw [hw]; exact List.mem_cons_self))
      cases Option.some.inj (h1.symm.trans B.method)
      cases Option.some.inj (h2.symm.trans (Stand.of_body B).code)
      intro x hx
      rw [Array.isEmpty_iff.mp h7] at hx
      cases hx
    obtain ⟨t, a1, o, b1, b2, b3⟩ := body p e s m args below meth c s₁ B hml ht hP s₁ hh0 (Stand.of_body B)
    exact ⟨t, o, a1, b1, b2, b3⟩
/-- the table of a body with handlers -/
theorem vx_table {p : Program} {x y : MethodName} {S : Spec} {cc bytes : ByteArray} {maxL maxL' : Nat} {ret ret' : Option FieldType} {e : Env} {s s₁ : State} {m : MethodId} {args : Array Value} {below : List Frame} {meth : Method} {c : Code} {hh : List (Nat × Nat × Nat × Nat)}
    (B : BodyLoose p l y S cc maxL ret e s m args below meth c s₁) (h : (Cond.codeWith y bytes maxL' ret' hh).before args s = true) : c.exceptionTable.toList = tableOf hh := by
  obtain ⟨m9, meth9, c9, hn9, h1, h2, -, -, h6, -⟩ := Cond.codeWith_spec h
  cases Option.some.inj (hn9.symm.trans B.named)
  cases Option.some.inj (h1.symm.trans B.method)
  cases Option.some.inj (h2.symm.trans (Stand.of_body B).code)
  rw [← h6, table_eq]
end Bodies
end VXA
/-! ===== END ===== -/
/-! ===== BEGIN a static call of a method with an exception table ===== -/
section VXS
variable {p : Program} {l : Launch} {e : Env} {R : Room} {s : State} {m : MethodId} {args : Array Value} {below : List Frame} {meth : Method} {c : Code} {T : State} {H : Heap} {locs : List Loc} {cells slots : Nat}
abbrev vx_CSW (R : Room) (s : State) (args : Array Value) (own : String) (index : Nat) (y : MethodName) (bytes : ByteArray) (maxL : Nat) (ret : Option FieldType) (hh : List (Nat × Nat × Nat × Nat)) (ws : List Cond) (rm : Room) (mc ms n : Nat) : Prop :=
  (rm.cells = mc ∧ rm.slots = ms ∧ rm.frames + 1 ≤ R.frames ∧ 8 + (maxL + 11) + rm.locals ≤ R.locals ∧ (∀ w ∈ ws, ∀ (a' : Array Value) (U : State), s.WarmedH U.vm → w.before a' U = true) ∧ Cond.codeWith y bytes maxL ret hh ∈ ws) ∧
  (Cond.codeWith y bytes maxL ret hh).before args s = true ∧ (Cond.initialized y.cls).before args s = true ∧ (y.cls ≠ "java/lang/invoke/MethodHandle" ∧ y.cls ≠ "java/lang/invoke/VarHandle") ∧
  (∀ sig, parseMethodDescriptor y.desc = some sig → n = sig.parameters.length) ∧ (Cond.methodLink own index y).before args s = true ∧ (Cond.static y).before args s = true
theorem vx_cwSW {own : String} {index maxL mc ms : Nat} {y : MethodName} {bytes : ByteArray} {ret : Option FieldType} {hh : List (Nat × Nat × Nat × Nat)} {Ts ws ws' : List Cond} {rm : Room} (n : Nat) (ht : ∀ w ∈ Ts, w.before args s = true) (hT : GoodIn Ts (va_wsS own index y ws)) (hw : ws = Cond.codeWith y bytes maxL ret hh :: ws') (hrc : rm.cells = mc) (hrs : rm.slots = ms)
    (hd : y.cls ≠ "java/lang/invoke/MethodHandle" ∧ y.cls ≠ "java/lang/invoke/VarHandle" ∧ (parseMethodDescriptor y.desc).map (fun d => d.parameters.length) = some n) (hR : rm.frames + 1 ≤ R.frames ∧ 8 + (maxL + 11) + rm.locals ≤ R.locals) :
    vx_CSW R s args own index y bytes maxL ret hh ws rm mc ms n := by
  have ok : ∀ w ∈ va_wsS own index y ws, w.before args s = true := fun w h => ht w (hT w h).1
  have hG : GoodIn Ts ws := fun w h => hT w (by unfold va_wsS; exact List.mem_append_right _ h)
  have hc : Cond.codeWith y bytes maxL ret hh ∈ ws := by rw [hw]; exact List.mem_cons_self
  refine ⟨⟨hrc, hrs, hR.1, hR.2, pay_in ht hG, hc⟩, ht _ (hG _ hc).1, ok _ (by simp [va_wsS]), ⟨hd.1, hd.2.1⟩, fun sig h => ?_, ok _ (by simp [va_wsS]), ok _ (by simp [va_wsS])⟩
  have h2 := hd.2.2
  rw [h] at h2
  exact (Option.some.inj h2).symm
theorem vx_callSW (X : Stand p l e R s m args below meth c T locs cells slots) (hexec : p.tables.exec = Jvm.exec) {own : String} {index : Nat} {y : MethodName} {bytes : ByteArray} {maxL : Nat} {ret : Option FieldType} {hh : List (Nat × Nat × Nat × Nat)}
    (hown : s.vm.findClass own = some m.cls) (hlink : (Cond.methodLink own index y).before args s = true) (hstat : (Cond.static y).before args s = true) (hinit : (Cond.initialized y.cls).before args s = true)
    (hcode : (Cond.codeWith y bytes maxL ret hh).before args s = true) (hy : y.cls ≠ "java/lang/invoke/MethodHandle" ∧ y.cls ≠ "java/lang/invoke/VarHandle")
    {W9 : Nat} {Pre : Pt → Array Value → Prop} {Post : Pt → Array Value → Option Value → Pt → Prop} (hK : Back l R p e below s args y 3 W9 Pre Post)
    {g : JFrame} (hg : g.method = m) (hsize : g.locals.size = c.maxLocals) {argsL rest : List Value} (hlen : ∀ sig, parseMethodDescriptor y.desc = some sig → argsL.length = sig.parameters.length)
    (hstack : g.stack = argsL.reverse ++ rest) (hW : 2 * g.monitorRoom + (rest.map fun v => v.category).sum ≤ W9) (hdg : decode c.code g.pc = .ok (.invokestatic index, 3))
    (hpre : ∀ vm₁, s.WarmedH vm₁ → Pre ⟨T.setVm vm₁, locs, cells, slots⟩ argsL.toArray) :
    ∃ (v : Option Value) (vm₁ : Vm) (B : Pt), s.WarmedH vm₁ ∧ Stand p l e R s m args below meth c B.U B.locs B.cells B.slots ∧ Post ⟨T.setVm vm₁, locs, cells, slots⟩ argsL.toArray v B ∧
      ∀ target, Steps p.tables e below (B.U.setTop { g with pc := g.pc + 3, stack := v.toList ++ rest }) target → Steps p.tables e below (T.setTop g) target := by
  obtain ⟨mk, methM, cM, hnamed, hmethM, -, -, -, -, -, -, hsigM⟩ := Cond.codeWith_spec hcode
  have hstatic : methM.isStatic = true := Cond.static_spec hnamed hmethM hstat
  obtain ⟨kP, hkP, -⟩ := className_of_methodNamed hnamed
  have hinitP : kP.init = .initialized := Cond.initialized_spec (findClass_of_methodNamed hnamed) hkP hinit
  obtain ⟨vm₁, X₁, hstep₁⟩ := X.invokestatic hexec hown hlink hnamed hmethM hstatic hkP hinitP hy (g := g) hg (argsL := argsL) (rest := rest) (hlen _ hsigM) hstack hdg
  obtain ⟨v, B, X', hpost, hsteps⟩ := hK m meth c ⟨T.setVm vm₁, locs, cells, slots⟩ { g with stack := rest } (.invokestatic index) mk argsL.toArray X₁ hg hsize hdg hW (X₁.named hnamed) (hpre vm₁ X₁.warmed)
  exact ⟨v, vm₁, B, X₁.warmed, X', hpost, fun target h => hstep₁ _ fun acts => by rw [doInvoke_state]; exact hsteps.trans h⟩
theorem vx_runSW {y : MethodName} {bytes cc : ByteArray} {maxL nL mc ms n index : Nat} {ret : Option FieldType} {hh : List (Nat × Nat × Nat × Nat)} {ws : List Cond} {rm : Room} {Pc : Array Value → State → Prop} {Qc : Array Value → State → Outcome → State → Prop} {free : Addr → Prop} {Ts : List Cond} {own : String} {As rest : List Value} {g : JFrame}
    (S : CallFix p m c cc nL s args Ts own) (hM : Met l y ws rm Pc Qc mc ms free) (cw : vx_CSW R s args own index y bytes maxL ret hh ws rm mc ms n) (hp : PreS s H Pc As)
    (hg : g.method = m) (hn : As.length = n) (hsize : g.locals.size = nL) (hstack : g.stack = As.reverse ++ rest) (hW : 2 * g.monitorRoom + (rest.map fun v => v.category).sum ≤ 8) (hdg : decode cc g.pc = .ok (.invokestatic index, 3)) (hf : cells + mc ≤ R.cells ∧ slots + ms ≤ R.slots) :
    va_Run p l e R s m args below meth c H locs cells slots mc ms g rest (Qc As.toArray) (free) := by
  obtain ⟨⟨hrc, hrs, hfr, hlo, hws, hcw⟩, hcode, hini, hy, hlen, hl, hstt⟩ := cw
  have hK : Back l R p e below s args y 3 8 (PreOf R mc ms Pc) (PostOf Qc mc ms free) := va_backW (hh := hh) (bytes := bytes) (maxL := maxL) (ret := ret) hM hp.1 hrc hrs hfr hlo hws hcw (fun a' U hW => word_at hW (Or.inl (by first | rfl | simp [Cond.onTables, Cond.keeps, Cond.steady])) hini)
  obtain ⟨hx, hb, hml, ho, -⟩ := S
  intro T hT X
  obtain ⟨v, vm₁, ⟨U', l2, c2, s2⟩, hW₁, X', ⟨g', mk, t, L, e1, e2, hq, h1, hL, h2, h3⟩, st⟩ := vx_callSW X hx (hh := hh) (bytes := bytes) (maxL := maxL) (ret := ret) ho hl hstt hini hcode hy hK hg (hsize.trans hml.symm) (argsL := As) (rest := rest) (fun sig h => hn.trans (hlen sig h)) hstack hW (by rw [hb]; exact hdg)
    (fun vm₁ hW₁ => ⟨hf.1, hf.2, hp.2 (T.setVm vm₁) hT hW₁⟩)
  dsimp only [Pt.U, Pt.locs, Pt.cells, Pt.slots] at X' e1 e2 h1 h2 h3 st
  subst h1; subst h2; subst h3
  exact ⟨v, (T.setVm vm₁).calling g' mk As.toArray, t, U', L, hT, X', hL, e1, e2, hq, st⟩
/-- not caught here, past rows that name other classes: it goes on to the caller -/
theorem vx_outP {p : Program} {l : Launch} {e : Env} {R : Room} {s : State} {m : MethodId} {args : Array Value} {below : List Frame} {meth : Method} {c : Code} {H : Heap} {locs : List Loc} {cells slots : Nat} {free : Addr → Prop} {ls : Array Slot} {rest : List Value} {Qc : Array Value → State → Outcome → State → Prop} {XC : String → State → State → Prop}
    {pc : Nat} {own E : String} {ce : Cell} {q : Addr} {mc ms : Nat} (hown : s.vm.findClass own = some m.cls) (hlocks : meth.locks = false)
    (hpass : ∀ z ∈ c.exceptionTable.toList, covers z pc = false ∨ (z.catchType ≠ 0 ∧ ∃ nm : String, (Cond.classLink own z.catchType nm).before args s = true ∧ va_Nc E nm s)) (hcell : H[q]? = some ce) (hv : ce.vm = .none) (hcl : s.vm.findClass E = some ce.cls)
    (hx : ∀ t : State, t.heap = H → s.vm.Alike t.vm → XC E s t) (hf : ∀ z ∈ locs, free z.base) (hc : cells ≤ mc) (hs : slots ≤ ms) :
    vx_W p l e R s m args below meth c H locs cells slots (vx_MQ below Qc XC args s mc ms free) (F0 m pc ls rest) q := by
  intro T hT X
  have hpl : e.platform.magicAccessors = ({} : Platform).magicAccessors := by rw [X.admits.platform]
  obtain ⟨vm', hW', X', st⟩ := X.outThrough hlocks q (g := F0 m pc ls rest) rfl rfl rfl (cell := ce) (by rw [hT]; exact hcell) (by rw [hv]; rfl)
    (by obtain ⟨k9, h9, -⟩ := Vm.findClass_spec hcl; exact ⟨k9, h9⟩) (fun z hz => by
      rcases hpass z hz with h | ⟨hz0, nm, hl1, hn1⟩
      · exact Or.inl h
      · obtain ⟨c6, hc6, hcl6⟩ := Cond.classLink_spec hown hl1 e.platform hpl
        obtain ⟨a8, b8, h1, h2, h3⟩ := hn1
        cases Option.some.inj (h1.symm.trans hcl)
        cases Option.some.inj (h2.symm.trans hc6)
        exact Or.inr ⟨hz0, _, hcl6, h3⟩)
  obtain ⟨g₀, hfr⟩ := X'.frames_eq
  have hcell9 : ((T.setVm vm').setFrames (.throwing q :: below)).heap[q]? = some ce := by
    show T.heap[q]? = some ce
    rw [hT]; exact hcell
  have hend : Ended ((T.setVm vm').setFrames (.throwing q :: below)) below (.threw q) := State.frames_setFrames _ (State.cur_lt_of_frames hfr)
  refine ⟨(T.setVm vm').setFrames (.throwing q :: below), ?_, .threw q, X'.here.running, hend, Or.inr ⟨q, rfl, E, ce, locs, hx _ hT (X'.ends _).1.alike, hcell9, hv, hcl, (X'.ends _).1, (X'.ends _).2.mono hc hs, hf⟩⟩
  rw [X.pushThrowing_eq]
  exact st
/-- a thing of a world lies in the heap -/
theorem vx_lt {D : va_G} {cl : List vw_C} {ws : va_W} {H1 : Heap} (h : va_P D cl ws H1) {k : Nat} {q : Nat × va_E} (hk : ws[k]? = some q) : q.1 < H1.size := (h k q hk).lt
end VXS
/-! ===== END ===== -/
/-! ===== BEGIN methods with a table of their own: called by a name, returning or throwing ===== -/
section VXH
/-! vx_backW, vx_callVX, vx_callSX, vx_callVW, vx_runVW, vx_runVX, vx_runSX, vx_ofWH follow the same proofs as their sisters above (Free/Laws.lean, Shelf42/LK1.lean); vx_outP calls Shelf42/NT130.lean (outThrough). -/
section
variable {l : Launch} {R : Room} {p : Program} {e : Env} {below : List Frame} {s : State} {sargs : Array Value} {y : MethodName} {len W9 : Nat}
theorem vx_backW {ws : List Cond} {rm : Room} {Pc : Array Value → State → Prop} {Qc : Array Value → State → Outcome → State → Prop} {XC : String → State → State → Prop} {mc ms : Nat} {free : Addr → Prop} {bytes : ByteArray} {maxL : Nat} {ret : Option FieldType} {hh : List (Nat × Nat × Nat × Nat)}
    (hM : vx_Met l y ws rm Pc Qc XC mc ms free) (hblind : FrameBlind Pc) (hrc : rm.cells = mc) (hrs : rm.slots = ms)
    (hframes : rm.frames + 1 ≤ R.frames) (hlocals : W9 + (maxL + 11) + rm.locals ≤ R.locals)
    (hws : ∀ w ∈ ws, ∀ a' U, s.WarmedH U.vm → w.before a' U = true) (hcode : Cond.codeWith y bytes maxL ret hh ∈ ws) (hinit : ∀ a' U, s.WarmedH U.vm → (Cond.initialized y.cls).before a' U = true) :
    vx_Back l R p e below s sargs y len W9 (PreOf R mc ms Pc) (PostOf Qc mc ms free) (vx_Post XC mc ms free) := by
  intro m meth c A g ig mk a X hg hsize hdg hW hn hp
  have h1 : (headSpec ws rm).pre.before a A.U = true := atoms_intro fun w hw => hws w hw _ _ X.warmed
  have h2 : (Cond.codeWith y bytes maxL ret hh).before a A.U = true := hws _ hcode _ _ X.warmed
  have h3 : (Cond.initialized y.cls).before a A.U = true := hinit _ _ X.warmed
  have h4 : A.cells + (headSpec ws rm).room.cells ≤ R.cells := by rw [show (headSpec ws rm).room.cells = mc from hrc]; exact hp.1
  have h5 : A.slots + (headSpec ws rm).room.slots ≤ R.slots := by rw [show (headSpec ws rm).room.slots = ms from hrs]; exact hp.2.1
  have hPc : Pc a (A.U.calling g mk a) := hblind _ _ _ _ hp.2.2
  obtain ⟨U, Ls, c0, s0⟩ := A
  dsimp only [Pt.U, Pt.locs, Pt.cells, Pt.slots] at h1 h2 h3 h4 h5 X hn hPc ⊢
  obtain ⟨m9, methY, cY, hn9, hmY, hcY, -, hlY, -⟩ := Cond.codeWith_spec h2
  cases Option.some.inj (hn9.symm.trans hn)
  obtain ⟨kY, hkY, -⟩ := className_of_methodNamed hn
  have hinitY : kY.init = .initialized := Cond.initialized_spec (findClass_of_methodNamed hn) hkY h3
  have h : At U g.method c below := by rw [hg]; exact X.here
  have hlocals9 : W9 + (maxL + 11) + (headSpec ws rm).room.locals ≤ R.locals := hlocals
  have happ : (headSpec ws rm).appliesLoose y e.platform (U.calling g mk a) = true :=
    Spec.appliesLoose_calling (g := g) h hdg hn hkY hinitY
      (X.room_calling (g := g) (R' := (headSpec ws rm).room) hsize hmY hcY hframes (by rw [hlY]; omega) h4 h5) h1
  obtain ⟨mid, hmid⟩ := h.above
  have hfr : (U.setTop g).frames = (.java g :: mid) ++ below := by rw [State.frames_setTop' g h.top, hmid]; rfl
  obtain ⟨o, s₂, hsteps, -, hend, hq⟩ := Steps.callFree hM p X.admits X.cas X.clock (acts := []) hfr happ hPc trivial
  have hq' : vx_Q Qc XC mc ms free a (U.calling g mk a) o s₂ := hq
  rw [State.frames_setTop' g h.top] at hend
  obtain ⟨g₀, hg0⟩ := Option.isSome_iff_exists.mp h.top
  obtain ⟨r, hr⟩ := State.topJava?_eq_some.mp hg0
  have hr' : (({ U with heap := s₂.heap, slotsUsed := s₂.slotsUsed } : State).setVm s₂.vm).frames = .java g₀ :: r := hr
  rcases hq' with ⟨hqc, L, hfe, hL⟩ | ⟨q, rfl, E, ce, L, hx, hce, hcv, hcl, hW₂, hsm, hL⟩
  · obtain ⟨⟨v, rfl⟩, hW₂, e2, q2, q3, q4, q5, q6⟩ := id hfe
    have e3 : s₂ = ({ (U.calling g mk a).setFrames s₂.frames with heap := s₂.heap, slotsUsed := s₂.slotsUsed } : State).setVm s₂.vm := by
      have : s₂ = ({ s₂ with vm := (U.calling g mk a).vm } : State).setVm s₂.vm := rfl
      rw [e2] at this
      exact this
    obtain ⟨c₂, i₂, len₂, hc₂, hd₂, hf₂⟩ := hend
    have hW' : U.WarmedH s₂.vm := hW₂
    have hcc : c₂ = c := by
      have h1 : s₂.code? g.method = U.code? g.method := by
        rw [State.code?_eq, State.code?_eq, hW'.alike.method?]
      exact Option.some.inj (hc₂.symm.trans (h1.trans h.code))
    subst hcc
    have hlen : len₂ = len := by rw [hdg] at hd₂; cases hd₂; rfl
    subst hlen
    have hs₂ : s₂ = (({ U with heap := s₂.heap, slotsUsed := s₂.slotsUsed } : State).setVm s₂.vm).setTop { g with pc := g.pc + len₂, stack := v.toList ++ g.stack } := by
      refine e3.trans ?_
      rw [hf₂, State.calling_eq h.top, State.setFrames_setFrames, State.setTop_of_frames _ hr', hr]
      rfl
    have hsame : U.sameButNew ({ U with heap := s₂.heap, slotsUsed := s₂.slotsUsed } : State) L mc ms := by
      refine ⟨?_, q2, q3, q4, q5, q6⟩
      obtain ⟨t, ht, -⟩ := State.frames_cons hr
      show ({ U with heap := s₂.heap, slotsUsed := s₂.slotsUsed } : State) = { U.setFrames U.frames with heap := s₂.heap, slotsUsed := s₂.slotsUsed }
      rw [State.setFrames_self ht]
    subst hg
    refine Or.inl ⟨v, ⟨(({ U with heap := s₂.heap, slotsUsed := s₂.slotsUsed } : State).setVm s₂.vm), Ls ++ L, c0 + mc, s0 + ms⟩,
      ⟨X.admits, X.cas, X.clock, X.frames, X.room, X.hears, X.method, X.code, (X.here.setHeapUsed s₂.heap s₂.slotsUsed).setVm hW'.alike, X.tail, State.WarmedH.trans X.warmed hW', X.limits, X.bytes, X.same.trans (hsame.setVm s.vm)⟩,
      ⟨g, mk, s₂, L, rfl, rfl, hqc, rfl, hL, rfl, rfl⟩, ?_⟩
    show Steps p.tables e below _ ((({ U with heap := s₂.heap, slotsUsed := s₂.slotsUsed } : State).setVm s₂.vm).setTop { g with pc := g.pc + len₂, stack := v.toList ++ g.stack })
    rw [← hs₂]
    exact hsteps
  · obtain ⟨e2, q2, q3, q4, q5, q6⟩ := id hsm
    have e3 : s₂ = ({ (U.calling g mk a).setFrames s₂.frames with heap := s₂.heap, slotsUsed := s₂.slotsUsed } : State).setVm s₂.vm := by
      have : s₂ = ({ s₂ with vm := (U.calling g mk a).vm } : State).setVm s₂.vm := rfl
      rw [e2] at this
      exact this
    have hf₂ : s₂.frames = .throwing q :: .java g :: U.frames.tail := hend
    have hW' : U.WarmedH s₂.vm := hW₂
    have hs₂ : s₂ = ((({ U with heap := s₂.heap, slotsUsed := s₂.slotsUsed } : State).setVm s₂.vm).setTop g).pushFrame (.throwing q) := by
      refine e3.trans ?_
      rw [hf₂, State.calling_eq h.top, State.setFrames_setFrames, State.pushFrame, State.frames_setTop _ hr', State.setTop_of_frames _ hr', State.setFrames_setFrames, hr]
      rfl
    have hsame : U.sameButNew ({ U with heap := s₂.heap, slotsUsed := s₂.slotsUsed } : State) L mc ms := by
      refine ⟨?_, q2, q3, q4, q5, q6⟩
      obtain ⟨t, ht, -⟩ := State.frames_cons hr
      show ({ U with heap := s₂.heap, slotsUsed := s₂.slotsUsed } : State) = { U.setFrames U.frames with heap := s₂.heap, slotsUsed := s₂.slotsUsed }
      rw [State.setFrames_self ht]
    subst hg
    refine Or.inr ⟨q, ⟨(({ U with heap := s₂.heap, slotsUsed := s₂.slotsUsed } : State).setVm s₂.vm), Ls ++ L, c0 + mc, s0 + ms⟩,
      ⟨X.admits, X.cas, X.clock, X.frames, X.room, X.hears, X.method, X.code, (X.here.setHeapUsed s₂.heap s₂.slotsUsed).setVm hW'.alike, X.tail, State.WarmedH.trans X.warmed hW', X.limits, X.bytes, X.same.trans (hsame.setVm s.vm)⟩,
      ⟨g, mk, s₂, L, E, ce, rfl, rfl, hx, hce, hcv, hcl, rfl, hL, rfl, rfl⟩, ?_⟩
    show Steps p.tables e below _ (((({ U with heap := s₂.heap, slotsUsed := s₂.slotsUsed } : State).setVm s₂.vm).setTop g).pushFrame (.throwing q))
    rw [← hs₂]
    exact hsteps
end
variable {p : Program} {l : Launch} {e : Env} {R : Room} {s : State} {m : MethodId} {args : Array Value} {below : List Frame} {meth : Method} {c : Code} {T : State} {H : Heap} {locs : List Loc} {cells slots : Nat}
theorem vx_callVX (X : Stand p l e R s m args below meth c T locs cells slots) (hexec : p.tables.exec = Jvm.exec) {own C : String} {index : Nat} {y : MethodName} {bytes : ByteArray} {maxL : Nat} {ret : Option FieldType} {hh : List (Nat × Nat × Nat × Nat)}
    (hown : s.vm.findClass own = some m.cls) (hlink : (Cond.methodLink own index y).before args s = true) (hinst : (Cond.instanceMethod y).before args s = true) (hsel : (Cond.selects C y y).before args s = true)
    (hcode : (Cond.codeWith y bytes maxL ret hh).before args s = true) (hy : y.cls ≠ "java/lang/invoke/MethodHandle" ∧ y.cls ≠ "java/lang/invoke/VarHandle")
    {W9 : Nat} {Pre : Pt → Array Value → Prop} {Post : Pt → Array Value → Option Value → Pt → Prop} {PostX : Pt → Array Value → Addr → Pt → Prop} (hK : vx_Back l R p e below s args y 3 W9 Pre Post PostX)
    {b : Addr} {cellB : Cell} (hcell : T.heap[b]? = some cellB) (hobj : cellB.vm.isStatics = false) (hcls : s.vm.findClass C = some cellB.cls)
    {g : JFrame} (hg : g.method = m) (hsize : g.locals.size = c.maxLocals) {argsL rest : List Value} (hlen : ∀ sig, parseMethodDescriptor y.desc = some sig → argsL.length = sig.parameters.length)
    (hstack : g.stack = argsL.reverse ++ .ref b :: rest) (hW : 2 * g.monitorRoom + (rest.map fun v => v.category).sum ≤ W9) (hdg : decode c.code g.pc = .ok (.invokevirtual index, 3))
    (hpre : ∀ vm₁, s.WarmedH vm₁ → Pre ⟨T.setVm vm₁, locs, cells, slots⟩ (Value.ref b :: argsL).toArray) :
    (∃ (v : Option Value) (vm₁ : Vm) (B : Pt), s.WarmedH vm₁ ∧ Stand p l e R s m args below meth c B.U B.locs B.cells B.slots ∧ Post ⟨T.setVm vm₁, locs, cells, slots⟩ (Value.ref b :: argsL).toArray v B ∧
      ∀ target, Steps p.tables e below (B.U.setTop { g with pc := g.pc + 3, stack := v.toList ++ rest }) target → Steps p.tables e below (T.setTop g) target) ∨
    (∃ (q : Addr) (vm₁ : Vm) (B : Pt), s.WarmedH vm₁ ∧ Stand p l e R s m args below meth c B.U B.locs B.cells B.slots ∧ PostX ⟨T.setVm vm₁, locs, cells, slots⟩ (Value.ref b :: argsL).toArray q B ∧
      Steps p.tables e below (T.setTop g) ((B.U.setTop { g with stack := rest }).pushFrame (.throwing q))) := by
  obtain ⟨mk, methM, hnamed, hmethM, hstM, habM⟩ := Cond.instanceMethod_spec hinst
  obtain ⟨m8, methM', cM, hn8, hmethM', -, -, -, -, -, -, hsigM⟩ := Cond.codeWith_spec hcode
  cases Option.some.inj (hn8.symm.trans hnamed)
  cases hmethM.symm.trans hmethM'
  obtain ⟨c2, r2, m2, q1, q2, q3, q4, kP, hkP, hkPi⟩ := Cond.selects_spec hsel
  cases hcls.symm.trans q1
  cases (State.methodFound?_of_named hnamed hy).symm.trans q2
  cases hnamed.symm.trans q3
  have hselP : selectMethod e.platform s.vm cellB.cls mk = .method mk := by rw [Launch.admits_selectMethod X.admits]; exact q4
  obtain ⟨vm₁, X₁, hstep₁⟩ := X.invokevirtual hexec hown hlink hnamed hmethM hstM hkP hkPi hy (a := b) (cell := cellB) hcell
    (fun z h => by rw [h] at hobj; cases hobj) hselP hmethM habM hkP hkPi (g := g) hg (argsL := argsL) (rest := rest) (hlen _ hsigM) hstack hdg
  rcases hK m meth c ⟨T.setVm vm₁, locs, cells, slots⟩ { g with stack := rest } (.invokevirtual index) mk (Value.ref b :: argsL).toArray X₁ hg hsize hdg hW (X₁.named hnamed) (hpre vm₁ X₁.warmed) with ⟨v, B, X', hpost, hsteps⟩ | ⟨q, B, X', hpost, hsteps⟩
  · exact Or.inl ⟨v, vm₁, B, X₁.warmed, X', hpost, fun target h => hstep₁ _ fun acts => by rw [doInvoke_state]; exact hsteps.trans h⟩
  · exact Or.inr ⟨q, vm₁, B, X₁.warmed, X', hpost, hstep₁ _ fun acts => by rw [doInvoke_state]; exact hsteps⟩
theorem vx_callSX (X : Stand p l e R s m args below meth c T locs cells slots) (hexec : p.tables.exec = Jvm.exec) {own : String} {index : Nat} {y : MethodName} {bytes : ByteArray} {maxL : Nat} {ret : Option FieldType} {hh : List (Nat × Nat × Nat × Nat)}
    (hown : s.vm.findClass own = some m.cls) (hlink : (Cond.methodLink own index y).before args s = true) (hstat : (Cond.static y).before args s = true) (hinit : (Cond.initialized y.cls).before args s = true)
    (hcode : (Cond.codeWith y bytes maxL ret hh).before args s = true) (hy : y.cls ≠ "java/lang/invoke/MethodHandle" ∧ y.cls ≠ "java/lang/invoke/VarHandle")
    {W9 : Nat} {Pre : Pt → Array Value → Prop} {Post : Pt → Array Value → Option Value → Pt → Prop} {PostX : Pt → Array Value → Addr → Pt → Prop} (hK : vx_Back l R p e below s args y 3 W9 Pre Post PostX)
    {g : JFrame} (hg : g.method = m) (hsize : g.locals.size = c.maxLocals) {argsL rest : List Value} (hlen : ∀ sig, parseMethodDescriptor y.desc = some sig → argsL.length = sig.parameters.length)
    (hstack : g.stack = argsL.reverse ++ rest) (hW : 2 * g.monitorRoom + (rest.map fun v => v.category).sum ≤ W9) (hdg : decode c.code g.pc = .ok (.invokestatic index, 3))
    (hpre : ∀ vm₁, s.WarmedH vm₁ → Pre ⟨T.setVm vm₁, locs, cells, slots⟩ argsL.toArray) :
    (∃ (v : Option Value) (vm₁ : Vm) (B : Pt), s.WarmedH vm₁ ∧ Stand p l e R s m args below meth c B.U B.locs B.cells B.slots ∧ Post ⟨T.setVm vm₁, locs, cells, slots⟩ argsL.toArray v B ∧
      ∀ target, Steps p.tables e below (B.U.setTop { g with pc := g.pc + 3, stack := v.toList ++ rest }) target → Steps p.tables e below (T.setTop g) target) ∨
    (∃ (q : Addr) (vm₁ : Vm) (B : Pt), s.WarmedH vm₁ ∧ Stand p l e R s m args below meth c B.U B.locs B.cells B.slots ∧ PostX ⟨T.setVm vm₁, locs, cells, slots⟩ argsL.toArray q B ∧
      Steps p.tables e below (T.setTop g) ((B.U.setTop { g with stack := rest }).pushFrame (.throwing q))) := by
  obtain ⟨mk, methM, cM, hnamed, hmethM, -, -, -, -, -, -, hsigM⟩ := Cond.codeWith_spec hcode
  have hstatic : methM.isStatic = true := Cond.static_spec hnamed hmethM hstat
  obtain ⟨kP, hkP, -⟩ := className_of_methodNamed hnamed
  have hinitP : kP.init = .initialized := Cond.initialized_spec (findClass_of_methodNamed hnamed) hkP hinit
  obtain ⟨vm₁, X₁, hstep₁⟩ := X.invokestatic hexec hown hlink hnamed hmethM hstatic hkP hinitP hy (g := g) hg (argsL := argsL) (rest := rest) (hlen _ hsigM) hstack hdg
  rcases hK m meth c ⟨T.setVm vm₁, locs, cells, slots⟩ { g with stack := rest } (.invokestatic index) mk argsL.toArray X₁ hg hsize hdg hW (X₁.named hnamed) (hpre vm₁ X₁.warmed) with ⟨v, B, X', hpost, hsteps⟩ | ⟨q, B, X', hpost, hsteps⟩
  · exact Or.inl ⟨v, vm₁, B, X₁.warmed, X', hpost, fun target h => hstep₁ _ fun acts => by rw [doInvoke_state]; exact hsteps.trans h⟩
  · exact Or.inr ⟨q, vm₁, B, X₁.warmed, X', hpost, hstep₁ _ fun acts => by rw [doInvoke_state]; exact hsteps⟩
theorem vx_callVW (X : Stand p l e R s m args below meth c T locs cells slots) (hexec : p.tables.exec = Jvm.exec) {own C : String} {index : Nat} {y : MethodName} {bytes : ByteArray} {maxL : Nat} {ret : Option FieldType} {hh : List (Nat × Nat × Nat × Nat)}
    (hown : s.vm.findClass own = some m.cls) (hlink : (Cond.methodLink own index y).before args s = true) (hinst : (Cond.instanceMethod y).before args s = true) (hsel : (Cond.selects C y y).before args s = true)
    (hcode : (Cond.codeWith y bytes maxL ret hh).before args s = true) (hy : y.cls ≠ "java/lang/invoke/MethodHandle" ∧ y.cls ≠ "java/lang/invoke/VarHandle")
    {W9 : Nat} {Pre : Pt → Array Value → Prop} {Post : Pt → Array Value → Option Value → Pt → Prop} (hK : Back l R p e below s args y 3 W9 Pre Post)
    {b : Addr} {cellB : Cell} (hcell : T.heap[b]? = some cellB) (hobj : cellB.vm.isStatics = false) (hcls : s.vm.findClass C = some cellB.cls)
    {g : JFrame} (hg : g.method = m) (hsize : g.locals.size = c.maxLocals) {argsL rest : List Value} (hlen : ∀ sig, parseMethodDescriptor y.desc = some sig → argsL.length = sig.parameters.length)
    (hstack : g.stack = argsL.reverse ++ .ref b :: rest) (hW : 2 * g.monitorRoom + (rest.map fun v => v.category).sum ≤ W9) (hdg : decode c.code g.pc = .ok (.invokevirtual index, 3))
    (hpre : ∀ vm₁, s.WarmedH vm₁ → Pre ⟨T.setVm vm₁, locs, cells, slots⟩ (Value.ref b :: argsL).toArray) :
    ∃ (v : Option Value) (vm₁ : Vm) (B : Pt), s.WarmedH vm₁ ∧ Stand p l e R s m args below meth c B.U B.locs B.cells B.slots ∧ Post ⟨T.setVm vm₁, locs, cells, slots⟩ (Value.ref b :: argsL).toArray v B ∧
      ∀ target, Steps p.tables e below (B.U.setTop { g with pc := g.pc + 3, stack := v.toList ++ rest }) target → Steps p.tables e below (T.setTop g) target := by
  obtain ⟨mk, methM, hnamed, hmethM, hstM, habM⟩ := Cond.instanceMethod_spec hinst
  obtain ⟨m8, methM', cM, hn8, hmethM', -, -, -, -, -, -, hsigM⟩ := Cond.codeWith_spec hcode
  cases Option.some.inj (hn8.symm.trans hnamed)
  cases hmethM.symm.trans hmethM'
  obtain ⟨c2, r2, m2, q1, q2, q3, q4, kP, hkP, hkPi⟩ := Cond.selects_spec hsel
  cases hcls.symm.trans q1
  cases (State.methodFound?_of_named hnamed hy).symm.trans q2
  cases hnamed.symm.trans q3
  have hselP : selectMethod e.platform s.vm cellB.cls mk = .method mk := by rw [Launch.admits_selectMethod X.admits]; exact q4
  obtain ⟨vm₁, X₁, hstep₁⟩ := X.invokevirtual hexec hown hlink hnamed hmethM hstM hkP hkPi hy (a := b) (cell := cellB) hcell
    (fun z h => by rw [h] at hobj; cases hobj) hselP hmethM habM hkP hkPi (g := g) hg (argsL := argsL) (rest := rest) (hlen _ hsigM) hstack hdg
  obtain ⟨v, B, X', hpost, hsteps⟩ := hK m meth c ⟨T.setVm vm₁, locs, cells, slots⟩ { g with stack := rest } (.invokevirtual index) mk (Value.ref b :: argsL).toArray X₁ hg hsize hdg hW (X₁.named hnamed) (hpre vm₁ X₁.warmed)
  exact ⟨v, vm₁, B, X₁.warmed, X', hpost, fun target h => hstep₁ _ fun acts => by rw [doInvoke_state]; exact hsteps.trans h⟩
abbrev vx_CVW (R : Room) (s : State) (args : Array Value) (own C : String) (index : Nat) (y : MethodName) (bytes : ByteArray) (maxL : Nat) (ret : Option FieldType) (hh : List (Nat × Nat × Nat × Nat)) (ws : List Cond) (rm : Room) (mc ms n : Nat) : Prop :=
  (rm.cells = mc ∧ rm.slots = ms ∧ rm.frames + 1 ≤ R.frames ∧ 8 + (maxL + 11) + rm.locals ≤ R.locals ∧ (∀ w ∈ ws, ∀ (a' : Array Value) (U : State), s.WarmedH U.vm → w.before a' U = true) ∧ Cond.codeWith y bytes maxL ret hh ∈ ws) ∧
  (Cond.codeWith y bytes maxL ret hh).before args s = true ∧ (Cond.initialized y.cls).before args s = true ∧ (y.cls ≠ "java/lang/invoke/MethodHandle" ∧ y.cls ≠ "java/lang/invoke/VarHandle") ∧
  (∀ sig, parseMethodDescriptor y.desc = some sig → n = sig.parameters.length) ∧ (Cond.methodLink own index y).before args s = true ∧ (Cond.instanceMethod y).before args s = true ∧ (Cond.selects C y y).before args s = true
theorem vx_cwVW {own C : String} {index maxL mc ms : Nat} {y : MethodName} {bytes : ByteArray} {ret : Option FieldType} {hh : List (Nat × Nat × Nat × Nat)} {Ts ws ws' : List Cond} {rm : Room} (n : Nat) (ht : ∀ w ∈ Ts, w.before args s = true) (hT : GoodIn Ts (wsV own index C y ws)) (hw : ws = Cond.codeWith y bytes maxL ret hh :: ws') (hrc : rm.cells = mc) (hrs : rm.slots = ms)
    (hd : y.cls = C ∧ y.cls ≠ "java/lang/invoke/MethodHandle" ∧ y.cls ≠ "java/lang/invoke/VarHandle" ∧ (parseMethodDescriptor y.desc).map (fun d => d.parameters.length) = some n) (hR : rm.frames + 1 ≤ R.frames ∧ 8 + (maxL + 11) + rm.locals ≤ R.locals) :
    vx_CVW R s args own C index y bytes maxL ret hh ws rm mc ms n := by
  obtain ⟨hC, hd⟩ := hd
  subst hC
  have ok : ∀ w ∈ wsV own index y.cls y ws, w.before args s = true := fun w h => ht w (hT w h).1
  have hG : GoodIn Ts ws := fun w h => hT w (by unfold wsV; exact List.mem_append_right _ h)
  have hc : Cond.codeWith y bytes maxL ret hh ∈ ws := by rw [hw]; exact List.mem_cons_self
  refine ⟨⟨hrc, hrs, hR.1, hR.2, pay_in ht hG, hc⟩, ht _ (hG _ hc).1, ok _ (by simp [wsV]), ⟨hd.1, hd.2.1⟩, fun sig h => ?_, ok _ (by simp [wsV]), ok _ (by simp [wsV]), ok _ (by simp [wsV])⟩
  have h2 := hd.2.2
  rw [h] at h2
  exact (Option.some.inj h2).symm
theorem vx_runVW {y : MethodName} {bytes cc : ByteArray} {maxL nL mc ms n index : Nat} {ret : Option FieldType} {hh : List (Nat × Nat × Nat × Nat)} {ws : List Cond} {rm : Room} {Pc : Array Value → State → Prop} {Qc : Array Value → State → Outcome → State → Prop} {free : Addr → Prop} {Ts : List Cond} {own C : String} {b : Addr} {As rest : List Value} {g : JFrame}
    (S : CallFix p m c cc nL s args Ts own) (hM : Met l y ws rm Pc Qc mc ms free) (cw : vx_CVW R s args own C index y bytes maxL ret hh ws rm mc ms n) (hp : PreV s H C b Pc As)
    (hg : g.method = m) (hn : As.length = n) (hsize : g.locals.size = nL) (hstack : g.stack = As.reverse ++ .ref b :: rest) (hW : 2 * g.monitorRoom + (rest.map fun v => v.category).sum ≤ 8) (hdg : decode cc g.pc = .ok (.invokevirtual index, 3)) (hf : cells + mc ≤ R.cells ∧ slots + ms ≤ R.slots) :
    va_Run p l e R s m args below meth c H locs cells slots mc ms g rest (Qc (Value.ref b :: As).toArray) free := by
  obtain ⟨⟨hrc, hrs, hfr, hlo, hws, hcw⟩, hcode, hini, hy, hlen, hl, hin, hse⟩ := cw
  have hK : Back l R p e below s args y 3 8 (PreOf R mc ms Pc) (PostOf Qc mc ms free) := va_backW (hh := hh) (bytes := bytes) (maxL := maxL) (ret := ret) hM hp.1 hrc hrs hfr hlo hws hcw (fun a' U hW => word_at hW (Or.inl (by first | rfl | simp [Cond.onTables, Cond.keeps, Cond.steady])) hini)
  obtain ⟨hx, hb, hml, ho, -⟩ := S
  obtain ⟨-, ⟨cellB, hcB, hoB, hclB⟩, hPc⟩ := hp
  intro T hT X
  obtain ⟨v, vm₁, ⟨U', l2, c2, s2⟩, hW₁, X', ⟨g', mk, t, L, e1, e2, hq, h1, hL, h2, h3⟩, st⟩ := vx_callVW X hx (C := C) (hh := hh) (bytes := bytes) (maxL := maxL) (ret := ret) ho hl hin hse hcode hy hK (by rw [hT]; exact hcB) hoB hclB hg (hsize.trans hml.symm) (argsL := As) (rest := rest) (fun sig h => hn.trans (hlen sig h)) hstack hW (by rw [hb]; exact hdg)
    (fun vm₁ hW₁ => ⟨hf.1, hf.2, hPc (T.setVm vm₁) hT hW₁⟩)
  dsimp only [Pt.U, Pt.locs, Pt.cells, Pt.slots] at X' e1 e2 h1 h2 h3 st
  subst h1; subst h2; subst h3
  exact ⟨v, (T.setVm vm₁).calling g' mk (Value.ref b :: As).toArray, t, U', L, hT, X', hL, e1, e2, hq, st⟩
section
variable {y : MethodName} {bytes cc : ByteArray} {maxL nL mc ms n index : Nat} {ret : Option FieldType} {ws : List Cond} {rm : Room} {Pc : Array Value → State → Prop} {Qc : Array Value → State → Outcome → State → Prop} {XC : String → State → State → Prop} {free : Addr → Prop} {Ts : List Cond} {own C : String} {b : Addr} {As rest : List Value} {g : JFrame}
theorem vx_runVX {hh : List (Nat × Nat × Nat × Nat)} (S : CallFix p m c cc nL s args Ts own) (hM : vx_Met l y ws rm Pc Qc XC mc ms free) (cw : vx_CVW R s args own C index y bytes maxL ret hh ws rm mc ms n) (hp : PreV s H C b Pc As)
    (hg : g.method = m) (hn : As.length = n) (hsize : g.locals.size = nL) (hstack : g.stack = As.reverse ++ .ref b :: rest) (hW : 2 * g.monitorRoom + (rest.map fun v => v.category).sum ≤ 8) (hdg : decode cc g.pc = .ok (.invokevirtual index, 3)) (hf : cells + mc ≤ R.cells ∧ slots + ms ≤ R.slots) :
    vx_Run p l e R s m args below meth c H locs cells slots mc ms g rest (Qc (Value.ref b :: As).toArray) XC free := by
  obtain ⟨⟨hrc, hrs, hfr, hlo, hws, hcw⟩, hcode, hini, hy, hlen, hl, hin, hse⟩ := cw
  have hK : vx_Back l R p e below s args y 3 8 (PreOf R mc ms Pc) (PostOf Qc mc ms free) (vx_Post XC mc ms free) := vx_backW (hh := hh) (bytes := bytes) (maxL := maxL) (ret := ret) hM hp.1 hrc hrs hfr hlo hws hcw (fun a' U hW => word_at hW (Or.inl (by first | rfl | simp [Cond.onTables, Cond.keeps, Cond.steady])) hini)
  obtain ⟨hx, hb, hml, ho, -⟩ := S
  obtain ⟨-, ⟨cellB, hcB, hoB, hclB⟩, hPc⟩ := hp
  intro T hT X
  rcases vx_callVX X hx (C := C) (hh := hh) (bytes := bytes) (maxL := maxL) (ret := ret) ho hl hin hse hcode hy hK (by rw [hT]; exact hcB) hoB hclB hg (hsize.trans hml.symm) (argsL := As) (rest := rest) (fun sig h => hn.trans (hlen sig h)) hstack hW (by rw [hb]; exact hdg)
    (fun vm₁ hW₁ => ⟨hf.1, hf.2, hPc (T.setVm vm₁) hT hW₁⟩) with ⟨v, vm₁, ⟨U', l2, c2, s2⟩, hW₁, X', ⟨g', mk, t, L, e1, e2, hq, h1, hL, h2, h3⟩, st⟩ | ⟨q, vm₁, ⟨U', l2, c2, s2⟩, hW₁, X', ⟨g', mk, t, L, E, ce, e1, e2, hq, hce, hcv, hcl, h1, hL, h2, h3⟩, st⟩
  · dsimp only [Pt.U, Pt.locs, Pt.cells, Pt.slots] at X' e1 e2 h1 h2 h3 st
    subst h1; subst h2; subst h3
    exact Or.inl ⟨v, (T.setVm vm₁).calling g' mk (Value.ref b :: As).toArray, t, U', L, hT, X', hL, e1, e2, hq, st⟩
  · dsimp only [Pt.U, Pt.locs, Pt.cells, Pt.slots] at X' e1 e2 h1 h2 h3 st hcl
    subst h1; subst h2; subst h3
    exact Or.inr ⟨q, (T.setVm vm₁).calling g' mk (Value.ref b :: As).toArray, t, U', L, E, ce, hT, X', hL, e1, e2, hq, hce, hcv, vx_cls hW₁ hcl, st⟩
theorem vx_runSX {hh : List (Nat × Nat × Nat × Nat)} (S : CallFix p m c cc nL s args Ts own) (hM : vx_Met l y ws rm Pc Qc XC mc ms free) (cw : vx_CSW R s args own index y bytes maxL ret hh ws rm mc ms n) (hp : PreS s H Pc As)
    (hg : g.method = m) (hn : As.length = n) (hsize : g.locals.size = nL) (hstack : g.stack = As.reverse ++ rest) (hW : 2 * g.monitorRoom + (rest.map fun v => v.category).sum ≤ 8) (hdg : decode cc g.pc = .ok (.invokestatic index, 3)) (hf : cells + mc ≤ R.cells ∧ slots + ms ≤ R.slots) :
    vx_Run p l e R s m args below meth c H locs cells slots mc ms g rest (Qc As.toArray) XC free := by
  obtain ⟨⟨hrc, hrs, hfr, hlo, hws, hcw⟩, hcode, hini, hy, hlen, hl, hstt⟩ := cw
  have hK : vx_Back l R p e below s args y 3 8 (PreOf R mc ms Pc) (PostOf Qc mc ms free) (vx_Post XC mc ms free) := vx_backW (hh := hh) (bytes := bytes) (maxL := maxL) (ret := ret) hM hp.1 hrc hrs hfr hlo hws hcw (fun a' U hW => word_at hW (Or.inl (by first | rfl | simp [Cond.onTables, Cond.keeps, Cond.steady])) hini)
  obtain ⟨hx, hb, hml, ho, -⟩ := S
  intro T hT X
  rcases vx_callSX X hx (hh := hh) (bytes := bytes) (maxL := maxL) (ret := ret) ho hl hstt hini hcode hy hK hg (hsize.trans hml.symm) (argsL := As) (rest := rest) (fun sig h => hn.trans (hlen sig h)) hstack hW (by rw [hb]; exact hdg)
    (fun vm₁ hW₁ => ⟨hf.1, hf.2, hp.2 (T.setVm vm₁) hT hW₁⟩) with ⟨v, vm₁, ⟨U', l2, c2, s2⟩, hW₁, X', ⟨g', mk, t, L, e1, e2, hq, h1, hL, h2, h3⟩, st⟩ | ⟨q, vm₁, ⟨U', l2, c2, s2⟩, hW₁, X', ⟨g', mk, t, L, E, ce, e1, e2, hq, hce, hcv, hcl, h1, hL, h2, h3⟩, st⟩
  · dsimp only [Pt.U, Pt.locs, Pt.cells, Pt.slots] at X' e1 e2 h1 h2 h3 st
    subst h1; subst h2; subst h3
    exact Or.inl ⟨v, (T.setVm vm₁).calling g' mk As.toArray, t, U', L, hT, X', hL, e1, e2, hq, st⟩
  · dsimp only [Pt.U, Pt.locs, Pt.cells, Pt.slots] at X' e1 e2 h1 h2 h3 st hcl
    subst h1; subst h2; subst h3
    exact Or.inr ⟨q, (T.setVm vm₁).calling g' mk As.toArray, t, U', L, E, ce, hT, X', hL, e1, e2, hq, hce, hcv, vx_cls hW₁ hcl, st⟩
end
end VXH
theorem vx_ofWH {l : Launch} {y : MethodName} {ws ws' : List Cond} {rm : Room} {Pc : Array Value → State → Prop} {Qc : Array Value → State → Outcome → State → Prop} {XC : String → State → State → Prop} {mc ms : Nat} {free : Addr → Prop} {cc : ByteArray} {maxL : Nat} {ret : Option FieldType} {hh : List (Nat × Nat × Nat × Nat)}
    (hy : plainName y.cls = true) (hw : ws = Cond.codeWith y cc maxL ret hh :: ws')
    (body : ∀ p e s m args below meth c s₁, BodyLoose p l y (headSpec ws rm) cc maxL ret e s m args below meth c s₁ → c.maxLocals = maxL → Pc args s →
      W p l e (headSpec ws rm).room s m args below meth c s.heap [] 0 0 (vx_MQ below Qc XC args s mc ms free) (entryFrame m args maxL)) : vx_Met l y ws rm Pc Qc XC mc ms free := by
  refine MetFree.of_bodyS (code := cc) (maxLocals := maxL) (ret := ret) hy ?_ ?_
  · intro args s m h hn
    obtain ⟨m9, meth, c, hn9, h1, h2, h3, h4, -, h5, h6, -⟩ := Cond.codeWith_spec (atoms_spec (ws := ws) h _ (by rw [hw]; exact List.mem_cons_self))
    cases hn.symm.trans hn9
    exact ⟨meth, c, h1, h2, h3, h4, h5, h6⟩
  · intro p e s m args below meth c s₁ B hml hP _
    have hh0 : s₁.heap = s.heap := by rw [B.state]; rfl
    obtain ⟨t, a1, o, b1, b2, b3⟩ := body p e s m args below meth c s₁ B hml hP s₁ hh0 (Stand.of_body B)
    exact ⟨t, o, a1, b1, b2, b3⟩
/-! ===== END ===== -/

/-! ===== BEGIN what the machine throws by itself, no traces kept ===== -/
section VXM
set_option maxHeartbeats 1000000 in
/-- the machine throws cls with the message text, no traces kept: from its note over the frame g to 'throwing' over the same frame (follows the proofs of Stand.vmThrowsMessage, Shelf/KitTracedVmS.lean, and Stand.throwsMessageColdBareV, StandMessageColdV.lean, without the step out of the frame) -/
theorem vx_vmAt {p : Program} {l : Launch} {e : Env} {R : Room} {s : State} {m₀ : MethodId} {args : Array Value} {below : List Frame} {meth : Method} {c : Code} {W : State} {locs : List Loc} {cells slots : Nat}
    (X : Stand p l e R s m₀ args below meth c W locs cells slots) (hexec : p.tables.exec = Jvm.exec) (htr : e.platform.stackTraces = false) {cls : String} {names : List String} {text : String}
    (hcls : Bundle.fit cls = true) (hnames : ∀ n ∈ names, Bundle.fit n = true) (hsoe : (cls == "java/lang/StackOverflowError") = false) (hoom : (cls == "java/lang/OutOfMemoryError") = false)
    (h : ∀ a ∈ Bundle.messageArmAtoms cls names, a.before args s = true)
    (hlocs : ∀ x ∈ locs, ∀ cell, s.heap[x.base]? = some cell → cell.vm.isStatics = false)
    (htext : (text == notModelled) = false) (hlimit : ¬ (stringBytes (stringToUtf16 text)).size > e.platform.arrayLengthLimit) (hheap : ¬ (stringBytes (stringToUtf16 text)).size * componentBytes .byte > e.platform.maxHeapBytes)
    {g : JFrame} (hg : g.method = m₀) (hsize : g.locals.size = c.maxLocals)
    (hRframes : names.length + 4 < R.frames) (hRlocals : 2 * g.monitorRoom + (g.stack.map fun v => v.category).sum + 10240 ≤ R.locals) (hshort : 13 * names.length + 55 ≤ 10240)
    (hRcells : cells + 3 ≤ R.cells) (hRslots : slots + ((stringBytes (stringToUtf16 text)).size + 4 + 6) ≤ R.slots) (hlocks : meth.locks = false) :
    ∃ (S : State) (q : Addr) (ce : Cell), (∀ target, Steps p.tables e below ((S.setTop g).pushFrame (.throwing q)) target → Steps p.tables e below ((W.setTop g).pushFrame (.throwNew cls (some text) none)) target) ∧
      Stand p l e R s m₀ args below meth c S locs (cells + 3) (slots + ((stringBytes (stringToUtf16 text)).size + 4 + 6)) ∧ S.heap[q]? = some ce ∧ s.vm.findClass cls = some ce.cls ∧ ce.vm = .none := by
  have howns : e.platform.frameOwnsMonitors = true := by rw [X.admits.platform]
  have hfin : e.platform.finalization = false := by rw [X.admits.platform]
  have hpl : e.platform.magicAccessors = ({} : Platform).magicAccessors := by rw [X.admits.platform]
  have a : ∀ x, x ∈ Bundle.messageArmAtoms cls names → x.holds args s none s [] = true := fun x hx => h x hx
  obtain ⟨T, Z0, L, -, Y⟩ := ThrowableC.of_atoms (args := args) howns hfin hpl (fun x hx => h x (by simp [Bundle.messageArmAtoms, hx]))
  obtain ⟨Z, M, LZ, LM, hnZ⟩ := Init0T.ofS_atoms (args := args) hpl L Y (fun x hx => h x (by simp [Bundle.messageArmAtoms, hx]))
  obtain ⟨P1, Ps, hlen, L1, hL, hP1m, hlink1, hlink⟩ := Bundle.chainS (args := args) hpl hnZ names cls hcls hnames (fun x hx => h x (by simp [Bundle.messageArmAtoms, hx]))
  obtain ⟨Zs, LZs, hn4, hfitv, hfitc⟩ := StringT.of_atoms (args := args) (fun x hx => h x (by simp [Bundle.messageArmAtoms, hx]))
  have hfound : s.vm.findClass cls = some P1.m.cls := findClass_of_methodNamed hP1m
  obtain ⟨c1, kX, hc1, hk, hord, -, -, hn6⟩ := Cond.instantiable_spec (a (.instantiable cls 6) (by simp [Bundle.messageArmAtoms]))
  cases Option.some.inj (hc1.symm.trans hfound)
  have hinit := Cond.initialized_spec hfound hk (a (.initialized cls) (by simp [Bundle.messageArmAtoms]))
  have hctor : kX.findMethod "<init>" "(Ljava/lang/String;)V" = some P1.m.idx := findMethod_of_methodNamed hP1m hk
  have hsel0 : selectMethod e.platform s.vm P1.m.cls T.fill0 = .method T.fill0 := by
    obtain ⟨c2, r2, m2, q1, q2, q3, q4, -⟩ := Cond.selects_spec (a (.selects cls Bundle.tFill0 Bundle.tFill0) (by simp [Bundle.messageArmAtoms]))
    cases Option.some.inj (q1.symm.trans hfound)
    cases Option.some.inj (q2.symm.trans (State.methodFound?_of_named Y.fill0 (by decide)))
    cases Option.some.inj (q3.symm.trans Y.fill0)
    rw [Launch.admits_selectMethod X.admits]; exact q4
  have hselF : selectMethod e.platform s.vm P1.m.cls T.fill = .method T.fill := by
    obtain ⟨c2, r2, m2, q1, q2, q3, q4, -⟩ := Cond.selects_spec (a (.selects cls Bundle.tFill Bundle.tFill) (by simp [Bundle.messageArmAtoms]))
    cases Option.some.inj (q1.symm.trans hfound)
    cases Option.some.inj (q2.symm.trans (State.methodFound?_of_named Y.fill (by decide)))
    cases Option.some.inj (q3.symm.trans Y.fill)
    rw [Launch.admits_selectMethod X.admits]; exact q4
  obtain ⟨cellS0, hcS0, hiss⟩ := Y.statics
  obtain ⟨u0, hu0⟩ := Cond.staticRefV Y.unassigned L.unassignedStatic L.statics hcS0 hiss (a (.isRef (.static Bundle.tN "UNASSIGNED_STACK" Bundle.steD)) (by simp [Bundle.messageArmAtoms]))
  obtain ⟨sen, hsen⟩ := Cond.staticRefV Y.sentinel L.sentinelStatic L.statics hcS0 hiss (a (.isRef (.static Bundle.tN "SUPPRESSED_SENTINEL" Bundle.listD)) (by simp [Bundle.messageArmAtoms]))
  obtain ⟨ci198, i198, fB, hk198, hg198, ha198, hsB, -, hnB, htB, hffB⟩ := Cond.ownField (t := .object "java/lang/Object") Y.found L.cls (by decide +kernel) (a (.fieldLink Bundle.tN 198 Bundle.tN "backtrace" "Ljava/lang/Object;") (by simp [Bundle.messageArmAtoms])) (a (.lays Bundle.tN Bundle.tN "backtrace" "Ljava/lang/Object;") (by simp [Bundle.messageArmAtoms])) e.platform hpl
  obtain ⟨cellS, hcS', heS, -, hkeep⟩ := X.same.2.2.2.2.2 T.aS cellS0 hcS0
  have hcellS : W.heap[T.aS]? = some cellS := hcS'
  have hout' : ∀ i, (⟨T.aS, i⟩ : Loc) ∉ locs := fun i hmem => by
    have := hlocs _ hmem cellS0 hcS0
    rw [hiss] at this; cases this
  have hknownS : cellS.vm ≠ .unknown := by
    rw [heS]; intro hu
    rw [show cellS0.vm = .unknown from hu] at hiss
    cases hiss
  have hvU : cellS.slots[T.fUnassigned.slot]? = some u0.v := by rw [hkeep _ (hout' _)]; exact hu0
  have hvSen : cellS.slots[T.fSentinel.slot]? = some sen.v := by rw [hkeep _ (hout' _)]; exact hsen
  obtain ⟨iM, hffM⟩ := Y.msg
  obtain ⟨tyC, dC, hdC, hdnC⟩ := Cond.laysAt hfound hk Y.cause (a (.lays cls Bundle.tN "cause" "Ljava/lang/Throwable;") (by simp [Bundle.messageArmAtoms]))
  obtain ⟨tyS, dS, hdS, hdnS⟩ := Cond.laysAt hfound hk Y.stack (a (.lays cls Bundle.tN "stackTrace" Bundle.steD) (by simp [Bundle.messageArmAtoms]))
  obtain ⟨tyP, dP, hdP, hdnP⟩ := Cond.laysAt hfound hk Y.supp (a (.lays cls Bundle.tN "suppressedExceptions" Bundle.listD) (by simp [Bundle.messageArmAtoms]))
  obtain ⟨tyM, dM, hdM, hdnM⟩ := Cond.laysAt hfound hk hffM (a (.lays cls Bundle.tN "detailMessage" "Ljava/lang/String;") (by simp [Bundle.messageArmAtoms]))
  obtain ⟨tyB, dB, hdB, hdnB⟩ := Cond.laysAt hfound hk hffB (a (.lays cls Bundle.tN "backtrace" "Ljava/lang/Object;") (by simp [Bundle.messageArmAtoms]))
  have bC := Cond.laysApart hdB hdC hdnB hdnC (by rw [hnB, Y.causeName]; decide)
  have bS := Cond.laysApart hdB hdS hdnB hdnS (by rw [hnB, Y.stackName]; decide)
  have bP := Cond.laysApart hdB hdP hdnB hdnP (by rw [hnB, Y.suppName]; decide)
  have hbk : ((preparedCellV T.toThrowableT (freshCell P1.m.cls kX) (W.heap.size + 2) u0 sen).withEntry W.cur).slots[fB.slot]? = some .null := by
    have := fresh_default (c := P1.m.cls) tyB
    rw [htB] at this
    simpa [preparedCellV, Cell.setSlot, Cell.withEntry, Array.getElem?_setIfInBounds, bC, bS, bP, bC.symm, bS.symm, bP.symm, defaultValue] using this
  have tkC := Takes.of_laid (v := .ref (W.heap.size + 2)) hk hord tyC (by rw [Y.causeType]; rfl)
  have tkS := Takes.of_laid (v := u0.v) hk hord tyS (by rw [Y.stackType]; exact fits_refV_array _ u0)
  have tkP := Takes.of_laid (v := sen.v) hk hord tyP (by rw [Y.suppType]; exact fits_refV_object _ sen)
  have tkM := Takes.of_laid (v := .ref (W.heap.size + 1)) hk hord tyM (by rw [Y.msgType]; rfl)
  have hskip : SkipFacts T e.platform s (fun u => u) u0 ((preparedCellV T.toThrowableT (freshCell P1.m.cls kX) (W.heap.size + 2) u0 sen).withEntry W.cur) := ⟨{ ci198 := ci198, i198 := i198, fBack := fB }, ⟨hk198, hg198, ha198, hsB⟩, hbk, fun _ _ => rfl⟩
  have h0 : At W g.method c below := by rw [hg]; exact X.here
  obtain ⟨hbeyond, hfreeW⟩ := X.vmMayThrow hsize (.throwNew cls (some text) none) (fun f hf => by cases hf) rfl hRlocals
  have hfr' : W.frames.length + Ps.length + 4 < (e.platform.stackLimits W.me).1 := by have := X.framesAbove hRframes; omega
  have hwd' : (stackUse (.java g :: W.frames.tail)).2 + 13 * Ps.length + 55 ≤ (e.platform.stackLimits W.me).2 := by have := X.stackAbove hsize (K := 13 * Ps.length + 55) (by omega); omega
  have hslots : W.slotsUsed + (stringBytes (stringToUtf16 text)).size + Zs.kS.instanceTypes.size + kX.instanceTypes.size ≤ e.platform.maxSlots := by
    have := X.slotsAbove hRslots
    rw [hn4, hn6]
    omega
  obtain ⟨vm', hW', st⟩ := Steps.vmThrowsMessageColdByV p (s₀ := s) (S := W) (g := g) h0 hexec T L Z LZ M LM X.warmed (t := W.cur) rfl Zs LZs P1 L1 Ps hL hlink1 hlink hsoe hoom hfound hk hinit hord hctor
    (Launch.admits_hotImplicitExceptions X.admits) hbeyond hfreeW htext hlimit hheap (X.cellsAbove hRcells) hslots (hfitv _) (hfitc _)
    (Nn := fun u => u) heapOnly_id (fun _ _ => rfl) (fun _ => rfl) (fun u x y => setCell_twice _ _ _ _) (fun _ => Nat.le_refl _) (cN := ((preparedCellV T.toThrowableT (freshCell P1.m.cls kX) (W.heap.size + 2) u0 sen).withEntry W.cur))
    hsel0 hcellS hknownS hvU tkS (fun _ hu => hu) (fun _ hu => hu) rfl rfl rfl (by simp [preparedCellV, Cell.setSlot, Cell.withEntry]) hskip (fun _ _ hA hW _ hroom _ hrest => L.nativeOff p htr hA hW hroom hrest) hselF hvSen tkC tkP tkM Y.objLocals rfl hfr' hwd'
  rw [plainBareV_eq T.toThrowableT (W.heap.size + 2) u0 sen (.ref (W.heap.size + 1)) W.cur rfl rfl] at st
  obtain ⟨-, -, w3, w4, -, -, -⟩ := withThrown_facts e.platform W Zs text P1.m.cls kX
  have X3 := ((X.pushed (bytesOf Zs.cB (stringToUtf16 text))).pushed (stringAt Zs.cS Zs.kS Zs.fv Zs.fc (stringToUtf16 text) W.heap.size)).pushed (freshCell P1.m.cls kX)
  rw [← withString_eq] at X3
  have X4 := X3.noted hW'
  have ha : (W.heap.size + 2) < ((withThrown W Zs text P1.m.cls kX).setVm vm').heap.size := by show _ < (withThrown W Zs text P1.m.cls kX).heap.size; rw [w3]; omega
  have hcell : ((withThrown W Zs text P1.m.cls kX).setVm vm').heap[(W.heap.size + 2)]? = some (freshCell P1.m.cls kX) := w4
  have X5 := ((((X4.stored hcell T.fCause.slot (.ref (W.heap.size + 2))).storedAgain ha T.fStack.slot u0.v).storedAgain ha T.fSupp.slot sen.v).storedAgain ha T.fStack.slot u0.v).storedAgain ha T.fMsg.slot (.ref (W.heap.size + 1))
  obtain ⟨g₁, hfrM⟩ := X5.frames_eq
  have hU : ((((withThrown W Zs text P1.m.cls kX).setVm vm').setCell (W.heap.size + 2) (plainBareV T.toThrowableT (freshCell P1.m.cls kX) (W.heap.size + 2) u0 sen (.ref (W.heap.size + 1)))).setTop g).pushFrame (.throwing (W.heap.size + 2)) = (((withThrown W Zs text P1.m.cls kX).setVm vm').setCell (W.heap.size + 2) (plainBareV T.toThrowableT (freshCell P1.m.cls kX) (W.heap.size + 2) u0 sen (.ref (W.heap.size + 1)))).setFrames (.throwing (W.heap.size + 2) :: .java g :: below) := by
    rw [State.pushFrame, State.frames_setTop _ hfrM, State.setTop_of_frames _ hfrM, State.setFrames_setFrames]
  have b1 : (bytesOf Zs.cB (stringToUtf16 text)).slots.size = (stringBytes (stringToUtf16 text)).size := by
    rw [(Cell.writeAll_facts _ _).2.2]; simp [bytes0]
  have b2 : (stringAt Zs.cS Zs.kS Zs.fv Zs.fc (stringToUtf16 text) W.heap.size).slots.size = 4 := by simp [string0, Cell.setSlot, hn4]
  have b3 : (freshCell P1.m.cls kX).slots.size = 6 := by simp [hn6]
  rw [b1, b2, b3] at X5
  have e9 : slots + (stringBytes (stringToUtf16 text)).size + 4 + 6 = slots + ((stringBytes (stringToUtf16 text)).size + 4 + 6) := by omega
  rw [e9] at X5
  simp only [List.append_assoc, List.cons_append, List.nil_append] at X5
  refine ⟨((withThrown W Zs text P1.m.cls kX).setVm vm').setCell (W.heap.size + 2) (plainBareV T.toThrowableT (freshCell P1.m.cls kX) (W.heap.size + 2) u0 sen (.ref (W.heap.size + 1))), W.heap.size + 2, _, fun target ht => st _ (by rw [X.tail, ← hU]; exact ht),
    X5.forget (fun y hy => ?_), heapAt_setCell_self _ ha, hfound, rfl⟩
  simp only [List.mem_cons, List.not_mem_nil, or_false] at hy
  have hge : s.heap.size ≤ W.heap.size := X.same.2.1
  rcases hy with rfl | rfl | rfl | rfl | rfl <;> exact Nat.le_trans hge (Nat.le_add_right _ 2)
set_option maxHeartbeats 1000000 in
/-- the machine throws NullPointerException, no traces kept: from its note over the frame g to 'throwing' over the same frame (follows the proof of Stand.vmThrowsNpe, Shelf42/KT2.lean; throwsNpeColdBareVAt, Shelf42/NT91.lean, called) -/
theorem vx_npeAt {p : Program} {l : Launch} {e : Env} {R : Room} {s : State} {m₀ : MethodId} {args : Array Value} {below : List Frame} {meth : Method} {c : Code} {W : State} {locs : List Loc} {cells slots : Nat}
    (X : Stand p l e R s m₀ args below meth c W locs cells slots) (hexec : p.tables.exec = Jvm.exec) (htr : e.platform.stackTraces = false) {n : Nat}
    (h : ∀ a ∈ Bundle.npeArmAtoms n, a.before args s = true)
    (hlocs : ∀ x ∈ locs, ∀ cell, s.heap[x.base]? = some cell → cell.vm.isStatics = false)
    {g : JFrame} (hg : g.method = m₀) (hsize : g.locals.size = c.maxLocals)
    (hRframes : 7 < R.frames) (hRlocals : 2 * g.monitorRoom + (g.stack.map fun v => v.category).sum + 10240 ≤ R.locals)
    (hRcells : cells + 1 ≤ R.cells) (hRslots : slots + n ≤ R.slots) (hlocks : meth.locks = false) :
    ∃ (S : State) (q : Addr) (ce : Cell), (∀ target, Steps p.tables e below ((S.setTop g).pushFrame (.throwing q)) target → Steps p.tables e below ((W.setTop g).pushFrame (.throwNew "java/lang/NullPointerException" none none)) target) ∧
      Stand p l e R s m₀ args below meth c S locs (cells + 1) (slots + n) ∧ S.heap[q]? = some ce ∧ s.vm.findClass "java/lang/NullPointerException" = some ce.cls ∧ ce.vm = .none := by
  have howns : e.platform.frameOwnsMonitors = true := by rw [X.admits.platform]
  have hfin : e.platform.finalization = false := by rw [X.admits.platform]
  have hpl : e.platform.magicAccessors = ({} : Platform).magicAccessors := by rw [X.admits.platform]
  have hpl2 : e.platform.arrayCloneIsPublic = true := by rw [X.admits.platform]
  have a' : ∀ x, x ∈ Bundle.npeArmAtoms n → x.holds args s none s [] = true := fun x hx => h x hx
  obtain ⟨T, Z, L, LZ, Y⟩ := ThrowableC.of_atoms (args := args) howns hfin hpl (fun x hx => h x (by simp [Bundle.npeArmAtoms, hx]))
  obtain ⟨N, LN, hcN, hnNF, hordN, hffS⟩ := NpeC.of_atoms (args := args) hpl hpl2 L Y (fun x hx => h x (by simp [Bundle.npeArmAtoms, hx]))
  obtain ⟨P1, L1, hP1m, hP1s⟩ := PassC.of_atoms (args := args) (s := s) hpl (X := Bundle.nN) (Y := Bundle.rN) (by decide) (by decide) LibCode.NullPointerException.Init0.at_0 LibCode.NullPointerException.Init0.at_1 LibCode.NullPointerException.Init0.at_4 (fun x hx => h x (by simp [Bundle.npeArmAtoms, hx]))
  obtain ⟨PR, LR, hPRm, hPRs⟩ := PassC.of_atoms (args := args) (s := s) hpl (X := Bundle.rN) (Y := Bundle.eN) (by decide) (by decide) LibCode.RuntimeException.Init0.at_0 LibCode.RuntimeException.Init0.at_1 LibCode.RuntimeException.Init0.at_4 (fun x hx => h x (by simp [Bundle.npeArmAtoms, hx]))
  obtain ⟨PE, LEx, hPEm, hPEs⟩ := PassC.of_atoms (args := args) (s := s) hpl (X := Bundle.eN) (Y := Bundle.tN) (by decide) (by decide) LibCode.Exception.Init0.at_0 LibCode.Exception.Init0.at_1 LibCode.Exception.Init0.at_4 (fun x hx => h x (by simp [Bundle.npeArmAtoms, hx]))
  have hfound : s.vm.findClass Bundle.nN = some P1.m.cls := findClass_of_methodNamed hP1m
  have ecls : N.cN = P1.m.cls := Option.some.inj (hcN.symm.trans hfound)
  have hk : s.vm.classes[P1.m.cls]? = some N.kN := by rw [← ecls]; exact LN.cls
  have hinit := Cond.initialized_spec hfound hk (a' (.initialized Bundle.nN) (by simp [Bundle.npeArmAtoms]))
  have hctor : N.kN.findMethod "<init>" "()V" = some P1.m.idx := findMethod_of_methodNamed hP1m hk
  obtain ⟨c1, k1, hc1, hk1, -, -, -, hn⟩ := Cond.instantiable_spec (a' (.instantiable Bundle.nN n) (by simp [Bundle.npeArmAtoms]))
  cases Option.some.inj (hc1.symm.trans hfound)
  cases Option.some.inj (hk1.symm.trans hk)
  have hfsz : (freshCell P1.m.cls N.kN).slots.size = n := by simp [hn]
  have hlink1 : P1.sup = PR.m := Option.some.inj (hP1s.symm.trans hPRm)
  have hlinkR : PR.sup = PE.m := Option.some.inj (hPRs.symm.trans hPEm)
  have hlinkE : PE.sup = Z.m T.toThrowableT := Option.some.inj (hPEs.symm.trans Y.init0)
  have hLs : ∀ P, P ∈ [PR, PE] → P.Links0 e.platform s := fun P hP => by
    simp only [List.mem_cons, List.not_mem_nil, or_false] at hP
    rcases hP with rfl | rfl
    · exact LR
    · exact LEx
  have hsel0 : selectMethod e.platform s.vm P1.m.cls T.fill0 = .method T.fill0 := by
    obtain ⟨c2, r2, m2, q1, q2, q3, q4, -⟩ := Cond.selects_spec (a' (.selects Bundle.nN Bundle.tFill0 Bundle.tFill0) (by simp [Bundle.npeArmAtoms]))
    cases Option.some.inj (q1.symm.trans hfound)
    cases Option.some.inj (q2.symm.trans (State.methodFound?_of_named Y.fill0 (by decide)))
    cases Option.some.inj (q3.symm.trans Y.fill0)
    rw [Launch.admits_selectMethod X.admits]; exact q4
  have hselF : selectMethod e.platform s.vm P1.m.cls T.fill = .method N.fill := by
    obtain ⟨c2, r2, m2, q1, q2, q3, q4, -⟩ := Cond.selects_spec (a' (.selects Bundle.nN Bundle.tFill Bundle.nFill) (by simp [Bundle.npeArmAtoms]))
    cases Option.some.inj (q1.symm.trans hfound)
    cases Option.some.inj (q2.symm.trans (State.methodFound?_of_named Y.fill (by decide)))
    cases Option.some.inj (q3.symm.trans hnNF)
    rw [Launch.admits_selectMethod X.admits]; exact q4
  obtain ⟨cellS0, hcS0, hiss⟩ := Y.statics
  obtain ⟨u0, hu0⟩ := Cond.staticRefV Y.unassigned L.unassignedStatic L.statics hcS0 hiss (a' (.isRef (.static Bundle.tN "UNASSIGNED_STACK" Bundle.steD)) (by simp [Bundle.npeArmAtoms]))
  obtain ⟨sen, hsen⟩ := Cond.staticRefV Y.sentinel L.sentinelStatic L.statics hcS0 hiss (a' (.isRef (.static Bundle.tN "SUPPRESSED_SENTINEL" Bundle.listD)) (by simp [Bundle.npeArmAtoms]))
  obtain ⟨ci198, i198, fB, hk198, hg198, ha198, hsB, -, hnB, htB, hffB⟩ := Cond.ownField (t := .object "java/lang/Object") Y.found L.cls (by decide +kernel) (a' (.fieldLink Bundle.tN 198 Bundle.tN "backtrace" Bundle.objD) (by simp [Bundle.npeArmAtoms])) (a' (.lays Bundle.tN Bundle.tN "backtrace" Bundle.objD) (by simp [Bundle.npeArmAtoms])) e.platform hpl
  obtain ⟨cellS, hcS', heS, -, hkeep⟩ := X.same.2.2.2.2.2 T.aS cellS0 hcS0
  have hcellS : W.heap[T.aS]? = some cellS := hcS'
  have hout' : ∀ i, (⟨T.aS, i⟩ : Loc) ∉ locs := fun i hmem => by
    have := hlocs _ hmem cellS0 hcS0
    rw [hiss] at this; cases this
  have hknownS : cellS.vm ≠ .unknown := by
    rw [heS]; intro hu
    rw [show cellS0.vm = .unknown from hu] at hiss
    cases hiss
  have hvU : cellS.slots[T.fUnassigned.slot]? = some u0.v := by rw [hkeep _ (hout' _)]; exact hu0
  have hvSen : cellS.slots[T.fSentinel.slot]? = some sen.v := by rw [hkeep _ (hout' _)]; exact hsen
  obtain ⟨tyC, dC, hdC, hdnC⟩ := Cond.laysAt hfound hk Y.cause (a' (.lays Bundle.nN Bundle.tN "cause" "Ljava/lang/Throwable;") (by simp [Bundle.npeArmAtoms]))
  obtain ⟨tyS, dS, hdS, hdnS⟩ := Cond.laysAt hfound hk Y.stack (a' (.lays Bundle.nN Bundle.tN "stackTrace" Bundle.steD) (by simp [Bundle.npeArmAtoms]))
  obtain ⟨tyP, dP, hdP, hdnP⟩ := Cond.laysAt hfound hk Y.supp (a' (.lays Bundle.nN Bundle.tN "suppressedExceptions" Bundle.listD) (by simp [Bundle.npeArmAtoms]))
  obtain ⟨tyX, dX, hdX, hdnX⟩ := Cond.laysAt hfound hk hffS (a' (.lays Bundle.nN Bundle.nN "extendedMessageState" "I") (by simp [Bundle.npeArmAtoms, Bundle.npeAtoms]))
  obtain ⟨hnX, htX⟩ := State.fieldFound?_type hffS (t := .int) (by decide +kernel)
  have xC := Cond.laysApart hdC hdX hdnC hdnX (by rw [hnX, Y.causeName]; decide)
  have xS := Cond.laysApart hdS hdX hdnS hdnX (by rw [hnX, Y.stackName]; decide)
  have xP := Cond.laysApart hdP hdX hdnP hdnX (by rw [hnX, Y.suppName]; decide)
  have hv0 : (freshCell P1.m.cls N.kN).slots[N.fState.slot]? = some (.int 0) := by
    have := fresh_default (c := P1.m.cls) tyX
    rw [htX] at this; exact this
  obtain ⟨tyB, dB, hdB, hdnB⟩ := Cond.laysAt hfound hk hffB (a' (.lays Bundle.nN Bundle.tN "backtrace" Bundle.objD) (by simp [Bundle.npeArmAtoms]))
  have bC := Cond.laysApart hdB hdC hdnB hdnC (by rw [hnB, Y.causeName]; decide)
  have bS := Cond.laysApart hdB hdS hdnB hdnS (by rw [hnB, Y.stackName]; decide)
  have bP := Cond.laysApart hdB hdP hdnB hdnP (by rw [hnB, Y.suppName]; decide)
  have bX := Cond.laysApart hdB hdX hdnB hdnX (by rw [hnB, hnX]; decide)
  have hbk : ((npeCell N.toNpeT (preparedCellV T.toThrowableT (freshCell P1.m.cls N.kN) W.heap.size u0 sen) W.cur).withEntry W.cur).slots[fB.slot]? = some .null := by
    have := fresh_default (c := P1.m.cls) tyB
    rw [htB] at this
    simpa [npeCell, preparedCellV, Cell.setSlot, Cell.withEntry, Array.getElem?_setIfInBounds, bC, bS, bP, bX, bC.symm, bS.symm, bP.symm, bX.symm, defaultValue] using this
  have tkC := Takes.of_laid (v := .ref W.heap.size) hk hordN tyC (by rw [Y.causeType]; rfl)
  have tkS := Takes.of_laid (v := u0.v) hk hordN tyS (by rw [Y.stackType]; exact fits_refV_array _ u0)
  have tkP := Takes.of_laid (v := sen.v) hk hordN tyP (by rw [Y.suppType]; exact fits_refV_object _ sen)
  have tkX := Takes.of_laid (v := .int 1) hk hordN tyX (by rw [htX]; rfl)
  have hskip : SkipFacts T e.platform s (fun u => u) u0 ((npeCell N.toNpeT (preparedCellV T.toThrowableT (freshCell P1.m.cls N.kN) W.heap.size u0 sen) W.cur).withEntry W.cur) := ⟨{ ci198 := ci198, i198 := i198, fBack := fB }, ⟨hk198, hg198, ha198, hsB⟩, hbk, fun _ _ => rfl⟩
  obtain ⟨vm', X3, st, -⟩ := X.throwsNpeColdBareVAt hexec hg hsize T L Z LZ N LN P1 L1 [PR, PE] hLs hlink1 ⟨hlinkR, hlinkE, trivial⟩ hfound hk hinit hordN hctor hsel0 hselF hcellS hknownS hvU hvSen
    hv0 xC xS xP tkC tkS tkP tkX Y.objLocals hskip (fun _ _ hA hW _ hroom _ hrest => L.nativeOff p htr hA hW hroom hrest) (by simpa using hRframes) hRlocals (by simp) hRcells (by rw [hn]; exact hRslots)
  have hlt : W.heap.size < ((W.pushCell (freshCell P1.m.cls N.kN)).setVm vm').heap.size := by
    show W.heap.size < (W.pushCell (freshCell P1.m.cls N.kN)).heap.size
    rw [State.heap_size_pushCell]; omega
  rw [hfsz] at X3
  obtain ⟨g₁, hfrM⟩ := X3.frames_eq
  have hU : ((((W.pushCell (freshCell P1.m.cls N.kN)).setVm vm').setCell W.heap.size (npeBareV T.toThrowableT N.toNpeT (freshCell P1.m.cls N.kN) W.heap.size u0 sen)).setTop g).pushFrame (.throwing W.heap.size) = (((W.pushCell (freshCell P1.m.cls N.kN)).setVm vm').setCell W.heap.size (npeBareV T.toThrowableT N.toNpeT (freshCell P1.m.cls N.kN) W.heap.size u0 sen)).setFrames (.throwing W.heap.size :: .java g :: below) := by
    rw [State.pushFrame, State.frames_setTop _ hfrM, State.setTop_of_frames _ hfrM, State.setFrames_setFrames]
  refine ⟨_, W.heap.size, _, fun target ht => st.trans (by rw [← hU]; exact ht), X3.forget (fun y hy => ?_), heapAt_setCell_self _ hlt, hfound, rfl⟩
  simp only [List.mem_cons, List.not_mem_nil, or_false] at hy
  have hge : s.heap.size ≤ W.heap.size := X.same.2.1
  rcases hy with rfl | rfl | rfl | rfl | rfl <;> exact hge
/-- the words of a machine's NullPointerException, but the four that speak of the heap -/
def vx_atN (n : Nat) : List Cond := (Bundle.npeArmAtoms n).filter vx_no
/-- the words of a machine's throw with a message, but the four that speak of the heap -/
def vx_atM (X : String) (names : List String) : List Cond := (Bundle.messageArmAtoms X names).filter vx_no
section
variable {p : Program} {l : Launch} {e : Env} {R : Room} {s : State} {m : MethodId} {args : Array Value} {below : List Frame} {meth : Method} {c : Code} {H : Heap} {locs : List Loc} {cells slots : Nat}
/-- a frame seen from a rebased start, seen from the first start again -/
theorem vx_back9 {T S : State} {R' : Room} {k n : Nat} (X : Stand p l e R s m args below meth c T locs cells slots) (Y : Stand p l e R' ((T.setVm s.vm).setFrames (.invoking m args :: below)) m args below meth c T [] 0 0) (Z : Stand p l e R' ((T.setVm s.vm).setFrames (.invoking m args :: below)) m args below meth c S [] k n) :
    Stand p l e R s m args below meth c S locs (cells + k) (slots + n) := by
  have hW0 : s.WarmedH ((T.setVm s.vm).setFrames (.invoking m args :: below)).vm := State.WarmedH.refl s
  refine { admits := X.admits, cas := X.cas, clock := X.clock, frames := X.frames, room := X.room, hears := X.hears, method := X.method, code := X.code, here := Z.here, tail := Z.tail, warmed := State.WarmedH.trans hW0 Z.warmed, limits := Z.limits.trans (Y.limits.symm.trans X.limits), bytes := Z.bytes.trans (Y.bytes.symm.trans X.bytes), same := ?_ }
  obtain ⟨e1, e2⟩ := Z.same
  rw [State.setFrames_setFrames] at e1
  have h2 : (T.setVm s.vm).sameButNew (S.setVm s.vm) [] k n := ⟨e1, e2⟩
  have h3 := X.same.trans h2
  rw [List.append_nil] at h3
  exact h3
/-- from the machine's note that E is thrown here with this text -/
def vx_Note (p : Program) (l : Launch) (e : Env) (R : Room) (s : State) (m : MethodId) (args : Array Value) (below : List Frame) (meth : Method) (c : Code) (H : Heap) (locs : List Loc) (cells slots : Nat) (Q : State → Prop) (g : JFrame) (E text : String) : Prop :=
  ∀ T : State, T.heap = H → Stand p l e R s m args below meth c T locs cells slots → ∃ t, Steps p.tables e below ((T.setTop g).pushFrame (.throwNew E (some text) none)) t ∧ Q t
theorem vx_vm {pc : Nat} {ls : Array Slot} {rest : List Value} {Q : State → Prop} (hexec : p.tables.exec = Jvm.exec) (hl : l.stackTraces = false) {cls text : String} {names : List String} {nb : Nat} {A : Nat → Prop}
    (hcls : Bundle.fit cls = true) (hnames : ∀ n ∈ names, Bundle.fit n = true) (hsoe : (cls == "java/lang/StackOverflowError") = false) (hoom : (cls == "java/lang/OutOfMemoryError") = false)
    (hat : ∀ w ∈ vx_atM cls names, w.before args s = true) (hgood : ∀ w ∈ vx_atM cls names, vx_ot w = true)
    (hU : vx_Zq Bundle.tN "UNASSIGNED_STACK" Bundle.steD A s s.heap) (hN : vx_Zq Bundle.tN "SUPPRESSED_SENTINEL" Bundle.listD A s s.heap) (hS : va_S A s.heap H locs) (hsize : ls.size = c.maxLocals)
    (htext : (text == notModelled) = false) (hnb : (stringBytes (stringToUtf16 text)).size ≤ nb) (hnb1 : nb ≤ 1000)
    (hRframes : names.length + 4 < R.frames) (hRlocals : (rest.map fun v => v.category).sum + 10240 ≤ R.locals) (hshort : 13 * names.length + 55 ≤ 10240) (hRcells : cells + 3 ≤ R.cells) (hRslots : slots + (nb + 10) ≤ R.slots) (hlocks : meth.locks = false)
    (k : ∀ (H1 : Heap) (q9 : Addr) (ce : Cell), H.size ≤ H1.size → (∀ q : Nat, q < H.size → H1[q]? = H[q]?) → va_S A s.heap H1 locs → H1[q9]? = some ce → ce.vm = .none → s.vm.findClass cls = some ce.cls → vx_W p l e R s m args below meth c H1 locs (cells + 3) (slots + (nb + 10)) Q (F0 m pc ls rest) q9) :
    vx_Note p l e R s m args below meth c H locs cells slots Q (F0 m pc ls rest) cls text := by
  intro T hT X
  have htr : e.platform.stackTraces = false := (show e.platform.stackTraces = l.stackTraces by rw [X.admits.platform]).trans hl
  have Y := vx_rebase X (R' := { frames := R.frames, locals := R.locals, cells := 3, slots := nb + 10 }) (Nat.le_refl _) (Nat.le_refl _) hRcells hRslots
  have hhp : ((T.setVm s.vm).setFrames (.invoking m args :: below)).heap = H := hT
  have hW0 : s.WarmedH ((T.setVm s.vm).setFrames (.invoking m args :: below)).vm := State.WarmedH.refl s
  have hat' : ∀ w ∈ vx_atM cls names, w.before args ((T.setVm s.vm).setFrames (.invoking m args :: below)) = true := fun w hw => vx_ot_at hW0 rfl (hgood w hw) (hat w hw)
  have hU' : vx_Zq Bundle.tN "UNASSIGNED_STACK" Bundle.steD A ((T.setVm s.vm).setFrames (.invoking m args :: below)) ((T.setVm s.vm).setFrames (.invoking m args :: below)).heap := by rw [hhp]; exact vx_Zq.moved hW0.alike (hU.kept hS.2.1)
  have hN' : vx_Zq Bundle.tN "SUPPRESSED_SENTINEL" Bundle.listD A ((T.setVm s.vm).setFrames (.invoking m args :: below)) ((T.setVm s.vm).setFrames (.invoking m args :: below)).heap := by rw [hhp]; exact vx_Zq.moved hW0.alike (hN.kept hS.2.1)
  obtain ⟨S, q, ce, st, Z, hce, hcl', hv⟩ := vx_vmAt Y hexec htr (cls := cls) (names := names) (text := text) hcls hnames hsoe hoom (vx_own hat' (vx_isRefq hU'.1) (vx_isRefq hN'.1) hU'.2.word hN'.2.word) (fun x hx => nomatch hx) htext
    (by rw [Launch.admits_arrayLengthLimit X.admits]; omega) (by rw [Launch.admits_maxHeapBytes X.admits]; simp only [componentBytes]; omega)
    (g := F0 m pc ls rest) rfl hsize hRframes (by show 2 * 0 + (rest.map fun v => v.category).sum + 10240 ≤ R.locals; omega) hshort (by show 0 + 3 ≤ 3; omega) (by show 0 + (_ + 4 + 6) ≤ nb + 10; omega) hlocks
  obtain ⟨f1, f2⟩ := vx_frame Z.same
  have f1' : H.size ≤ S.heap.size := by rw [← hT]; exact f1
  have f2' : ∀ q : Nat, q < H.size → S.heap[q]? = H[q]? := fun q hq => by
    rw [← hT]
    exact f2 q (by rw [← hT] at hq; exact hq) (fun z hz => nomatch hz)
  have X5 := vx_back9 X Y Z
  have X6 : Stand p l e R s m args below meth c S locs (cells + 3) (slots + (nb + 10)) := { X5 with same := X5.same.mono (by omega) (by omega) }
  obtain ⟨t, a1, b1⟩ := k S.heap q ce f1' f2' ⟨Nat.le_trans hS.1 f1', fun q h1 h2 => (f2' q (Nat.lt_of_lt_of_le h1 hS.1)).trans (hS.2.1 q h1 h2), hS.2.2⟩ hce hv hcl' S rfl X6
  exact ⟨t, st t a1, b1⟩
/-- from the machine's note that NullPointerException is thrown here -/
def vx_NoteN (p : Program) (l : Launch) (e : Env) (R : Room) (s : State) (m : MethodId) (args : Array Value) (below : List Frame) (meth : Method) (c : Code) (H : Heap) (locs : List Loc) (cells slots : Nat) (Q : State → Prop) (g : JFrame) : Prop :=
  ∀ T : State, T.heap = H → Stand p l e R s m args below meth c T locs cells slots → ∃ t, Steps p.tables e below ((T.setTop g).pushFrame (.throwNew "java/lang/NullPointerException" none none)) t ∧ Q t
theorem vx_npe {pc : Nat} {ls : Array Slot} {rest : List Value} {Q : State → Prop} (hexec : p.tables.exec = Jvm.exec) (hl : l.stackTraces = false) {nb : Nat} {A : Nat → Prop}
    (hat : ∀ w ∈ vx_atN nb, w.before args s = true) (hgood : ∀ w ∈ vx_atN nb, vx_ot w = true)
    (hU : vx_Zq Bundle.tN "UNASSIGNED_STACK" Bundle.steD A s s.heap) (hN : vx_Zq Bundle.tN "SUPPRESSED_SENTINEL" Bundle.listD A s s.heap) (hS : va_S A s.heap H locs) (hsize : ls.size = c.maxLocals)
    (hRframes : 7 < R.frames) (hRlocals : (rest.map fun v => v.category).sum + 10240 ≤ R.locals) (hRcells : cells + 1 ≤ R.cells) (hRslots : slots + nb ≤ R.slots) (hlocks : meth.locks = false)
    (k : ∀ (H1 : Heap) (q9 : Addr) (ce : Cell), H.size ≤ H1.size → (∀ q : Nat, q < H.size → H1[q]? = H[q]?) → va_S A s.heap H1 locs → H1[q9]? = some ce → ce.vm = .none → s.vm.findClass "java/lang/NullPointerException" = some ce.cls → vx_W p l e R s m args below meth c H1 locs (cells + 1) (slots + nb) Q (F0 m pc ls rest) q9) :
    vx_NoteN p l e R s m args below meth c H locs cells slots Q (F0 m pc ls rest) := by
  intro T hT X
  have htr : e.platform.stackTraces = false := (show e.platform.stackTraces = l.stackTraces by rw [X.admits.platform]).trans hl
  have Y := vx_rebase X (R' := { frames := R.frames, locals := R.locals, cells := 1, slots := nb }) (Nat.le_refl _) (Nat.le_refl _) hRcells hRslots
  have hhp : ((T.setVm s.vm).setFrames (.invoking m args :: below)).heap = H := hT
  have hW0 : s.WarmedH ((T.setVm s.vm).setFrames (.invoking m args :: below)).vm := State.WarmedH.refl s
  have hat' : ∀ w ∈ vx_atN nb, w.before args ((T.setVm s.vm).setFrames (.invoking m args :: below)) = true := fun w hw => vx_ot_at hW0 rfl (hgood w hw) (hat w hw)
  have hU' : vx_Zq Bundle.tN "UNASSIGNED_STACK" Bundle.steD A ((T.setVm s.vm).setFrames (.invoking m args :: below)) ((T.setVm s.vm).setFrames (.invoking m args :: below)).heap := by rw [hhp]; exact vx_Zq.moved hW0.alike (hU.kept hS.2.1)
  have hN' : vx_Zq Bundle.tN "SUPPRESSED_SENTINEL" Bundle.listD A ((T.setVm s.vm).setFrames (.invoking m args :: below)) ((T.setVm s.vm).setFrames (.invoking m args :: below)).heap := by rw [hhp]; exact vx_Zq.moved hW0.alike (hN.kept hS.2.1)
  obtain ⟨S, q, ce, st, Z, hce, hcl', hv⟩ := vx_npeAt Y hexec htr (n := nb) (vx_own hat' (vx_isRefq hU'.1) (vx_isRefq hN'.1) hU'.2.word hN'.2.word) (fun x hx => nomatch hx)
    (g := F0 m pc ls rest) rfl hsize hRframes (by show 2 * 0 + (rest.map fun v => v.category).sum + 10240 ≤ R.locals; omega) (by show 0 + 1 ≤ 1; omega) (by show 0 + nb ≤ nb; omega) hlocks
  obtain ⟨f1, f2⟩ := vx_frame Z.same
  have f1' : H.size ≤ S.heap.size := by rw [← hT]; exact f1
  have f2' : ∀ q : Nat, q < H.size → S.heap[q]? = H[q]? := fun q hq => by
    rw [← hT]
    exact f2 q (by rw [← hT] at hq; exact hq) (fun z hz => nomatch hz)
  have X5 := vx_back9 X Y Z
  have X6 : Stand p l e R s m args below meth c S locs (cells + 1) (slots + nb) := { X5 with same := X5.same.mono (by omega) (by omega) }
  obtain ⟨t, a1, b1⟩ := k S.heap q ce f1' f2' ⟨Nat.le_trans hS.1 f1', fun q h1 h2 => (f2' q (Nat.lt_of_lt_of_le h1 hS.1)).trans (hS.2.1 q h1 h2), hS.2.2⟩ hce hv hcl' S rfl X6
  exact ⟨t, st t a1, b1⟩
variable {Q : State → Prop} {cc : ByteArray} {pc : Nat} {ls : Array Slot} {rest : List Value}
theorem vx_idivZ (hexec : p.tables.exec = Jvm.exec) (hb : c.code = cc) {a b : Int32} (h0 : b = 0) (d : decode cc pc = .ok (.idiv, 1)) (k : vx_Note p l e R s m args below meth c H locs cells slots Q (F0 m pc ls rest) "java/lang/ArithmeticException" "/ by zero") :
    W p l e R s m args below meth c H locs cells slots Q (F0 m pc ls (.int b :: .int a :: rest)) := by
  intro T hT X
  obtain ⟨t, st, q⟩ := k T hT X
  exact ⟨t, X.idivZero hexec (g := F0 m pc ls (.int b :: .int a :: rest)) rfl (a := a) (rest := rest) (by rw [h0]) (by rw [hb]; exact d) t st, q⟩
theorem vx_iremZ (hexec : p.tables.exec = Jvm.exec) (hb : c.code = cc) {a b : Int32} (h0 : b = 0) (d : decode cc pc = .ok (.irem, 1)) (k : vx_Note p l e R s m args below meth c H locs cells slots Q (F0 m pc ls rest) "java/lang/ArithmeticException" "/ by zero") :
    W p l e R s m args below meth c H locs cells slots Q (F0 m pc ls (.int b :: .int a :: rest)) := by
  intro T hT X
  obtain ⟨t, st, q⟩ := k T hT X
  exact ⟨t, X.iremZero hexec (g := F0 m pc ls (.int b :: .int a :: rest)) rfl (a := a) (rest := rest) (by rw [h0]) (by rw [hb]; exact d) t st, q⟩
theorem vx_ldivZ (hexec : p.tables.exec = Jvm.exec) (hb : c.code = cc) {a b : Int64} (h0 : b = 0) (d : decode cc pc = .ok (.ldiv, 1)) (k : vx_Note p l e R s m args below meth c H locs cells slots Q (F0 m pc ls rest) "java/lang/ArithmeticException" "/ by zero") :
    W p l e R s m args below meth c H locs cells slots Q (F0 m pc ls (.long b :: .long a :: rest)) := by
  intro T hT X
  obtain ⟨t, st, q⟩ := k T hT X
  exact ⟨t, X.ldivZero hexec (g := F0 m pc ls (.long b :: .long a :: rest)) rfl (a := a) (rest := rest) (by rw [h0]) (by rw [hb]; exact d) t st, q⟩
theorem vx_lremZ (hexec : p.tables.exec = Jvm.exec) (hb : c.code = cc) {a b : Int64} (h0 : b = 0) (d : decode cc pc = .ok (.lrem, 1)) (k : vx_Note p l e R s m args below meth c H locs cells slots Q (F0 m pc ls rest) "java/lang/ArithmeticException" "/ by zero") :
    W p l e R s m args below meth c H locs cells slots Q (F0 m pc ls (.long b :: .long a :: rest)) := by
  intro T hT X
  obtain ⟨t, st, q⟩ := k T hT X
  exact ⟨t, X.lremZero hexec (g := F0 m pc ls (.long b :: .long a :: rest)) rfl (a := a) (rest := rest) (by rw [h0]) (by rw [hb]; exact d) t st, q⟩
theorem vx_ialdZ {D : va_G} {cl : List vw_C} {ws : va_W} {tys : List (ClassId × FieldType)} {a : Nat} (hexec : p.tables.exec = Jvm.exec) (hb : c.code = cc) (hK : va_K D cl tys s) (hP : va_P D cl ws H) (q0 t0 : Nat) {cA : ClassId} {n : Nat} {f : Nat → Int32} (ha : ws[q0]? = some (a, .inl (cA, n, .inl f))) (ht : tys[t0]? = some (cA, .int)) {i : Int32} (hout : ¬ vp_in i n) (hdg : decode cc pc = .ok (.iaload, 1))
    (k : ∀ tx : String, tx = (toString "Index " ++ toString i ++ toString " out of bounds for length " ++ toString n : String) → vx_Note p l e R s m args below meth c H locs cells slots Q (F0 m pc ls rest) "java/lang/ArrayIndexOutOfBoundsException" tx) : W p l e R s m args below meth c H locs cells slots Q (F0 m pc ls (.int i :: .ref a :: rest)) := by
  intro T hT X
  obtain ⟨t, st, q⟩ := k _ rfl T hT X
  refine ⟨t, ?_, q⟩
  have h1 := X.ialoadOut hexec (by rw [hT]; exact hP q0 _ ha) ((hK.2 t0 _ ht).1 n (fun j => .int (f j))) (j := i) (by show (i < 0 ∨ (arrV _ _ _).slots.size ≤ _); rw [arrV_size]; exact Classical.byContradiction hout) (g := F0 m pc ls (.int i :: .ref a :: rest)) rfl (rest := rest) rfl (by rw [hb]; exact hdg) t
  simp only [arrV_size] at h1
  exact h1 st
theorem vx_iastZ {D : va_G} {cl : List vw_C} {ws : va_W} {tys : List (ClassId × FieldType)} {a : Nat} (hexec : p.tables.exec = Jvm.exec) (hb : c.code = cc) (hK : va_K D cl tys s) (hP : va_P D cl ws H) (q0 t0 : Nat) {cA : ClassId} {n : Nat} {f : Nat → Int32} (ha : ws[q0]? = some (a, .inl (cA, n, .inl f))) (ht : tys[t0]? = some (cA, .int)) {i : Int32} {x : Int32} (hout : ¬ vp_in i n) (hdg : decode cc pc = .ok (.iastore, 1))
    (k : ∀ tx : String, tx = (toString "Index " ++ toString i ++ toString " out of bounds for length " ++ toString n : String) → vx_Note p l e R s m args below meth c H locs cells slots Q (F0 m pc ls rest) "java/lang/ArrayIndexOutOfBoundsException" tx) : W p l e R s m args below meth c H locs cells slots Q (F0 m pc ls (.int x :: .int i :: .ref a :: rest)) := by
  intro T hT X
  obtain ⟨t, st, q⟩ := k _ rfl T hT X
  refine ⟨t, ?_, q⟩
  have h1 := X.iastoreOut hexec (by rw [hT]; exact hP q0 _ ha) ((hK.2 t0 _ ht).1 n (fun j => .int (f j))) (j := i) (by show (i < 0 ∨ (arrV _ _ _).slots.size ≤ _); rw [arrV_size]; exact Classical.byContradiction hout) (g := F0 m pc ls (.int x :: .int i :: .ref a :: rest)) rfl (rest := rest) rfl (by rw [hb]; exact hdg) t
  simp only [arrV_size] at h1
  exact h1 st
theorem vx_baldZ {D : va_G} {cl : List vw_C} {ws : va_W} {tys : List (ClassId × FieldType)} {a : Nat} (hexec : p.tables.exec = Jvm.exec) (hb : c.code = cc) (hK : va_K D cl tys s) (hP : va_P D cl ws H) (q0 t0 : Nat) {cA : ClassId} {n : Nat} {f : Nat → Int32} (ha : ws[q0]? = some (a, .inl (cA, n, .inl f))) (ht : tys[t0]? = some (cA, .byte)) {i : Int32} (hout : ¬ vp_in i n) (hdg : decode cc pc = .ok (.baload, 1))
    (k : ∀ tx : String, tx = (toString "Index " ++ toString i ++ toString " out of bounds for length " ++ toString n : String) → vx_Note p l e R s m args below meth c H locs cells slots Q (F0 m pc ls rest) "java/lang/ArrayIndexOutOfBoundsException" tx) : W p l e R s m args below meth c H locs cells slots Q (F0 m pc ls (.int i :: .ref a :: rest)) := by
  intro T hT X
  obtain ⟨t, st, q⟩ := k _ rfl T hT X
  refine ⟨t, ?_, q⟩
  have h1 := X.baloadOut hexec (by rw [hT]; exact hP q0 _ ha) ((hK.2 t0 _ ht).1 n (fun j => .int (f j))) (j := i) (by show (i < 0 ∨ (arrV _ _ _).slots.size ≤ _); rw [arrV_size]; exact Classical.byContradiction hout) (g := F0 m pc ls (.int i :: .ref a :: rest)) rfl (rest := rest) rfl (by rw [hb]; exact hdg) t
  simp only [arrV_size] at h1
  exact h1 st
theorem vx_bastZ {D : va_G} {cl : List vw_C} {ws : va_W} {tys : List (ClassId × FieldType)} {a : Nat} (hexec : p.tables.exec = Jvm.exec) (hb : c.code = cc) (hK : va_K D cl tys s) (hP : va_P D cl ws H) (q0 t0 : Nat) {cA : ClassId} {n : Nat} {f : Nat → Int32} (ha : ws[q0]? = some (a, .inl (cA, n, .inl f))) (ht : tys[t0]? = some (cA, .byte)) {i : Int32} {x : Int32} (hout : ¬ vp_in i n) (hdg : decode cc pc = .ok (.bastore, 1))
    (k : ∀ tx : String, tx = (toString "Index " ++ toString i ++ toString " out of bounds for length " ++ toString n : String) → vx_Note p l e R s m args below meth c H locs cells slots Q (F0 m pc ls rest) "java/lang/ArrayIndexOutOfBoundsException" tx) : W p l e R s m args below meth c H locs cells slots Q (F0 m pc ls (.int x :: .int i :: .ref a :: rest)) := by
  intro T hT X
  obtain ⟨t, st, q⟩ := k _ rfl T hT X
  refine ⟨t, ?_, q⟩
  have h1 := X.bastoreOut hexec (by rw [hT]; exact hP q0 _ ha) ((hK.2 t0 _ ht).1 n (fun j => .int (f j))) (j := i) (by show (i < 0 ∨ (arrV _ _ _).slots.size ≤ _); rw [arrV_size]; exact Classical.byContradiction hout) (g := F0 m pc ls (.int x :: .int i :: .ref a :: rest)) rfl (rest := rest) rfl (by rw [hb]; exact hdg) t
  simp only [arrV_size] at h1
  exact h1 st
theorem vx_zaldZ {D : va_G} {cl : List vw_C} {ws : va_W} {tys : List (ClassId × FieldType)} {a : Nat} (hexec : p.tables.exec = Jvm.exec) (hb : c.code = cc) (hK : va_K D cl tys s) (hP : va_P D cl ws H) (q0 t0 : Nat) {cA : ClassId} {n : Nat} {f : Nat → Int32} (ha : ws[q0]? = some (a, .inl (cA, n, .inl f))) (ht : tys[t0]? = some (cA, .boolean)) {i : Int32} (hout : ¬ vp_in i n) (hdg : decode cc pc = .ok (.baload, 1))
    (k : ∀ tx : String, tx = (toString "Index " ++ toString i ++ toString " out of bounds for length " ++ toString n : String) → vx_Note p l e R s m args below meth c H locs cells slots Q (F0 m pc ls rest) "java/lang/ArrayIndexOutOfBoundsException" tx) : W p l e R s m args below meth c H locs cells slots Q (F0 m pc ls (.int i :: .ref a :: rest)) := by
  intro T hT X
  obtain ⟨t, st, q⟩ := k _ rfl T hT X
  refine ⟨t, ?_, q⟩
  have h1 := X.baloadOut hexec (by rw [hT]; exact hP q0 _ ha) ((hK.2 t0 _ ht).1 n (fun j => .int (f j))) (j := i) (by show (i < 0 ∨ (arrV _ _ _).slots.size ≤ _); rw [arrV_size]; exact Classical.byContradiction hout) (g := F0 m pc ls (.int i :: .ref a :: rest)) rfl (rest := rest) rfl (by rw [hb]; exact hdg) t
  simp only [arrV_size] at h1
  exact h1 st
theorem vx_zastZ {D : va_G} {cl : List vw_C} {ws : va_W} {tys : List (ClassId × FieldType)} {a : Nat} (hexec : p.tables.exec = Jvm.exec) (hb : c.code = cc) (hK : va_K D cl tys s) (hP : va_P D cl ws H) (q0 t0 : Nat) {cA : ClassId} {n : Nat} {f : Nat → Int32} (ha : ws[q0]? = some (a, .inl (cA, n, .inl f))) (ht : tys[t0]? = some (cA, .boolean)) {i : Int32} {x : Int32} (hout : ¬ vp_in i n) (hdg : decode cc pc = .ok (.bastore, 1))
    (k : ∀ tx : String, tx = (toString "Index " ++ toString i ++ toString " out of bounds for length " ++ toString n : String) → vx_Note p l e R s m args below meth c H locs cells slots Q (F0 m pc ls rest) "java/lang/ArrayIndexOutOfBoundsException" tx) : W p l e R s m args below meth c H locs cells slots Q (F0 m pc ls (.int x :: .int i :: .ref a :: rest)) := by
  intro T hT X
  obtain ⟨t, st, q⟩ := k _ rfl T hT X
  refine ⟨t, ?_, q⟩
  have h1 := X.bastoreOut hexec (by rw [hT]; exact hP q0 _ ha) ((hK.2 t0 _ ht).1 n (fun j => .int (f j))) (j := i) (by show (i < 0 ∨ (arrV _ _ _).slots.size ≤ _); rw [arrV_size]; exact Classical.byContradiction hout) (g := F0 m pc ls (.int x :: .int i :: .ref a :: rest)) rfl (rest := rest) rfl (by rw [hb]; exact hdg) t
  simp only [arrV_size] at h1
  exact h1 st
theorem vx_caldZ {D : va_G} {cl : List vw_C} {ws : va_W} {tys : List (ClassId × FieldType)} {a : Nat} (hexec : p.tables.exec = Jvm.exec) (hb : c.code = cc) (hK : va_K D cl tys s) (hP : va_P D cl ws H) (q0 t0 : Nat) {cA : ClassId} {n : Nat} {f : Nat → Int32} (ha : ws[q0]? = some (a, .inl (cA, n, .inl f))) (ht : tys[t0]? = some (cA, .char)) {i : Int32} (hout : ¬ vp_in i n) (hdg : decode cc pc = .ok (.caload, 1))
    (k : ∀ tx : String, tx = (toString "Index " ++ toString i ++ toString " out of bounds for length " ++ toString n : String) → vx_Note p l e R s m args below meth c H locs cells slots Q (F0 m pc ls rest) "java/lang/ArrayIndexOutOfBoundsException" tx) : W p l e R s m args below meth c H locs cells slots Q (F0 m pc ls (.int i :: .ref a :: rest)) := by
  intro T hT X
  obtain ⟨t, st, q⟩ := k _ rfl T hT X
  refine ⟨t, ?_, q⟩
  have h1 := X.caloadOut hexec (by rw [hT]; exact hP q0 _ ha) ((hK.2 t0 _ ht).1 n (fun j => .int (f j))) (j := i) (by show (i < 0 ∨ (arrV _ _ _).slots.size ≤ _); rw [arrV_size]; exact Classical.byContradiction hout) (g := F0 m pc ls (.int i :: .ref a :: rest)) rfl (rest := rest) rfl (by rw [hb]; exact hdg) t
  simp only [arrV_size] at h1
  exact h1 st
theorem vx_castZ {D : va_G} {cl : List vw_C} {ws : va_W} {tys : List (ClassId × FieldType)} {a : Nat} (hexec : p.tables.exec = Jvm.exec) (hb : c.code = cc) (hK : va_K D cl tys s) (hP : va_P D cl ws H) (q0 t0 : Nat) {cA : ClassId} {n : Nat} {f : Nat → Int32} (ha : ws[q0]? = some (a, .inl (cA, n, .inl f))) (ht : tys[t0]? = some (cA, .char)) {i : Int32} {x : Int32} (hout : ¬ vp_in i n) (hdg : decode cc pc = .ok (.castore, 1))
    (k : ∀ tx : String, tx = (toString "Index " ++ toString i ++ toString " out of bounds for length " ++ toString n : String) → vx_Note p l e R s m args below meth c H locs cells slots Q (F0 m pc ls rest) "java/lang/ArrayIndexOutOfBoundsException" tx) : W p l e R s m args below meth c H locs cells slots Q (F0 m pc ls (.int x :: .int i :: .ref a :: rest)) := by
  intro T hT X
  obtain ⟨t, st, q⟩ := k _ rfl T hT X
  refine ⟨t, ?_, q⟩
  have h1 := X.castoreOut hexec (by rw [hT]; exact hP q0 _ ha) ((hK.2 t0 _ ht).1 n (fun j => .int (f j))) (j := i) (by show (i < 0 ∨ (arrV _ _ _).slots.size ≤ _); rw [arrV_size]; exact Classical.byContradiction hout) (g := F0 m pc ls (.int x :: .int i :: .ref a :: rest)) rfl (rest := rest) rfl (by rw [hb]; exact hdg) t
  simp only [arrV_size] at h1
  exact h1 st
theorem vx_saldZ {D : va_G} {cl : List vw_C} {ws : va_W} {tys : List (ClassId × FieldType)} {a : Nat} (hexec : p.tables.exec = Jvm.exec) (hb : c.code = cc) (hK : va_K D cl tys s) (hP : va_P D cl ws H) (q0 t0 : Nat) {cA : ClassId} {n : Nat} {f : Nat → Int32} (ha : ws[q0]? = some (a, .inl (cA, n, .inl f))) (ht : tys[t0]? = some (cA, .short)) {i : Int32} (hout : ¬ vp_in i n) (hdg : decode cc pc = .ok (.saload, 1))
    (k : ∀ tx : String, tx = (toString "Index " ++ toString i ++ toString " out of bounds for length " ++ toString n : String) → vx_Note p l e R s m args below meth c H locs cells slots Q (F0 m pc ls rest) "java/lang/ArrayIndexOutOfBoundsException" tx) : W p l e R s m args below meth c H locs cells slots Q (F0 m pc ls (.int i :: .ref a :: rest)) := by
  intro T hT X
  obtain ⟨t, st, q⟩ := k _ rfl T hT X
  refine ⟨t, ?_, q⟩
  have h1 := X.saloadOut hexec (by rw [hT]; exact hP q0 _ ha) ((hK.2 t0 _ ht).1 n (fun j => .int (f j))) (j := i) (by show (i < 0 ∨ (arrV _ _ _).slots.size ≤ _); rw [arrV_size]; exact Classical.byContradiction hout) (g := F0 m pc ls (.int i :: .ref a :: rest)) rfl (rest := rest) rfl (by rw [hb]; exact hdg) t
  simp only [arrV_size] at h1
  exact h1 st
theorem vx_sastZ {D : va_G} {cl : List vw_C} {ws : va_W} {tys : List (ClassId × FieldType)} {a : Nat} (hexec : p.tables.exec = Jvm.exec) (hb : c.code = cc) (hK : va_K D cl tys s) (hP : va_P D cl ws H) (q0 t0 : Nat) {cA : ClassId} {n : Nat} {f : Nat → Int32} (ha : ws[q0]? = some (a, .inl (cA, n, .inl f))) (ht : tys[t0]? = some (cA, .short)) {i : Int32} {x : Int32} (hout : ¬ vp_in i n) (hdg : decode cc pc = .ok (.sastore, 1))
    (k : ∀ tx : String, tx = (toString "Index " ++ toString i ++ toString " out of bounds for length " ++ toString n : String) → vx_Note p l e R s m args below meth c H locs cells slots Q (F0 m pc ls rest) "java/lang/ArrayIndexOutOfBoundsException" tx) : W p l e R s m args below meth c H locs cells slots Q (F0 m pc ls (.int x :: .int i :: .ref a :: rest)) := by
  intro T hT X
  obtain ⟨t, st, q⟩ := k _ rfl T hT X
  refine ⟨t, ?_, q⟩
  have h1 := X.sastoreOut hexec (by rw [hT]; exact hP q0 _ ha) ((hK.2 t0 _ ht).1 n (fun j => .int (f j))) (j := i) (by show (i < 0 ∨ (arrV _ _ _).slots.size ≤ _); rw [arrV_size]; exact Classical.byContradiction hout) (g := F0 m pc ls (.int x :: .int i :: .ref a :: rest)) rfl (rest := rest) rfl (by rw [hb]; exact hdg) t
  simp only [arrV_size] at h1
  exact h1 st
theorem vx_laldZ {D : va_G} {cl : List vw_C} {ws : va_W} {tys : List (ClassId × FieldType)} {a : Nat} (hexec : p.tables.exec = Jvm.exec) (hb : c.code = cc) (hK : va_K D cl tys s) (hP : va_P D cl ws H) (q0 t0 : Nat) {cA : ClassId} {n : Nat} {f : Nat → Int64} (ha : ws[q0]? = some (a, .inl (cA, n, .inr (.inl f)))) (ht : tys[t0]? = some (cA, .long)) {i : Int32} (hout : ¬ vp_in i n) (hdg : decode cc pc = .ok (.laload, 1))
    (k : ∀ tx : String, tx = (toString "Index " ++ toString i ++ toString " out of bounds for length " ++ toString n : String) → vx_Note p l e R s m args below meth c H locs cells slots Q (F0 m pc ls rest) "java/lang/ArrayIndexOutOfBoundsException" tx) : W p l e R s m args below meth c H locs cells slots Q (F0 m pc ls (.int i :: .ref a :: rest)) := by
  intro T hT X
  obtain ⟨t, st, q⟩ := k _ rfl T hT X
  refine ⟨t, ?_, q⟩
  have h1 := X.laloadOut hexec (by rw [hT]; exact hP q0 _ ha) ((hK.2 t0 _ ht).1 n (fun j => .long (f j))) (j := i) (by show (i < 0 ∨ (arrV _ _ _).slots.size ≤ _); rw [arrV_size]; exact Classical.byContradiction hout) (g := F0 m pc ls (.int i :: .ref a :: rest)) rfl (rest := rest) rfl (by rw [hb]; exact hdg) t
  simp only [arrV_size] at h1
  exact h1 st
theorem vx_lastZ {D : va_G} {cl : List vw_C} {ws : va_W} {tys : List (ClassId × FieldType)} {a : Nat} (hexec : p.tables.exec = Jvm.exec) (hb : c.code = cc) (hK : va_K D cl tys s) (hP : va_P D cl ws H) (q0 t0 : Nat) {cA : ClassId} {n : Nat} {f : Nat → Int64} (ha : ws[q0]? = some (a, .inl (cA, n, .inr (.inl f)))) (ht : tys[t0]? = some (cA, .long)) {i : Int32} {x : Int64} (hout : ¬ vp_in i n) (hdg : decode cc pc = .ok (.lastore, 1))
    (k : ∀ tx : String, tx = (toString "Index " ++ toString i ++ toString " out of bounds for length " ++ toString n : String) → vx_Note p l e R s m args below meth c H locs cells slots Q (F0 m pc ls rest) "java/lang/ArrayIndexOutOfBoundsException" tx) : W p l e R s m args below meth c H locs cells slots Q (F0 m pc ls (.long x :: .int i :: .ref a :: rest)) := by
  intro T hT X
  obtain ⟨t, st, q⟩ := k _ rfl T hT X
  refine ⟨t, ?_, q⟩
  have h1 := X.lastoreOut hexec (by rw [hT]; exact hP q0 _ ha) ((hK.2 t0 _ ht).1 n (fun j => .long (f j))) (j := i) (by show (i < 0 ∨ (arrV _ _ _).slots.size ≤ _); rw [arrV_size]; exact Classical.byContradiction hout) (g := F0 m pc ls (.long x :: .int i :: .ref a :: rest)) rfl (rest := rest) rfl (by rw [hb]; exact hdg) t
  simp only [arrV_size] at h1
  exact h1 st
theorem vx_faldZ {D : va_G} {cl : List vw_C} {ws : va_W} {tys : List (ClassId × FieldType)} {a : Nat} (hexec : p.tables.exec = Jvm.exec) (hb : c.code = cc) (hK : va_K D cl tys s) (hP : va_P D cl ws H) (q0 t0 : Nat) {cA : ClassId} {n : Nat} {f : Nat → UInt32} (ha : ws[q0]? = some (a, .inl (cA, n, .inr (.inr (.inl f))))) (ht : tys[t0]? = some (cA, .float)) {i : Int32} (hout : ¬ vp_in i n) (hdg : decode cc pc = .ok (.faload, 1))
    (k : ∀ tx : String, tx = (toString "Index " ++ toString i ++ toString " out of bounds for length " ++ toString n : String) → vx_Note p l e R s m args below meth c H locs cells slots Q (F0 m pc ls rest) "java/lang/ArrayIndexOutOfBoundsException" tx) : W p l e R s m args below meth c H locs cells slots Q (F0 m pc ls (.int i :: .ref a :: rest)) := by
  intro T hT X
  obtain ⟨t, st, q⟩ := k _ rfl T hT X
  refine ⟨t, ?_, q⟩
  have h1 := X.faloadOut hexec (by rw [hT]; exact hP q0 _ ha) ((hK.2 t0 _ ht).1 n (fun j => .float (f j))) (j := i) (by show (i < 0 ∨ (arrV _ _ _).slots.size ≤ _); rw [arrV_size]; exact Classical.byContradiction hout) (g := F0 m pc ls (.int i :: .ref a :: rest)) rfl (rest := rest) rfl (by rw [hb]; exact hdg) t
  simp only [arrV_size] at h1
  exact h1 st
theorem vx_fastZ {D : va_G} {cl : List vw_C} {ws : va_W} {tys : List (ClassId × FieldType)} {a : Nat} (hexec : p.tables.exec = Jvm.exec) (hb : c.code = cc) (hK : va_K D cl tys s) (hP : va_P D cl ws H) (q0 t0 : Nat) {cA : ClassId} {n : Nat} {f : Nat → UInt32} (ha : ws[q0]? = some (a, .inl (cA, n, .inr (.inr (.inl f))))) (ht : tys[t0]? = some (cA, .float)) {i : Int32} {x : UInt32} (hout : ¬ vp_in i n) (hdg : decode cc pc = .ok (.fastore, 1))
    (k : ∀ tx : String, tx = (toString "Index " ++ toString i ++ toString " out of bounds for length " ++ toString n : String) → vx_Note p l e R s m args below meth c H locs cells slots Q (F0 m pc ls rest) "java/lang/ArrayIndexOutOfBoundsException" tx) : W p l e R s m args below meth c H locs cells slots Q (F0 m pc ls (.float x :: .int i :: .ref a :: rest)) := by
  intro T hT X
  obtain ⟨t, st, q⟩ := k _ rfl T hT X
  refine ⟨t, ?_, q⟩
  have h1 := X.fastoreOut hexec (by rw [hT]; exact hP q0 _ ha) ((hK.2 t0 _ ht).1 n (fun j => .float (f j))) (j := i) (by show (i < 0 ∨ (arrV _ _ _).slots.size ≤ _); rw [arrV_size]; exact Classical.byContradiction hout) (g := F0 m pc ls (.float x :: .int i :: .ref a :: rest)) rfl (rest := rest) rfl (by rw [hb]; exact hdg) t
  simp only [arrV_size] at h1
  exact h1 st
theorem vx_daldZ {D : va_G} {cl : List vw_C} {ws : va_W} {tys : List (ClassId × FieldType)} {a : Nat} (hexec : p.tables.exec = Jvm.exec) (hb : c.code = cc) (hK : va_K D cl tys s) (hP : va_P D cl ws H) (q0 t0 : Nat) {cA : ClassId} {n : Nat} {f : Nat → UInt64} (ha : ws[q0]? = some (a, .inl (cA, n, .inr (.inr (.inr (.inl f)))))) (ht : tys[t0]? = some (cA, .double)) {i : Int32} (hout : ¬ vp_in i n) (hdg : decode cc pc = .ok (.daload, 1))
    (k : ∀ tx : String, tx = (toString "Index " ++ toString i ++ toString " out of bounds for length " ++ toString n : String) → vx_Note p l e R s m args below meth c H locs cells slots Q (F0 m pc ls rest) "java/lang/ArrayIndexOutOfBoundsException" tx) : W p l e R s m args below meth c H locs cells slots Q (F0 m pc ls (.int i :: .ref a :: rest)) := by
  intro T hT X
  obtain ⟨t, st, q⟩ := k _ rfl T hT X
  refine ⟨t, ?_, q⟩
  have h1 := X.daloadOut hexec (by rw [hT]; exact hP q0 _ ha) ((hK.2 t0 _ ht).1 n (fun j => .double (f j))) (j := i) (by show (i < 0 ∨ (arrV _ _ _).slots.size ≤ _); rw [arrV_size]; exact Classical.byContradiction hout) (g := F0 m pc ls (.int i :: .ref a :: rest)) rfl (rest := rest) rfl (by rw [hb]; exact hdg) t
  simp only [arrV_size] at h1
  exact h1 st
theorem vx_dastZ {D : va_G} {cl : List vw_C} {ws : va_W} {tys : List (ClassId × FieldType)} {a : Nat} (hexec : p.tables.exec = Jvm.exec) (hb : c.code = cc) (hK : va_K D cl tys s) (hP : va_P D cl ws H) (q0 t0 : Nat) {cA : ClassId} {n : Nat} {f : Nat → UInt64} (ha : ws[q0]? = some (a, .inl (cA, n, .inr (.inr (.inr (.inl f)))))) (ht : tys[t0]? = some (cA, .double)) {i : Int32} {x : UInt64} (hout : ¬ vp_in i n) (hdg : decode cc pc = .ok (.dastore, 1))
    (k : ∀ tx : String, tx = (toString "Index " ++ toString i ++ toString " out of bounds for length " ++ toString n : String) → vx_Note p l e R s m args below meth c H locs cells slots Q (F0 m pc ls rest) "java/lang/ArrayIndexOutOfBoundsException" tx) : W p l e R s m args below meth c H locs cells slots Q (F0 m pc ls (.double x :: .int i :: .ref a :: rest)) := by
  intro T hT X
  obtain ⟨t, st, q⟩ := k _ rfl T hT X
  refine ⟨t, ?_, q⟩
  have h1 := X.dastoreOut hexec (by rw [hT]; exact hP q0 _ ha) ((hK.2 t0 _ ht).1 n (fun j => .double (f j))) (j := i) (by show (i < 0 ∨ (arrV _ _ _).slots.size ≤ _); rw [arrV_size]; exact Classical.byContradiction hout) (g := F0 m pc ls (.double x :: .int i :: .ref a :: rest)) rfl (rest := rest) rfl (by rw [hb]; exact hdg) t
  simp only [arrV_size] at h1
  exact h1 st
theorem vx_arraylengthN (hexec : p.tables.exec = Jvm.exec) (hb : c.code = cc) (hdg : decode cc pc = .ok (.arraylength, 1)) (k : vx_NoteN p l e R s m args below meth c H locs cells slots Q (F0 m pc ls rest)) : W p l e R s m args below meth c H locs cells slots Q (F0 m pc ls (.null :: rest)) := by
  intro T hT X
  obtain ⟨t, st, q⟩ := k T hT X
  exact ⟨t, X.arraylengthNull hexec (g := F0 m pc ls (.null :: rest)) rfl (rest := rest) rfl (by rw [hb]; exact hdg) t st, q⟩
theorem vx_ialoadN (hexec : p.tables.exec = Jvm.exec) (hb : c.code = cc) {i : Int32} (hdg : decode cc pc = .ok (.iaload, 1)) (k : vx_NoteN p l e R s m args below meth c H locs cells slots Q (F0 m pc ls rest)) : W p l e R s m args below meth c H locs cells slots Q (F0 m pc ls (.int i :: .null :: rest)) := by
  intro T hT X
  obtain ⟨t, st, q⟩ := k T hT X
  exact ⟨t, X.ialoadNull hexec (g := F0 m pc ls (.int i :: .null :: rest)) rfl (rest := rest) rfl (by rw [hb]; exact hdg) t st, q⟩
theorem vx_laloadN (hexec : p.tables.exec = Jvm.exec) (hb : c.code = cc) {i : Int32} (hdg : decode cc pc = .ok (.laload, 1)) (k : vx_NoteN p l e R s m args below meth c H locs cells slots Q (F0 m pc ls rest)) : W p l e R s m args below meth c H locs cells slots Q (F0 m pc ls (.int i :: .null :: rest)) := by
  intro T hT X
  obtain ⟨t, st, q⟩ := k T hT X
  exact ⟨t, X.laloadNull hexec (g := F0 m pc ls (.int i :: .null :: rest)) rfl (rest := rest) rfl (by rw [hb]; exact hdg) t st, q⟩
theorem vx_faloadN (hexec : p.tables.exec = Jvm.exec) (hb : c.code = cc) {i : Int32} (hdg : decode cc pc = .ok (.faload, 1)) (k : vx_NoteN p l e R s m args below meth c H locs cells slots Q (F0 m pc ls rest)) : W p l e R s m args below meth c H locs cells slots Q (F0 m pc ls (.int i :: .null :: rest)) := by
  intro T hT X
  obtain ⟨t, st, q⟩ := k T hT X
  exact ⟨t, X.faloadNull hexec (g := F0 m pc ls (.int i :: .null :: rest)) rfl (rest := rest) rfl (by rw [hb]; exact hdg) t st, q⟩
theorem vx_daloadN (hexec : p.tables.exec = Jvm.exec) (hb : c.code = cc) {i : Int32} (hdg : decode cc pc = .ok (.daload, 1)) (k : vx_NoteN p l e R s m args below meth c H locs cells slots Q (F0 m pc ls rest)) : W p l e R s m args below meth c H locs cells slots Q (F0 m pc ls (.int i :: .null :: rest)) := by
  intro T hT X
  obtain ⟨t, st, q⟩ := k T hT X
  exact ⟨t, X.daloadNull hexec (g := F0 m pc ls (.int i :: .null :: rest)) rfl (rest := rest) rfl (by rw [hb]; exact hdg) t st, q⟩
theorem vx_aaloadN (hexec : p.tables.exec = Jvm.exec) (hb : c.code = cc) {i : Int32} (hdg : decode cc pc = .ok (.aaload, 1)) (k : vx_NoteN p l e R s m args below meth c H locs cells slots Q (F0 m pc ls rest)) : W p l e R s m args below meth c H locs cells slots Q (F0 m pc ls (.int i :: .null :: rest)) := by
  intro T hT X
  obtain ⟨t, st, q⟩ := k T hT X
  exact ⟨t, X.aaloadNull hexec (g := F0 m pc ls (.int i :: .null :: rest)) rfl (rest := rest) rfl (by rw [hb]; exact hdg) t st, q⟩
theorem vx_baloadN (hexec : p.tables.exec = Jvm.exec) (hb : c.code = cc) {i : Int32} (hdg : decode cc pc = .ok (.baload, 1)) (k : vx_NoteN p l e R s m args below meth c H locs cells slots Q (F0 m pc ls rest)) : W p l e R s m args below meth c H locs cells slots Q (F0 m pc ls (.int i :: .null :: rest)) := by
  intro T hT X
  obtain ⟨t, st, q⟩ := k T hT X
  exact ⟨t, X.baloadNull hexec (g := F0 m pc ls (.int i :: .null :: rest)) rfl (rest := rest) rfl (by rw [hb]; exact hdg) t st, q⟩
theorem vx_caloadN (hexec : p.tables.exec = Jvm.exec) (hb : c.code = cc) {i : Int32} (hdg : decode cc pc = .ok (.caload, 1)) (k : vx_NoteN p l e R s m args below meth c H locs cells slots Q (F0 m pc ls rest)) : W p l e R s m args below meth c H locs cells slots Q (F0 m pc ls (.int i :: .null :: rest)) := by
  intro T hT X
  obtain ⟨t, st, q⟩ := k T hT X
  exact ⟨t, X.caloadNull hexec (g := F0 m pc ls (.int i :: .null :: rest)) rfl (rest := rest) rfl (by rw [hb]; exact hdg) t st, q⟩
theorem vx_saloadN (hexec : p.tables.exec = Jvm.exec) (hb : c.code = cc) {i : Int32} (hdg : decode cc pc = .ok (.saload, 1)) (k : vx_NoteN p l e R s m args below meth c H locs cells slots Q (F0 m pc ls rest)) : W p l e R s m args below meth c H locs cells slots Q (F0 m pc ls (.int i :: .null :: rest)) := by
  intro T hT X
  obtain ⟨t, st, q⟩ := k T hT X
  exact ⟨t, X.saloadNull hexec (g := F0 m pc ls (.int i :: .null :: rest)) rfl (rest := rest) rfl (by rw [hb]; exact hdg) t st, q⟩
theorem vx_iastoreN (hexec : p.tables.exec = Jvm.exec) (hb : c.code = cc) {x : Int32} {i : Int32} (hdg : decode cc pc = .ok (.iastore, 1)) (k : vx_NoteN p l e R s m args below meth c H locs cells slots Q (F0 m pc ls rest)) : W p l e R s m args below meth c H locs cells slots Q (F0 m pc ls (.int x :: .int i :: .null :: rest)) := by
  intro T hT X
  obtain ⟨t, st, q⟩ := k T hT X
  exact ⟨t, X.iastoreNull hexec (g := F0 m pc ls (.int x :: .int i :: .null :: rest)) rfl (rest := rest) rfl (by rw [hb]; exact hdg) t st, q⟩
theorem vx_lastoreN (hexec : p.tables.exec = Jvm.exec) (hb : c.code = cc) {x : Int64} {i : Int32} (hdg : decode cc pc = .ok (.lastore, 1)) (k : vx_NoteN p l e R s m args below meth c H locs cells slots Q (F0 m pc ls rest)) : W p l e R s m args below meth c H locs cells slots Q (F0 m pc ls (.long x :: .int i :: .null :: rest)) := by
  intro T hT X
  obtain ⟨t, st, q⟩ := k T hT X
  exact ⟨t, X.lastoreNull hexec (g := F0 m pc ls (.long x :: .int i :: .null :: rest)) rfl (rest := rest) rfl (by rw [hb]; exact hdg) t st, q⟩
theorem vx_fastoreN (hexec : p.tables.exec = Jvm.exec) (hb : c.code = cc) {x : UInt32} {i : Int32} (hdg : decode cc pc = .ok (.fastore, 1)) (k : vx_NoteN p l e R s m args below meth c H locs cells slots Q (F0 m pc ls rest)) : W p l e R s m args below meth c H locs cells slots Q (F0 m pc ls (.float x :: .int i :: .null :: rest)) := by
  intro T hT X
  obtain ⟨t, st, q⟩ := k T hT X
  exact ⟨t, X.fastoreNull hexec (g := F0 m pc ls (.float x :: .int i :: .null :: rest)) rfl (rest := rest) rfl (by rw [hb]; exact hdg) t st, q⟩
theorem vx_dastoreN (hexec : p.tables.exec = Jvm.exec) (hb : c.code = cc) {x : UInt64} {i : Int32} (hdg : decode cc pc = .ok (.dastore, 1)) (k : vx_NoteN p l e R s m args below meth c H locs cells slots Q (F0 m pc ls rest)) : W p l e R s m args below meth c H locs cells slots Q (F0 m pc ls (.double x :: .int i :: .null :: rest)) := by
  intro T hT X
  obtain ⟨t, st, q⟩ := k T hT X
  exact ⟨t, X.dastoreNull hexec (g := F0 m pc ls (.double x :: .int i :: .null :: rest)) rfl (rest := rest) rfl (by rw [hb]; exact hdg) t st, q⟩
theorem vx_bastoreN (hexec : p.tables.exec = Jvm.exec) (hb : c.code = cc) {x : Int32} {i : Int32} (hdg : decode cc pc = .ok (.bastore, 1)) (k : vx_NoteN p l e R s m args below meth c H locs cells slots Q (F0 m pc ls rest)) : W p l e R s m args below meth c H locs cells slots Q (F0 m pc ls (.int x :: .int i :: .null :: rest)) := by
  intro T hT X
  obtain ⟨t, st, q⟩ := k T hT X
  exact ⟨t, X.bastoreNull hexec (g := F0 m pc ls (.int x :: .int i :: .null :: rest)) rfl (rest := rest) rfl (by rw [hb]; exact hdg) t st, q⟩
theorem vx_castoreN (hexec : p.tables.exec = Jvm.exec) (hb : c.code = cc) {x : Int32} {i : Int32} (hdg : decode cc pc = .ok (.castore, 1)) (k : vx_NoteN p l e R s m args below meth c H locs cells slots Q (F0 m pc ls rest)) : W p l e R s m args below meth c H locs cells slots Q (F0 m pc ls (.int x :: .int i :: .null :: rest)) := by
  intro T hT X
  obtain ⟨t, st, q⟩ := k T hT X
  exact ⟨t, X.castoreNull hexec (g := F0 m pc ls (.int x :: .int i :: .null :: rest)) rfl (rest := rest) rfl (by rw [hb]; exact hdg) t st, q⟩
theorem vx_sastoreN (hexec : p.tables.exec = Jvm.exec) (hb : c.code = cc) {x : Int32} {i : Int32} (hdg : decode cc pc = .ok (.sastore, 1)) (k : vx_NoteN p l e R s m args below meth c H locs cells slots Q (F0 m pc ls rest)) : W p l e R s m args below meth c H locs cells slots Q (F0 m pc ls (.int x :: .int i :: .null :: rest)) := by
  intro T hT X
  obtain ⟨t, st, q⟩ := k T hT X
  exact ⟨t, X.sastoreNull hexec (g := F0 m pc ls (.int x :: .int i :: .null :: rest)) rfl (rest := rest) rfl (by rw [hb]; exact hdg) t st, q⟩
theorem vx_invokeN {own C : String} {index maxL : Nat} {y : MethodName} {bytes : ByteArray} {ret : Option FieldType} (hexec : p.tables.exec = Jvm.exec) (hb : c.code = cc) (hown : s.vm.findClass own = some m.cls) (hlink : (Cond.methodLink own index y).before args s = true) (hinst : (Cond.instanceMethod y).before args s = true) (hcode : (Cond.code y bytes maxL ret).before args s = true) (hsel : (Cond.selects C y y).before args s = true)
    (hx : y.cls ≠ "java/lang/invoke/MethodHandle" ∧ y.cls ≠ "java/lang/invoke/VarHandle") {As : List Value} (hlen : (parseMethodDescriptor y.desc).map (fun d => d.parameters.length) = some As.length) (hdg : decode cc pc = .ok (.invokevirtual index, 3))
    (k : vx_NoteN p l e R s m args below meth c H locs cells slots Q (F0 m pc ls rest)) {st0 : List Value} (hst : st0 = As.reverse ++ .null :: rest) : W p l e R s m args below meth c H locs cells slots Q (F0 m pc ls st0) := by
  intro T hT X
  obtain ⟨r0, r, hn, hrm, hstR, hsigR⟩ := va_Decl.of hinst hcode
  obtain ⟨c2, r2, m2, q1, q2, q3, q4, kP, hkP, hkPi⟩ := Cond.selects_spec hsel
  cases hn.symm.trans q3
  have hl9 : As.length = r.sig.parameters.length := by
    rw [hsigR] at hlen
    exact (Option.some.inj hlen).symm
  obtain ⟨vm', X1, st1⟩ := X.invokevirtualNull hexec hown hlink hn hrm hstR hkP hkPi hx (g := F0 m pc ls st0) rfl (argsL := As) (rest := rest) hl9 hst (by rw [hb]; exact hdg)
  obtain ⟨t, st, q⟩ := k (T.setVm vm') hT X1
  exact ⟨t, st1 t st, q⟩
theorem vx_newarrayZ {atype : ArrayType} (hexec : p.tables.exec = Jvm.exec) (hb : c.code = cc) {n : Int32} (h0 : n < 0) (hdg : decode cc pc = .ok (.newarray atype, 2)) (k : ∀ tx : String, tx = toString n → vx_Note p l e R s m args below meth c H locs cells slots Q (F0 m pc ls rest) "java/lang/NegativeArraySizeException" tx) : W p l e R s m args below meth c H locs cells slots Q (F0 m pc ls (.int n :: rest)) := by
  intro T hT X
  obtain ⟨t, st, q⟩ := k _ rfl T hT X
  exact ⟨t, X.newarrayNegative hexec (g := F0 m pc ls (.int n :: rest)) rfl h0 (rest := rest) rfl (by rw [hb]; exact hdg) t st, q⟩
end
end VXM
/-! ===== END ===== -/
end
section
def RX0 : String := "ForecastLab$Line"
def TX0 : u_T := fun k => match k with
  | 0 => ("ForecastLab$Line", "signs", "[C", true)
  | _ => ("ForecastLab$Line", "length", "I", false)
def tyX0 : Nat → FieldType := fun k => match k with
  | 0 => .array .char
  | _ => .int
abbrev wsX00 : List Cond := u_ws RX0 TX0 2
theorem nmX0 : ∀ a, a < 2 → ∀ b, b < 2 → a ≠ b → (TX0 a).2.1 ≠ (TX0 b).2.1 := by decide +kernel
theorem tyX0_ok : ∀ k, k < 2 → parseFieldDescriptor (TX0 k).2.2.1 = some (tyX0 k) := by decide +kernel
abbrev cX0_init : ByteArray := prog_2_method_1_code
def yX0_init : MethodName := ⟨RX0, "<init>", "()V"⟩
abbrev cX0_clear : ByteArray := prog_2_method_2_code
def yX0_clear : MethodName := ⟨RX0, "clear", "()V"⟩
abbrev cX0_put : ByteArray := prog_2_method_3_code
def yX0_put : MethodName := ⟨RX0, "put", "(C)V"⟩
abbrev cX0_putNumber : ByteArray := prog_2_method_4_code
def yX0_putNumber : MethodName := ⟨RX0, "putNumber", "(I)V"⟩
abbrev cX0_digitOf : ByteArray := prog_2_method_5_code
def yX0_digitOf : MethodName := ⟨RX0, "digitOf", "(I)C"⟩
def RX1 : String := "ForecastLab$Past"
def TX1 : u_T := fun k => match k with
  | 0 => ("ForecastLab$Past", "states", "[LForecastLab$State;", true)
  | 1 => ("ForecastLab$Past", "next", "I", false)
  | _ => ("ForecastLab$Past", "count", "I", false)
def tyX1 : Nat → FieldType := fun k => match k with
  | 0 => .array (.object "ForecastLab$State")
  | 1 => .int
  | _ => .int
abbrev wsX10 : List Cond := u_ws RX1 TX1 3
theorem nmX1 : ∀ a, a < 3 → ∀ b, b < 3 → a ≠ b → (TX1 a).2.1 ≠ (TX1 b).2.1 := by decide +kernel
theorem tyX1_ok : ∀ k, k < 3 → parseFieldDescriptor (TX1 k).2.2.1 = some (tyX1 k) := by decide +kernel
abbrev cX1_init : ByteArray := prog_3_method_1_code
def yX1_init : MethodName := ⟨RX1, "<init>", "()V"⟩
abbrev cX1_write : ByteArray := prog_3_method_2_code
def yX1_write : MethodName := ⟨RX1, "write", "(LForecastLab$State;)V"⟩
abbrev cX1_read : ByteArray := prog_3_method_3_code
def yX1_read : MethodName := ⟨RX1, "read", "(LForecastLab$State;)V"⟩
abbrev cX1_advance : ByteArray := prog_3_method_4_code
def yX1_advance : MethodName := ⟨RX1, "advance", "()V"⟩
abbrev cX1_stepBack : ByteArray := prog_3_method_5_code
def yX1_stepBack : MethodName := ⟨RX1, "stepBack", "()V"⟩
def RX2 : String := "ForecastLab$Program"
def TX2 : u_T := fun k => match k with
  | 0 => ("ForecastLab$Program", "text", "[C", true)
  | 1 => ("ForecastLab$Program", "length", "I", false)
  | 2 => ("ForecastLab$Program", "position", "I", false)
  | 3 => ("ForecastLab$Program", "commands", "I", false)
  | 4 => ("ForecastLab$Program", "verbs", "[C", true)
  | 5 => ("ForecastLab$Program", "firsts", "[I", true)
  | 6 => ("ForecastLab$Program", "seconds", "[I", true)
  | 7 => ("ForecastLab$Program", "owners", "[I", true)
  | _ => ("ForecastLab$Program", "steps", "I", false)
def tyX2 : Nat → FieldType := fun k => match k with
  | 0 => .array .char
  | 1 => .int
  | 2 => .int
  | 3 => .int
  | 4 => .array .char
  | 5 => .array .int
  | 6 => .array .int
  | 7 => .array .int
  | _ => .int
abbrev wsX20 : List Cond := u_ws RX2 TX2 9
theorem nmX2 : ∀ a, a < 9 → ∀ b, b < 9 → a ≠ b → (TX2 a).2.1 ≠ (TX2 b).2.1 := by decide +kernel
theorem tyX2_ok : ∀ k, k < 9 → parseFieldDescriptor (TX2 k).2.2.1 = some (tyX2 k) := by decide +kernel
abbrev cX2_init : ByteArray := prog_4_method_1_code
def yX2_init : MethodName := ⟨RX2, "<init>", "()V"⟩
abbrev cX2_append : ByteArray := prog_4_method_2_code
def yX2_append : MethodName := ⟨RX2, "append", "(C)I"⟩
abbrev cX2_parse : ByteArray := prog_4_method_3_code
def yX2_parse : MethodName := ⟨RX2, "parse", "()Z"⟩
abbrev cX2_parseCommand : ByteArray := prog_4_method_4_code
def yX2_parseCommand : MethodName := ⟨RX2, "parseCommand", "()Z"⟩
abbrev cX2_parseProphet : ByteArray := prog_4_method_5_code
def yX2_parseProphet : MethodName := ⟨RX2, "parseProphet", "()Z"⟩
abbrev cX2_parseSee : ByteArray := prog_4_method_6_code
def yX2_parseSee : MethodName := ⟨RX2, "parseSee", "()Z"⟩
abbrev cX2_parseDigit : ByteArray := prog_4_method_7_code
def yX2_parseDigit : MethodName := ⟨RX2, "parseDigit", "(C)Z"⟩
abbrev cX2_readNumber : ByteArray := prog_4_method_8_code
def yX2_readNumber : MethodName := ⟨RX2, "readNumber", "()I"⟩
abbrev cX2_readDigit : ByteArray := prog_4_method_9_code
def yX2_readDigit : MethodName := ⟨RX2, "readDigit", "()I"⟩
abbrev cX2_addStep : ByteArray := prog_4_method_10_code
def yX2_addStep : MethodName := ⟨RX2, "addStep", "(CII)V"⟩
abbrev cX2_isAt : ByteArray := prog_4_method_11_code
def yX2_isAt : MethodName := ⟨RX2, "isAt", "(C)Z"⟩
abbrev cX2_isAtDigit : ByteArray := prog_4_method_12_code
def yX2_isAtDigit : MethodName := ⟨RX2, "isAtDigit", "()Z"⟩
abbrev cX2_accepts : ByteArray := prog_4_method_13_code
def yX2_accepts : MethodName := ⟨RX2, "accepts", "(C)Z"⟩
abbrev cX2_acceptsWord : ByteArray := prog_4_method_14_code
def yX2_acceptsWord : MethodName := ⟨RX2, "acceptsWord", "(Ljava/lang/String;)Z"⟩
def RX3 : String := "ForecastLab$Prophet"
def TX3 : u_T := fun k => match k with
  | 0 => ("ForecastLab$Prophet", "kind", "C", false)
  | 1 => ("ForecastLab$Prophet", "parameter", "I", false)
  | 2 => ("ForecastLab$Prophet", "errorCounts", "[I", true)
  | 3 => ("ForecastLab$Prophet", "errorSums", "[D", true)
  | _ => ("ForecastLab$Prophet", "pointCounts", "[I", true)
def tyX3 : Nat → FieldType := fun k => match k with
  | 0 => .char
  | 1 => .int
  | 2 => .array .int
  | 3 => .array .double
  | _ => .array .int
abbrev wsX30 : List Cond := u_ws RX3 TX3 5
theorem nmX3 : ∀ a, a < 5 → ∀ b, b < 5 → a ≠ b → (TX3 a).2.1 ≠ (TX3 b).2.1 := by decide +kernel
theorem tyX3_ok : ∀ k, k < 5 → parseFieldDescriptor (TX3 k).2.2.1 = some (tyX3 k) := by decide +kernel
abbrev cX3_init : ByteArray := prog_5_method_1_code
def yX3_init : MethodName := ⟨RX3, "<init>", "()V"⟩
abbrev cX3_copyFrom : ByteArray := prog_5_method_2_code
def yX3_copyFrom : MethodName := ⟨RX3, "copyFrom", "(LForecastLab$Prophet;)V"⟩
abbrev cX3_begin : ByteArray := prog_5_method_3_code
def yX3_begin : MethodName := ⟨RX3, "begin", "(CI)V"⟩
abbrev cX3_wipeScores : ByteArray := prog_5_method_4_code
def yX3_wipeScores : MethodName := ⟨RX3, "wipeScores", "(I)V"⟩
abbrev cX3_usesParameter : ByteArray := prog_5_method_5_code
def yX3_usesParameter : MethodName := ⟨RX3, "usesParameter", "()Z"⟩
abbrev cX3_neededValues : ByteArray := prog_5_method_6_code
def yX3_neededValues : MethodName := ⟨RX3, "neededValues", "()I"⟩
abbrev cX3_foresees : ByteArray := prog_5_method_7_code
def yX3_foresees : MethodName := ⟨RX3, "foresees", "(I)Z"⟩
abbrev cX3_foretell : ByteArray := prog_5_method_8_code
def yX3_foretell : MethodName := ⟨RX3, "foretell", "(LForecastLab$Series;I)D"⟩
abbrev cX3_errorOn : ByteArray := prog_5_method_9_code
def yX3_errorOn : MethodName := ⟨RX3, "errorOn", "(LForecastLab$Series;I)D"⟩
abbrev cX3_addError : ByteArray := prog_5_method_10_code
def yX3_addError : MethodName := ⟨RX3, "addError", "(ID)V"⟩
abbrev cX3_backtest : ByteArray := prog_5_method_11_code
def yX3_backtest : MethodName := ⟨RX3, "backtest", "(LForecastLab$Series;)D"⟩
abbrev cX3_countAllErrors : ByteArray := prog_5_method_12_code
def yX3_countAllErrors : MethodName := ⟨RX3, "countAllErrors", "()I"⟩
abbrev cX3_sumAllErrors : ByteArray := prog_5_method_13_code
def yX3_sumAllErrors : MethodName := ⟨RX3, "sumAllErrors", "()D"⟩
abbrev cX3_sumAllPoints : ByteArray := prog_5_method_14_code
def yX3_sumAllPoints : MethodName := ⟨RX3, "sumAllPoints", "()I"⟩
def RX4 : String := "ForecastLab$Series"
def TX4 : u_T := fun k => match k with
  | 0 => ("ForecastLab$Series", "values", "[I", true)
  | 1 => ("ForecastLab$Series", "count", "I", false)
  | 2 => ("ForecastLab$Series", "sorted", "[I", true)
  | 3 => ("ForecastLab$Series", "distances", "[I", true)
  | _ => ("ForecastLab$Series", "sums", "[I", true)
def tyX4 : Nat → FieldType := fun k => match k with
  | 0 => .array .int
  | 1 => .int
  | 2 => .array .int
  | 3 => .array .int
  | _ => .array .int
abbrev wsX40 : List Cond := u_ws RX4 TX4 5
theorem nmX4 : ∀ a, a < 5 → ∀ b, b < 5 → a ≠ b → (TX4 a).2.1 ≠ (TX4 b).2.1 := by decide +kernel
theorem tyX4_ok : ∀ k, k < 5 → parseFieldDescriptor (TX4 k).2.2.1 = some (tyX4 k) := by decide +kernel
abbrev cX4_init : ByteArray := prog_6_method_1_code
def yX4_init : MethodName := ⟨RX4, "<init>", "()V"⟩
abbrev cX4_copyFrom : ByteArray := prog_6_method_2_code
def yX4_copyFrom : MethodName := ⟨RX4, "copyFrom", "(LForecastLab$Series;)V"⟩
abbrev cX4_isFull : ByteArray := prog_6_method_3_code
def yX4_isFull : MethodName := ⟨RX4, "isFull", "()Z"⟩
abbrev cX4_hasDay : ByteArray := prog_6_method_4_code
def yX4_hasDay : MethodName := ⟨RX4, "hasDay", "(I)Z"⟩
abbrev cX4_add : ByteArray := prog_6_method_5_code
def yX4_add : MethodName := ⟨RX4, "add", "(I)I"⟩
abbrev cX4_spread : ByteArray := prog_6_method_6_code
def yX4_spread : MethodName := ⟨RX4, "spread", "()I"⟩
abbrev cX4_meanBefore : ByteArray := prog_6_method_7_code
def yX4_meanBefore : MethodName := ⟨RX4, "meanBefore", "(II)D"⟩
abbrev cX4_meanBySums : ByteArray := prog_6_method_8_code
def yX4_meanBySums : MethodName := ⟨RX4, "meanBySums", "(I)D"⟩
abbrev cX4_medianOf : ByteArray := prog_6_method_9_code
def yX4_medianOf : MethodName := ⟨RX4, "medianOf", "([III)I"⟩
abbrev cX4_countedMedian : ByteArray := prog_6_method_10_code
def yX4_countedMedian : MethodName := ⟨RX4, "countedMedian", "(I)I"⟩
abbrev cX4_countBelow : ByteArray := prog_6_method_11_code
def yX4_countBelow : MethodName := ⟨RX4, "countBelow", "(II)I"⟩
abbrev cX4_levelBefore : ByteArray := prog_6_method_12_code
def yX4_levelBefore : MethodName := ⟨RX4, "levelBefore", "(II)D"⟩
abbrev cX4_strays : ByteArray := prog_6_method_13_code
def yX4_strays : MethodName := ⟨RX4, "strays", "(II)Z"⟩
abbrev cX4_countStrays : ByteArray := prog_6_method_14_code
def yX4_countStrays : MethodName := ⟨RX4, "countStrays", "(I)I"⟩
abbrev cX4_longestClimb : ByteArray := prog_6_method_15_code
def yX4_longestClimb : MethodName := ⟨RX4, "longestClimb", "()I"⟩
abbrev cX4_countBetween : ByteArray := prog_6_method_16_code
def yX4_countBetween : MethodName := ⟨RX4, "countBetween", "(II)I"⟩
abbrev cX4_isSound : ByteArray := prog_6_method_17_code
def yX4_isSound : MethodName := ⟨RX4, "isSound", "()Z"⟩
def RX5 : String := "ForecastLab$State"
def TX5 : u_T := fun k => match k with
  | 0 => ("ForecastLab$State", "series", "[LForecastLab$Series;", true)
  | 1 => ("ForecastLab$State", "prophets", "[LForecastLab$Prophet;", true)
  | 2 => ("ForecastLab$State", "prophetCount", "I", false)
  | _ => ("ForecastLab$State", "limit", "I", false)
def tyX5 : Nat → FieldType := fun k => match k with
  | 0 => .array (.object "ForecastLab$Series")
  | 1 => .array (.object "ForecastLab$Prophet")
  | 2 => .int
  | _ => .int
abbrev wsX50 : List Cond := u_ws RX5 TX5 4
theorem nmX5 : ∀ a, a < 4 → ∀ b, b < 4 → a ≠ b → (TX5 a).2.1 ≠ (TX5 b).2.1 := by decide +kernel
theorem tyX5_ok : ∀ k, k < 4 → parseFieldDescriptor (TX5 k).2.2.1 = some (tyX5 k) := by decide +kernel
abbrev cX5_init : ByteArray := prog_7_method_1_code
def yX5_init : MethodName := ⟨RX5, "<init>", "()V"⟩
abbrev cX5_copyFrom : ByteArray := prog_7_method_2_code
def yX5_copyFrom : MethodName := ⟨RX5, "copyFrom", "(LForecastLab$State;)V"⟩
abbrev cX5_takesProphet : ByteArray := prog_7_method_3_code
def yX5_takesProphet : MethodName := ⟨RX5, "takesProphet", "()Z"⟩
abbrev cX5_enlist : ByteArray := prog_7_method_4_code
def yX5_enlist : MethodName := ⟨RX5, "enlist", "(CI)I"⟩
abbrev cX5_append : ByteArray := prog_7_method_5_code
def yX5_append : MethodName := ⟨RX5, "append", "(II)I"⟩
abbrev cX5_wipe : ByteArray := prog_7_method_6_code
def yX5_wipe : MethodName := ⟨RX5, "wipe", "(I)V"⟩
abbrev cX5_countAllValues : ByteArray := prog_7_method_7_code
def yX5_countAllValues : MethodName := ⟨RX5, "countAllValues", "()I"⟩
abbrev cX5_countAllStrays : ByteArray := prog_7_method_8_code
def yX5_countAllStrays : MethodName := ⟨RX5, "countAllStrays", "()I"⟩
abbrev cX5_prophetAtRank : ByteArray := prog_7_method_9_code
def yX5_prophetAtRank : MethodName := ⟨RX5, "prophetAtRank", "(I)I"⟩
abbrev cX5_rankOf : ByteArray := prog_7_method_10_code
def yX5_rankOf : MethodName := ⟨RX5, "rankOf", "(I)I"⟩
abbrev cX5_prophetWithLeastMeanError : ByteArray := prog_7_method_11_code
def yX5_prophetWithLeastMeanError : MethodName := ⟨RX5, "prophetWithLeastMeanError", "()I"⟩
abbrev cX5_isSound : ByteArray := prog_7_method_12_code
def yX5_isSound : MethodName := ⟨RX5, "isSound", "()Z"⟩
abbrev cX5_areScoresSound : ByteArray := prog_7_method_13_code
def yX5_areScoresSound : MethodName := ⟨RX5, "areScoresSound", "(I)Z"⟩
def RX6 : String := "ForecastLab"
def TX6 : u_T := fun k => match k with
  | 0 => ("ForecastLab", "now", "LForecastLab$State;", true)
  | 1 => ("ForecastLab", "kept", "LForecastLab$State;", true)
  | 2 => ("ForecastLab", "past", "LForecastLab$Past;", true)
  | 3 => ("ForecastLab", "program", "LForecastLab$Program;", true)
  | 4 => ("ForecastLab", "line", "LForecastLab$Line;", true)
  | 5 => ("ForecastLab", "isKept", "Z", false)
  | 6 => ("ForecastLab", "latestErrorPosition", "I", false)
  | _ => ("ForecastLab", "latestFailedCommand", "I", false)
def tyX6 : Nat → FieldType := fun k => match k with
  | 0 => .object "ForecastLab$State"
  | 1 => .object "ForecastLab$State"
  | 2 => .object "ForecastLab$Past"
  | 3 => .object "ForecastLab$Program"
  | 4 => .object "ForecastLab$Line"
  | 5 => .boolean
  | 6 => .int
  | _ => .int
abbrev wsX60 : List Cond := u_ws RX6 TX6 8
theorem nmX6 : ∀ a, a < 8 → ∀ b, b < 8 → a ≠ b → (TX6 a).2.1 ≠ (TX6 b).2.1 := by decide +kernel
theorem tyX6_ok : ∀ k, k < 8 → parseFieldDescriptor (TX6 k).2.2.1 = some (tyX6 k) := by decide +kernel
abbrev cX6_init : ByteArray := prog_1_method_1_code
def yX6_init : MethodName := ⟨RX6, "<init>", "()V"⟩
abbrev cX6_addProphet : ByteArray := prog_1_method_2_code
def yX6_addProphet : MethodName := ⟨RX6, "addProphet", "(CI)I"⟩
abbrev cX6_observe : ByteArray := prog_1_method_3_code
def yX6_observe : MethodName := ⟨RX6, "observe", "(II)I"⟩
abbrev cX6_setLimit : ByteArray := prog_1_method_4_code
def yX6_setLimit : MethodName := ⟨RX6, "setLimit", "(I)I"⟩
abbrev cX6_forget : ByteArray := prog_1_method_5_code
def yX6_forget : MethodName := ⟨RX6, "forget", "(I)I"⟩
abbrev cX6_days : ByteArray := prog_1_method_6_code
def yX6_days : MethodName := ⟨RX6, "days", "(I)I"⟩
abbrev cX6_value : ByteArray := prog_1_method_7_code
def yX6_value : MethodName := ⟨RX6, "value", "(II)I"⟩
abbrev cX6_range : ByteArray := prog_1_method_8_code
def yX6_range : MethodName := ⟨RX6, "range", "(I)I"⟩
abbrev cX6_movingAverage : ByteArray := prog_1_method_9_code
def yX6_movingAverage : MethodName := ⟨RX6, "movingAverage", "(II)D"⟩
abbrev cX6_movingAverageBySums : ByteArray := prog_1_method_10_code
def yX6_movingAverageBySums : MethodName := ⟨RX6, "movingAverageBySums", "(II)D"⟩
abbrev cX6_median : ByteArray := prog_1_method_11_code
def yX6_median : MethodName := ⟨RX6, "median", "(II)I"⟩
abbrev cX6_medianByCounting : ByteArray := prog_1_method_12_code
def yX6_medianByCounting : MethodName := ⟨RX6, "medianByCounting", "(II)I"⟩
abbrev cX6_smoothed : ByteArray := prog_1_method_13_code
def yX6_smoothed : MethodName := ⟨RX6, "smoothed", "(II)D"⟩
abbrev cX6_isOutlier : ByteArray := prog_1_method_14_code
def yX6_isOutlier : MethodName := ⟨RX6, "isOutlier", "(II)Z"⟩
abbrev cX6_outliers : ByteArray := prog_1_method_15_code
def yX6_outliers : MethodName := ⟨RX6, "outliers", "(I)I"⟩
abbrev cX6_longestRise : ByteArray := prog_1_method_16_code
def yX6_longestRise : MethodName := ⟨RX6, "longestRise", "(I)I"⟩
abbrev cX6_valuesBetween : ByteArray := prog_1_method_17_code
def yX6_valuesBetween : MethodName := ⟨RX6, "valuesBetween", "(III)I"⟩
abbrev cX6_limit : ByteArray := prog_1_method_18_code
def yX6_limit : MethodName := ⟨RX6, "limit", "()I"⟩
abbrev cX6_prophets : ByteArray := prog_1_method_19_code
def yX6_prophets : MethodName := ⟨RX6, "prophets", "()I"⟩
abbrev cX6_kind : ByteArray := prog_1_method_20_code
def yX6_kind : MethodName := ⟨RX6, "kind", "(I)C"⟩
abbrev cX6_parameter : ByteArray := prog_1_method_21_code
def yX6_parameter : MethodName := ⟨RX6, "parameter", "(I)I"⟩
abbrev cX6_hasForecast : ByteArray := prog_1_method_22_code
def yX6_hasForecast : MethodName := ⟨RX6, "hasForecast", "(II)Z"⟩
abbrev cX6_forecast : ByteArray := prog_1_method_23_code
def yX6_forecast : MethodName := ⟨RX6, "forecast", "(II)D"⟩
abbrev cX6_forecastBits : ByteArray := prog_1_method_24_code
def yX6_forecastBits : MethodName := ⟨RX6, "forecastBits", "(II)J"⟩
abbrev cX6_errors : ByteArray := prog_1_method_25_code
def yX6_errors : MethodName := ⟨RX6, "errors", "(II)I"⟩
abbrev cX6_errorSum : ByteArray := prog_1_method_26_code
def yX6_errorSum : MethodName := ⟨RX6, "errorSum", "(II)D"⟩
abbrev cX6_errorSumByBacktest : ByteArray := prog_1_method_27_code
def yX6_errorSumByBacktest : MethodName := ⟨RX6, "errorSumByBacktest", "(II)D"⟩
abbrev cX6_points : ByteArray := prog_1_method_28_code
def yX6_points : MethodName := ⟨RX6, "points", "(II)I"⟩
abbrev cX6_meanError : ByteArray := prog_1_method_29_code
def yX6_meanError : MethodName := ⟨RX6, "meanError", "(I)D"⟩
abbrev cX6_prophetByPoints : ByteArray := prog_1_method_30_code
def yX6_prophetByPoints : MethodName := ⟨RX6, "prophetByPoints", "(I)I"⟩
abbrev cX6_bestProphet : ByteArray := prog_1_method_31_code
def yX6_bestProphet : MethodName := ⟨RX6, "bestProphet", "()I"⟩
abbrev cX6_outlierShare : ByteArray := prog_1_method_32_code
def yX6_outlierShare : MethodName := ⟨RX6, "outlierShare", "()F"⟩
abbrev cX6_isConsistent : ByteArray := prog_1_method_33_code
def yX6_isConsistent : MethodName := ⟨RX6, "isConsistent", "()Z"⟩
abbrev cX6_writeSeries : ByteArray := prog_1_method_34_code
def yX6_writeSeries : MethodName := ⟨RX6, "writeSeries", "(I)I"⟩
abbrev cX6_writeProphets : ByteArray := prog_1_method_35_code
def yX6_writeProphets : MethodName := ⟨RX6, "writeProphets", "()I"⟩
abbrev cX6_charAt : ByteArray := prog_1_method_36_code
def yX6_charAt : MethodName := ⟨RX6, "charAt", "(I)C"⟩
abbrev cX6_type : ByteArray := prog_1_method_37_code
def yX6_type : MethodName := ⟨RX6, "type", "(C)I"⟩
abbrev cX6_run : ByteArray := prog_1_method_38_code
def yX6_run : MethodName := ⟨RX6, "run", "()I"⟩
abbrev cX6_errorPosition : ByteArray := prog_1_method_39_code
def yX6_errorPosition : MethodName := ⟨RX6, "errorPosition", "()I"⟩
abbrev cX6_failedCommand : ByteArray := prog_1_method_40_code
def yX6_failedCommand : MethodName := ⟨RX6, "failedCommand", "()I"⟩
abbrev cX6_undo : ByteArray := prog_1_method_41_code
def yX6_undo : MethodName := ⟨RX6, "undo", "()I"⟩
abbrev cX6_save : ByteArray := prog_1_method_42_code
def yX6_save : MethodName := ⟨RX6, "save", "()I"⟩
abbrev cX6_restore : ByteArray := prog_1_method_43_code
def yX6_restore : MethodName := ⟨RX6, "restore", "()I"⟩
abbrev cX6_isSeries : ByteArray := prog_1_method_44_code
def yX6_isSeries : MethodName := ⟨RX6, "isSeries", "(I)Z"⟩
abbrev cX6_isKind : ByteArray := prog_1_method_45_code
def yX6_isKind : MethodName := ⟨RX6, "isKind", "(C)Z"⟩
abbrev cX6_isOneToNine : ByteArray := prog_1_method_46_code
def yX6_isOneToNine : MethodName := ⟨RX6, "isOneToNine", "(I)Z"⟩
abbrev cX6_requireSeries : ByteArray := prog_1_method_47_code
def yX6_requireSeries : MethodName := ⟨RX6, "requireSeries", "(I)V"⟩
abbrev cX6_seriesAt : ByteArray := prog_1_method_48_code
def yX6_seriesAt : MethodName := ⟨RX6, "seriesAt", "(I)LForecastLab$Series;"⟩
abbrev cX6_seriesWithLast : ByteArray := prog_1_method_49_code
def yX6_seriesWithLast : MethodName := ⟨RX6, "seriesWithLast", "(II)LForecastLab$Series;"⟩
abbrev cX6_prophetAt : ByteArray := prog_1_method_50_code
def yX6_prophetAt : MethodName := ⟨RX6, "prophetAt", "(I)LForecastLab$Prophet;"⟩
abbrev cX6_nextForecast : ByteArray := prog_1_method_51_code
def yX6_nextForecast : MethodName := ⟨RX6, "nextForecast", "(II)D"⟩
abbrev cX6_noteChange : ByteArray := prog_1_method_52_code
def yX6_noteChange : MethodName := ⟨RX6, "noteChange", "()V"⟩
abbrev cX6_firstFailedCommand : ByteArray := prog_1_method_53_code
def yX6_firstFailedCommand : MethodName := ⟨RX6, "firstFailedCommand", "()I"⟩
abbrev cX6_takeStep : ByteArray := prog_1_method_54_code
def yX6_takeStep : MethodName := ⟨RX6, "takeStep", "(CII)Z"⟩
abbrev cX6_bitsOf : ByteArray := prog_1_method_55_code
def yX6_bitsOf : MethodName := ⟨RX6, "bitsOf", "(D)J"⟩
def RX7 : String := "ForecastLabModel"
def TX7 : u_T := fun k => match k with
  | 0 => ("ForecastLabModel", "now", "[I", true)
  | 1 => ("ForecastLabModel", "before", "[I", true)
  | 2 => ("ForecastLabModel", "saved", "[I", true)
  | 3 => ("ForecastLabModel", "history", "[I", true)
  | 4 => ("ForecastLabModel", "row", "[I", true)
  | 5 => ("ForecastLabModel", "thrown", "I", false)
  | 6 => ("ForecastLabModel", "depth", "I", false)
  | 7 => ("ForecastLabModel", "wrongAt", "I", false)
  | 8 => ("ForecastLabModel", "failedAt", "I", false)
  | 9 => ("ForecastLabModel", "isSaved", "Z", false)
  | 10 => ("ForecastLabModel", "output", "[I", true)
  | 11 => ("ForecastLabModel", "outputLength", "I", false)
  | 12 => ("ForecastLabModel", "input", "[I", true)
  | 13 => ("ForecastLabModel", "kinds", "[I", true)
  | 14 => ("ForecastLabModel", "firsts", "[I", true)
  | 15 => ("ForecastLabModel", "seconds", "[I", true)
  | 16 => ("ForecastLabModel", "ends", "[I", true)
  | 17 => ("ForecastLabModel", "values", "[I", true)
  | 18 => ("ForecastLabModel", "length", "I", false)
  | 19 => ("ForecastLabModel", "programLength", "I", false)
  | 20 => ("ForecastLabModel", "at", "I", false)
  | 21 => ("ForecastLabModel", "commands", "I", false)
  | 22 => ("ForecastLabModel", "valueCount", "I", false)
  | _ => ("ForecastLabModel", "isWrong", "Z", false)
def tyX7 : Nat → FieldType := fun k => match k with
  | 0 => .array .int
  | 1 => .array .int
  | 2 => .array .int
  | 3 => .array .int
  | 4 => .array .int
  | 5 => .int
  | 6 => .int
  | 7 => .int
  | 8 => .int
  | 9 => .boolean
  | 10 => .array .int
  | 11 => .int
  | 12 => .array .int
  | 13 => .array .int
  | 14 => .array .int
  | 15 => .array .int
  | 16 => .array .int
  | 17 => .array .int
  | 18 => .int
  | 19 => .int
  | 20 => .int
  | 21 => .int
  | 22 => .int
  | _ => .boolean
abbrev wsX70 : List Cond := u_ws RX7 TX7 24
theorem nmX7 : ∀ a, a < 24 → ∀ b, b < 24 → a ≠ b → (TX7 a).2.1 ≠ (TX7 b).2.1 := by decide +kernel
theorem tyX7_ok : ∀ k, k < 24 → parseFieldDescriptor (TX7 k).2.2.1 = some (tyX7 k) := by decide +kernel
abbrev cX7_init : ByteArray := prog_9_method_1_code
def yX7_init : MethodName := ⟨RX7, "<init>", "()V"⟩
abbrev cX7_thrown : ByteArray := prog_9_method_2_code
def yX7_thrown : MethodName := ⟨RX7, "thrown", "()I"⟩
abbrev cX7_in : ByteArray := prog_9_method_3_code
def yX7_in : MethodName := ⟨RX7, "in", "(III)Z"⟩
abbrev cX7_copy : ByteArray := prog_9_method_4_code
def yX7_copy : MethodName := ⟨RX7, "copy", "([II[II)V"⟩
abbrev cX7_fail : ByteArray := prog_9_method_5_code
def yX7_fail : MethodName := ⟨RX7, "fail", "(I)I"⟩
abbrev cX7_begin : ByteArray := prog_9_method_6_code
def yX7_begin : MethodName := ⟨RX7, "begin", "()V"⟩
abbrev cX7_commit : ByteArray := prog_9_method_7_code
def yX7_commit : MethodName := ⟨RX7, "commit", "(I)I"⟩
abbrev cX7_isSeries : ByteArray := prog_9_method_8_code
def yX7_isSeries : MethodName := ⟨RX7, "isSeries", "(I)Z"⟩
abbrev cX7_v : ByteArray := prog_9_method_9_code
def yX7_v : MethodName := ⟨RX7, "v", "(II)I"⟩
abbrev cX7_daysOf : ByteArray := prog_9_method_10_code
def yX7_daysOf : MethodName := ⟨RX7, "daysOf", "(I)I"⟩
abbrev cX7_isKind : ByteArray := prog_9_method_11_code
def yX7_isKind : MethodName := ⟨RX7, "isKind", "(I)Z"⟩
abbrev cX7_allDays : ByteArray := prog_9_method_12_code
def yX7_allDays : MethodName := ⟨RX7, "allDays", "()I"⟩
abbrev cX7_cannotAdd : ByteArray := prog_9_method_13_code
def yX7_cannotAdd : MethodName := ⟨RX7, "cannotAdd", "(II)I"⟩
abbrev cX7_adds : ByteArray := prog_9_method_14_code
def yX7_adds : MethodName := ⟨RX7, "adds", "(II)I"⟩
abbrev cX7_addProphet : ByteArray := prog_9_method_15_code
def yX7_addProphet : MethodName := ⟨RX7, "addProphet", "(CI)I"⟩
abbrev cX7_cannotSee : ByteArray := prog_9_method_16_code
def yX7_cannotSee : MethodName := ⟨RX7, "cannotSee", "(II)I"⟩
abbrev cX7_sees : ByteArray := prog_9_method_17_code
def yX7_sees : MethodName := ⟨RX7, "sees", "(II)I"⟩
abbrev cX7_observe : ByteArray := prog_9_method_18_code
def yX7_observe : MethodName := ⟨RX7, "observe", "(II)I"⟩
abbrev cX7_limits : ByteArray := prog_9_method_19_code
def yX7_limits : MethodName := ⟨RX7, "limits", "(I)I"⟩
abbrev cX7_setLimit : ByteArray := prog_9_method_20_code
def yX7_setLimit : MethodName := ⟨RX7, "setLimit", "(I)I"⟩
abbrev cX7_forgets : ByteArray := prog_9_method_21_code
def yX7_forgets : MethodName := ⟨RX7, "forgets", "(I)I"⟩
abbrev cX7_forget : ByteArray := prog_9_method_22_code
def yX7_forget : MethodName := ⟨RX7, "forget", "(I)I"⟩
abbrev cX7_plain : ByteArray := prog_9_method_23_code
def yX7_plain : MethodName := ⟨RX7, "plain", "(I)I"⟩
abbrev cX7_checked : ByteArray := prog_9_method_24_code
def yX7_checked : MethodName := ⟨RX7, "checked", "(Z)I"⟩
abbrev cX7_days : ByteArray := prog_9_method_25_code
def yX7_days : MethodName := ⟨RX7, "days", "(I)I"⟩
abbrev cX7_noValue : ByteArray := prog_9_method_26_code
def yX7_noValue : MethodName := ⟨RX7, "noValue", "(II)I"⟩
abbrev cX7_value : ByteArray := prog_9_method_27_code
def yX7_value : MethodName := ⟨RX7, "value", "(II)I"⟩
abbrev cX7_range : ByteArray := prog_9_method_28_code
def yX7_range : MethodName := ⟨RX7, "range", "(I)I"⟩
abbrev cX7_noLast : ByteArray := prog_9_method_29_code
def yX7_noLast : MethodName := ⟨RX7, "noLast", "(II)I"⟩
abbrev cX7_mean : ByteArray := prog_9_method_30_code
def yX7_mean : MethodName := ⟨RX7, "mean", "(III)D"⟩
abbrev cX7_lastMean : ByteArray := prog_9_method_31_code
def yX7_lastMean : MethodName := ⟨RX7, "lastMean", "(II)D"⟩
abbrev cX7_movingAverage : ByteArray := prog_9_method_32_code
def yX7_movingAverage : MethodName := ⟨RX7, "movingAverage", "(II)D"⟩
abbrev cX7_movingAverageBySums : ByteArray := prog_9_method_33_code
def yX7_movingAverageBySums : MethodName := ⟨RX7, "movingAverageBySums", "(II)D"⟩
abbrev cX7_rowMedian : ByteArray := prog_9_method_34_code
def yX7_rowMedian : MethodName := ⟨RX7, "rowMedian", "(I)I"⟩
abbrev cX7_medianAhead : ByteArray := prog_9_method_35_code
def yX7_medianAhead : MethodName := ⟨RX7, "medianAhead", "(III)I"⟩
abbrev cX7_lastMedian : ByteArray := prog_9_method_36_code
def yX7_lastMedian : MethodName := ⟨RX7, "lastMedian", "(II)I"⟩
abbrev cX7_median : ByteArray := prog_9_method_37_code
def yX7_median : MethodName := ⟨RX7, "median", "(II)I"⟩
abbrev cX7_medianByCounting : ByteArray := prog_9_method_38_code
def yX7_medianByCounting : MethodName := ⟨RX7, "medianByCounting", "(II)I"⟩
abbrev cX7_level : ByteArray := prog_9_method_39_code
def yX7_level : MethodName := ⟨RX7, "level", "(III)D"⟩
abbrev cX7_smoothed : ByteArray := prog_9_method_40_code
def yX7_smoothed : MethodName := ⟨RX7, "smoothed", "(II)D"⟩
abbrev cX7_apart : ByteArray := prog_9_method_41_code
def yX7_apart : MethodName := ⟨RX7, "apart", "(II)I"⟩
abbrev cX7_isOff : ByteArray := prog_9_method_42_code
def yX7_isOff : MethodName := ⟨RX7, "isOff", "(II)Z"⟩
abbrev cX7_isOutlier : ByteArray := prog_9_method_43_code
def yX7_isOutlier : MethodName := ⟨RX7, "isOutlier", "(II)Z"⟩
abbrev cX7_offOf : ByteArray := prog_9_method_44_code
def yX7_offOf : MethodName := ⟨RX7, "offOf", "(I)I"⟩
abbrev cX7_outliers : ByteArray := prog_9_method_45_code
def yX7_outliers : MethodName := ⟨RX7, "outliers", "(I)I"⟩
abbrev cX7_longestRise : ByteArray := prog_9_method_46_code
def yX7_longestRise : MethodName := ⟨RX7, "longestRise", "(I)I"⟩
abbrev cX7_valuesBetween : ByteArray := prog_9_method_47_code
def yX7_valuesBetween : MethodName := ⟨RX7, "valuesBetween", "(III)I"⟩
abbrev cX7_limit : ByteArray := prog_9_method_48_code
def yX7_limit : MethodName := ⟨RX7, "limit", "()I"⟩
abbrev cX7_isProphet : ByteArray := prog_9_method_49_code
def yX7_isProphet : MethodName := ⟨RX7, "isProphet", "(I)Z"⟩
abbrev cX7_prophets : ByteArray := prog_9_method_50_code
def yX7_prophets : MethodName := ⟨RX7, "prophets", "()I"⟩
abbrev cX7_kind : ByteArray := prog_9_method_51_code
def yX7_kind : MethodName := ⟨RX7, "kind", "(I)C"⟩
abbrev cX7_parameter : ByteArray := prog_9_method_52_code
def yX7_parameter : MethodName := ⟨RX7, "parameter", "(I)I"⟩
abbrev cX7_foresees : ByteArray := prog_9_method_53_code
def yX7_foresees : MethodName := ⟨RX7, "foresees", "(II)Z"⟩
abbrev cX7_foreseen : ByteArray := prog_9_method_54_code
def yX7_foreseen : MethodName := ⟨RX7, "foreseen", "(III)D"⟩
abbrev cX7_isPair : ByteArray := prog_9_method_55_code
def yX7_isPair : MethodName := ⟨RX7, "isPair", "(II)Z"⟩
abbrev cX7_hasForecast : ByteArray := prog_9_method_56_code
def yX7_hasForecast : MethodName := ⟨RX7, "hasForecast", "(II)Z"⟩
abbrev cX7_next : ByteArray := prog_9_method_57_code
def yX7_next : MethodName := ⟨RX7, "next", "(II)D"⟩
abbrev cX7_forecast : ByteArray := prog_9_method_58_code
def yX7_forecast : MethodName := ⟨RX7, "forecast", "(II)D"⟩
abbrev cX7_forecastBits : ByteArray := prog_9_method_59_code
def yX7_forecastBits : MethodName := ⟨RX7, "forecastBits", "(II)J"⟩
abbrev cX7_error : ByteArray := prog_9_method_60_code
def yX7_error : MethodName := ⟨RX7, "error", "(III)D"⟩
abbrev cX7_errorsOf : ByteArray := prog_9_method_61_code
def yX7_errorsOf : MethodName := ⟨RX7, "errorsOf", "(II)I"⟩
abbrev cX7_errors : ByteArray := prog_9_method_62_code
def yX7_errors : MethodName := ⟨RX7, "errors", "(II)I"⟩
abbrev cX7_errorSumOf : ByteArray := prog_9_method_63_code
def yX7_errorSumOf : MethodName := ⟨RX7, "errorSumOf", "(II)D"⟩
abbrev cX7_errorSum : ByteArray := prog_9_method_64_code
def yX7_errorSum : MethodName := ⟨RX7, "errorSum", "(II)D"⟩
abbrev cX7_errorSumByBacktest : ByteArray := prog_9_method_65_code
def yX7_errorSumByBacktest : MethodName := ⟨RX7, "errorSumByBacktest", "(II)D"⟩
abbrev cX7_winner : ByteArray := prog_9_method_66_code
def yX7_winner : MethodName := ⟨RX7, "winner", "(II)I"⟩
abbrev cX7_pointsOf : ByteArray := prog_9_method_67_code
def yX7_pointsOf : MethodName := ⟨RX7, "pointsOf", "(II)I"⟩
abbrev cX7_points : ByteArray := prog_9_method_68_code
def yX7_points : MethodName := ⟨RX7, "points", "(II)I"⟩
abbrev cX7_allErrors : ByteArray := prog_9_method_69_code
def yX7_allErrors : MethodName := ⟨RX7, "allErrors", "(I)I"⟩
abbrev cX7_allPoints : ByteArray := prog_9_method_70_code
def yX7_allPoints : MethodName := ⟨RX7, "allPoints", "(I)I"⟩
abbrev cX7_meanErrorOf : ByteArray := prog_9_method_71_code
def yX7_meanErrorOf : MethodName := ⟨RX7, "meanErrorOf", "(I)D"⟩
abbrev cX7_meanError : ByteArray := prog_9_method_72_code
def yX7_meanError : MethodName := ⟨RX7, "meanError", "(I)D"⟩
abbrev cX7_prophetByPoints : ByteArray := prog_9_method_73_code
def yX7_prophetByPoints : MethodName := ⟨RX7, "prophetByPoints", "(I)I"⟩
abbrev cX7_bestProphet : ByteArray := prog_9_method_74_code
def yX7_bestProphet : MethodName := ⟨RX7, "bestProphet", "()I"⟩
abbrev cX7_outlierShare : ByteArray := prog_9_method_75_code
def yX7_outlierShare : MethodName := ⟨RX7, "outlierShare", "()F"⟩
abbrev cX7_isConsistent : ByteArray := prog_9_method_76_code
def yX7_isConsistent : MethodName := ⟨RX7, "isConsistent", "()Z"⟩
abbrev cX7_write : ByteArray := prog_9_method_77_code
def yX7_write : MethodName := ⟨RX7, "write", "(I)V"⟩
abbrev cX7_writeNumber : ByteArray := prog_9_method_78_code
def yX7_writeNumber : MethodName := ⟨RX7, "writeNumber", "(I)V"⟩
abbrev cX7_writeSeries : ByteArray := prog_9_method_79_code
def yX7_writeSeries : MethodName := ⟨RX7, "writeSeries", "(I)I"⟩
abbrev cX7_writeProphets : ByteArray := prog_9_method_80_code
def yX7_writeProphets : MethodName := ⟨RX7, "writeProphets", "()I"⟩
abbrev cX7_charAt : ByteArray := prog_9_method_81_code
def yX7_charAt : MethodName := ⟨RX7, "charAt", "(I)C"⟩
abbrev cX7_type : ByteArray := prog_9_method_82_code
def yX7_type : MethodName := ⟨RX7, "type", "(C)I"⟩
abbrev cX7_mark : ByteArray := prog_9_method_83_code
def yX7_mark : MethodName := ⟨RX7, "mark", "()I"⟩
abbrev cX7_expect : ByteArray := prog_9_method_84_code
def yX7_expect : MethodName := ⟨RX7, "expect", "(I)V"⟩
abbrev cX7_number : ByteArray := prog_9_method_85_code
def yX7_number : MethodName := ⟨RX7, "number", "(I)I"⟩
abbrev cX7_pick : ByteArray := prog_9_method_86_code
def yX7_pick : MethodName := ⟨RX7, "pick", "(IIIIIIII)I"⟩
abbrev cX7_spelled : ByteArray := prog_9_method_87_code
def yX7_spelled : MethodName := ⟨RX7, "spelled", "(II)I"⟩
abbrev cX7_word : ByteArray := prog_9_method_88_code
def yX7_word : MethodName := ⟨RX7, "word", "()I"⟩
abbrev cX7_prophetKind : ByteArray := prog_9_method_89_code
def yX7_prophetKind : MethodName := ⟨RX7, "prophetKind", "()I"⟩
abbrev cX7_readsValue : ByteArray := prog_9_method_90_code
def yX7_readsValue : MethodName := ⟨RX7, "readsValue", "()V"⟩
abbrev cX7_command : ByteArray := prog_9_method_91_code
def yX7_command : MethodName := ⟨RX7, "command", "()V"⟩
abbrev cX7_parse : ByteArray := prog_9_method_92_code
def yX7_parse : MethodName := ⟨RX7, "parse", "()V"⟩
abbrev cX7_cannot : ByteArray := prog_9_method_93_code
def yX7_cannot : MethodName := ⟨RX7, "cannot", "(I)Z"⟩
abbrev cX7_run : ByteArray := prog_9_method_94_code
def yX7_run : MethodName := ⟨RX7, "run", "()I"⟩
abbrev cX7_present : ByteArray := prog_9_method_95_code
def yX7_present : MethodName := ⟨RX7, "present", "(I)I"⟩
abbrev cX7_errorPosition : ByteArray := prog_9_method_96_code
def yX7_errorPosition : MethodName := ⟨RX7, "errorPosition", "()I"⟩
abbrev cX7_failedCommand : ByteArray := prog_9_method_97_code
def yX7_failedCommand : MethodName := ⟨RX7, "failedCommand", "()I"⟩
abbrev cX7_undo : ByteArray := prog_9_method_98_code
def yX7_undo : MethodName := ⟨RX7, "undo", "()I"⟩
abbrev cX7_save : ByteArray := prog_9_method_99_code
def yX7_save : MethodName := ⟨RX7, "save", "()I"⟩
abbrev cX7_restore : ByteArray := prog_9_method_100_code
def yX7_restore : MethodName := ⟨RX7, "restore", "()I"⟩
def RJx145de : String := "java/io/Serializable"
def TJx145de : u_T := fun k => match k with
  | _ => ("", "", "", false)
def tyJx145de : Nat → FieldType := fun k => match k with
  | _ => .int
abbrev wsJx145de0 : List Cond := u_ws RJx145de TJx145de 0
theorem nmJx145de : ∀ a, a < 0 → ∀ b, b < 0 → a ≠ b → (TJx145de a).2.1 ≠ (TJx145de b).2.1 := by decide +kernel
theorem tyJx145de_ok : ∀ k, k < 0 → parseFieldDescriptor (TJx145de k).2.2.1 = some (tyJx145de k) := by decide +kernel
def RJx00060 : String := "java/lang/ArrayIndexOutOfBoundsException"
def TJx00060 : u_T := fun k => match k with
  | 0 => ("java/lang/Throwable", "backtrace", "Ljava/lang/Object;", false)
  | 1 => ("java/lang/Throwable", "detailMessage", "Ljava/lang/String;", false)
  | 2 => ("java/lang/Throwable", "cause", "Ljava/lang/Throwable;", false)
  | 3 => ("java/lang/Throwable", "stackTrace", "[Ljava/lang/StackTraceElement;", false)
  | 4 => ("java/lang/Throwable", "depth", "I", false)
  | _ => ("java/lang/Throwable", "suppressedExceptions", "Ljava/util/List;", false)
def tyJx00060 : Nat → FieldType := fun k => match k with
  | 0 => .object "java/lang/Object"
  | 1 => .object "java/lang/String"
  | 2 => .object "java/lang/Throwable"
  | 3 => .array (.object "java/lang/StackTraceElement")
  | 4 => .int
  | _ => .object "java/util/List"
abbrev wsJx000600 : List Cond := u_ws RJx00060 TJx00060 6
theorem nmJx00060 : ∀ a, a < 6 → ∀ b, b < 6 → a ≠ b → (TJx00060 a).2.1 ≠ (TJx00060 b).2.1 := by decide +kernel
theorem tyJx00060_ok : ∀ k, k < 6 → parseFieldDescriptor (TJx00060 k).2.2.1 = some (tyJx00060 k) := by decide +kernel
abbrev cJx00060_init_a7421 : ByteArray := prog_12_method_2_code
def yJx00060_init_a7421 : MethodName := ⟨RJx00060, "<init>", "(Ljava/lang/String;)V"⟩
def RJx9f9b0 : String := "java/lang/CharSequence"
def TJx9f9b0 : u_T := fun k => match k with
  | _ => ("", "", "", false)
def tyJx9f9b0 : Nat → FieldType := fun k => match k with
  | _ => .int
abbrev wsJx9f9b00 : List Cond := u_ws RJx9f9b0 TJx9f9b0 0
theorem nmJx9f9b0 : ∀ a, a < 0 → ∀ b, b < 0 → a ≠ b → (TJx9f9b0 a).2.1 ≠ (TJx9f9b0 b).2.1 := by decide +kernel
theorem tyJx9f9b0_ok : ∀ k, k < 0 → parseFieldDescriptor (TJx9f9b0 k).2.2.1 = some (tyJx9f9b0 k) := by decide +kernel
def RJxb160c : String := "java/lang/Comparable"
def TJxb160c : u_T := fun k => match k with
  | _ => ("", "", "", false)
def tyJxb160c : Nat → FieldType := fun k => match k with
  | _ => .int
abbrev wsJxb160c0 : List Cond := u_ws RJxb160c TJxb160c 0
theorem nmJxb160c : ∀ a, a < 0 → ∀ b, b < 0 → a ≠ b → (TJxb160c a).2.1 ≠ (TJxb160c b).2.1 := by decide +kernel
theorem tyJxb160c_ok : ∀ k, k < 0 → parseFieldDescriptor (TJxb160c k).2.2.1 = some (tyJxb160c k) := by decide +kernel
def RJxe99ae : String := "java/lang/Double"
def TJxe99ae : u_T := fun k => match k with
  | _ => ("", "", "", false)
def tyJxe99ae : Nat → FieldType := fun k => match k with
  | _ => .int
abbrev wsJxe99ae0 : List Cond := u_ws RJxe99ae TJxe99ae 0
theorem nmJxe99ae : ∀ a, a < 0 → ∀ b, b < 0 → a ≠ b → (TJxe99ae a).2.1 ≠ (TJxe99ae b).2.1 := by decide +kernel
theorem tyJxe99ae_ok : ∀ k, k < 0 → parseFieldDescriptor (TJxe99ae k).2.2.1 = some (tyJxe99ae k) := by decide +kernel
abbrev cJxe99ae_isNaN_b9ae7 : ByteArray := prog_15_method_6_code
def yJxe99ae_isNaN_b9ae7 : MethodName := ⟨RJxe99ae, "isNaN", "(D)Z"⟩
abbrev cJxe99ae_doubleToLongBits_ccdee : ByteArray := prog_15_method_23_code
def yJxe99ae_doubleToLongBits_ccdee : MethodName := ⟨RJxe99ae, "doubleToLongBits", "(D)J"⟩
def RJ9 : String := "java/lang/Math"
def TJ9 : u_T := fun k => match k with
  | _ => ("", "", "", false)
def tyJ9 : Nat → FieldType := fun k => match k with
  | _ => .int
abbrev wsJ90 : List Cond := u_ws RJ9 TJ9 0
theorem nmJ9 : ∀ a, a < 0 → ∀ b, b < 0 → a ≠ b → (TJ9 a).2.1 ≠ (TJ9 b).2.1 := by decide +kernel
theorem tyJ9_ok : ∀ k, k < 0 → parseFieldDescriptor (TJ9 k).2.2.1 = some (tyJ9 k) := by decide +kernel
abbrev cJ9_abs_0f7a4 : ByteArray := prog_20_method_59_code
def yJ9_abs_0f7a4 : MethodName := ⟨RJ9, "abs", "(I)I"⟩
abbrev cJ9_max_7cf53 : ByteArray := prog_20_method_65_code
def yJ9_max_7cf53 : MethodName := ⟨RJ9, "max", "(II)I"⟩
abbrev cJ9_min_7cf53 : ByteArray := prog_20_method_69_code
def yJ9_min_7cf53 : MethodName := ⟨RJ9, "min", "(II)I"⟩
def RJxd2413 : String := "java/lang/Number"
def TJxd2413 : u_T := fun k => match k with
  | _ => ("", "", "", false)
def tyJxd2413 : Nat → FieldType := fun k => match k with
  | _ => .int
abbrev wsJxd24130 : List Cond := u_ws RJxd2413 TJxd2413 0
theorem nmJxd2413 : ∀ a, a < 0 → ∀ b, b < 0 → a ≠ b → (TJxd2413 a).2.1 ≠ (TJxd2413 b).2.1 := by decide +kernel
theorem tyJxd2413_ok : ∀ k, k < 0 → parseFieldDescriptor (TJxd2413 k).2.2.1 = some (tyJxd2413 k) := by decide +kernel
def RJ0 : String := "java/lang/String"
def TJ0 : u_T := fun k => match k with
  | 0 => ("java/lang/String", "value", "[B", true)
  | _ => ("java/lang/String", "coder", "B", true)
def tyJ0 : Nat → FieldType := fun k => match k with
  | 0 => .array .byte
  | _ => .byte
abbrev wsJ00 : List Cond := u_ws RJ0 TJ0 2
theorem nmJ0 : ∀ a, a < 2 → ∀ b, b < 2 → a ≠ b → (TJ0 a).2.1 ≠ (TJ0 b).2.1 := by decide +kernel
theorem tyJ0_ok : ∀ k, k < 2 → parseFieldDescriptor (TJ0 k).2.2.1 = some (tyJ0 k) := by decide +kernel
abbrev cJ0_length_8abf5 : ByteArray := prog_23_method_54_code
def yJ0_length_8abf5 : MethodName := ⟨RJ0, "length", "()I"⟩
abbrev cJ0_charAt_5068e : ByteArray := prog_23_method_56_code
def yJ0_charAt_5068e : MethodName := ⟨RJ0, "charAt", "(I)C"⟩
abbrev cJ0_coder_7d493 : ByteArray := prog_23_method_152_code
def yJ0_coder_7d493 : MethodName := ⟨RJ0, "coder", "()B"⟩
abbrev cJ0_isLatin1_aae02 : ByteArray := prog_23_method_154_code
def yJ0_isLatin1_aae02 : MethodName := ⟨RJ0, "isLatin1", "()Z"⟩
abbrev cJ0_checkIndex_df160 : ByteArray := prog_23_method_155_code
def yJ0_checkIndex_df160 : MethodName := ⟨RJ0, "checkIndex", "(II)V"⟩
def RJ1 : String := "java/lang/StringLatin1"
def TJ1 : u_T := fun k => match k with
  | _ => ("", "", "", false)
def tyJ1 : Nat → FieldType := fun k => match k with
  | _ => .int
abbrev wsJ10 : List Cond := u_ws RJ1 TJ1 0
theorem nmJ1 : ∀ a, a < 0 → ∀ b, b < 0 → a ≠ b → (TJ1 a).2.1 ≠ (TJ1 b).2.1 := by decide +kernel
theorem tyJ1_ok : ∀ k, k < 0 → parseFieldDescriptor (TJ1 k).2.2.1 = some (tyJ1 k) := by decide +kernel
abbrev cJ1_charAt_3b067 : ByteArray := prog_24_method_2_code
def yJ1_charAt_3b067 : MethodName := ⟨RJ1, "charAt", "([BI)C"⟩
def RJ2 : String := "java/lang/StringUTF16"
def TJ2 : u_T := fun k => match k with
  | _ => ("", "", "", false)
def tyJ2 : Nat → FieldType := fun k => match k with
  | _ => .int
abbrev wsJ20 : List Cond := u_ws RJ2 TJ2 0
theorem nmJ2 : ∀ a, a < 0 → ∀ b, b < 0 → a ≠ b → (TJ2 a).2.1 ≠ (TJ2 b).2.1 := by decide +kernel
theorem tyJ2_ok : ∀ k, k < 0 → parseFieldDescriptor (TJ2 k).2.2.1 = some (tyJ2 k) := by decide +kernel
abbrev cJ2_getChar_3b067 : ByteArray := prog_25_method_5_code
def yJ2_getChar_3b067 : MethodName := ⟨RJ2, "getChar", "([BI)C"⟩
abbrev cJ2_length_9d52b : ByteArray := prog_25_method_6_code
def yJ2_length_9d52b : MethodName := ⟨RJ2, "length", "([B)I"⟩
abbrev cJ2_charAt_3b067 : ByteArray := prog_25_method_83_code
def yJ2_charAt_3b067 : MethodName := ⟨RJ2, "charAt", "([BI)C"⟩
abbrev cJ2_checkIndex_2214a : ByteArray := prog_25_method_91_code
def yJ2_checkIndex_2214a : MethodName := ⟨RJ2, "checkIndex", "(I[B)V"⟩
def RJ10 : String := "java/lang/System"
def TJ10 : u_T := fun k => match k with
  | _ => ("", "", "", false)
def tyJ10 : Nat → FieldType := fun k => match k with
  | _ => .int
abbrev wsJ100 : List Cond := u_ws RJ10 TJ10 0
theorem nmJ10 : ∀ a, a < 0 → ∀ b, b < 0 → a ≠ b → (TJ10 a).2.1 ≠ (TJ10 b).2.1 := by decide +kernel
theorem tyJ10_ok : ∀ k, k < 0 → parseFieldDescriptor (TJ10 k).2.2.1 = some (tyJ10 k) := by decide +kernel
def RJxfd54e : String := "java/lang/constant/Constable"
def TJxfd54e : u_T := fun k => match k with
  | _ => ("", "", "", false)
def tyJxfd54e : Nat → FieldType := fun k => match k with
  | _ => .int
abbrev wsJxfd54e0 : List Cond := u_ws RJxfd54e TJxfd54e 0
theorem nmJxfd54e : ∀ a, a < 0 → ∀ b, b < 0 → a ≠ b → (TJxfd54e a).2.1 ≠ (TJxfd54e b).2.1 := by decide +kernel
theorem tyJxfd54e_ok : ∀ k, k < 0 → parseFieldDescriptor (TJxfd54e k).2.2.1 = some (tyJxfd54e k) := by decide +kernel
def RJx3cf43 : String := "java/lang/constant/ConstantDesc"
def TJx3cf43 : u_T := fun k => match k with
  | _ => ("", "", "", false)
def tyJx3cf43 : Nat → FieldType := fun k => match k with
  | _ => .int
abbrev wsJx3cf430 : List Cond := u_ws RJx3cf43 TJx3cf43 0
theorem nmJx3cf43 : ∀ a, a < 0 → ∀ b, b < 0 → a ≠ b → (TJx3cf43 a).2.1 ≠ (TJx3cf43 b).2.1 := by decide +kernel
theorem tyJx3cf43_ok : ∀ k, k < 0 → parseFieldDescriptor (TJx3cf43 k).2.2.1 = some (tyJx3cf43 k) := by decide +kernel
def RJ3 : String := "jdk/internal/util/Preconditions"
def TJ3 : u_T := fun k => match k with
  | _ => ("", "", "", false)
def tyJ3 : Nat → FieldType := fun k => match k with
  | _ => .int
abbrev wsJ30 : List Cond := u_ws RJ3 TJ3 0
theorem nmJ3 : ∀ a, a < 0 → ∀ b, b < 0 → a ≠ b → (TJ3 a).2.1 ≠ (TJ3 b).2.1 := by decide +kernel
theorem tyJ3_ok : ∀ k, k < 0 → parseFieldDescriptor (TJ3 k).2.2.1 = some (tyJ3 k) := by decide +kernel
abbrev cJ3_checkIndex_8e157 : ByteArray := prog_32_method_11_code
def yJ3_checkIndex_8e157 : MethodName := ⟨RJ3, "checkIndex", "(IILjava/util/function/BiFunction;)I"⟩
def RL : String := "ForecastLabLaw"
abbrev cL_addProphet : ByteArray := method_3_code
def yL_addProphet : MethodName := ⟨RL, "addProphet", "(LForecastLab;CI[J)I"⟩
abbrev cL_observe : ByteArray := method_4_code
def yL_observe : MethodName := ⟨RL, "observe", "(LForecastLab;II[J)I"⟩
abbrev cL_setLimit : ByteArray := method_5_code
def yL_setLimit : MethodName := ⟨RL, "setLimit", "(LForecastLab;I[J)I"⟩
abbrev cL_forget : ByteArray := method_6_code
def yL_forget : MethodName := ⟨RL, "forget", "(LForecastLab;I[J)I"⟩
abbrev cL_days : ByteArray := method_7_code
def yL_days : MethodName := ⟨RL, "days", "(LForecastLab;I[J)I"⟩
abbrev cL_value : ByteArray := method_8_code
def yL_value : MethodName := ⟨RL, "value", "(LForecastLab;II[J)I"⟩
abbrev cL_range : ByteArray := method_9_code
def yL_range : MethodName := ⟨RL, "range", "(LForecastLab;I[J)I"⟩
abbrev cL_movingAverage : ByteArray := method_10_code
def yL_movingAverage : MethodName := ⟨RL, "movingAverage", "(LForecastLab;II[D)I"⟩
abbrev cL_movingAverageBySums : ByteArray := method_11_code
def yL_movingAverageBySums : MethodName := ⟨RL, "movingAverageBySums", "(LForecastLab;II[D)I"⟩
abbrev cL_median : ByteArray := method_12_code
def yL_median : MethodName := ⟨RL, "median", "(LForecastLab;II[J)I"⟩
abbrev cL_medianByCounting : ByteArray := method_13_code
def yL_medianByCounting : MethodName := ⟨RL, "medianByCounting", "(LForecastLab;II[J)I"⟩
abbrev cL_smoothed : ByteArray := method_14_code
def yL_smoothed : MethodName := ⟨RL, "smoothed", "(LForecastLab;II[D)I"⟩
abbrev cL_isOutlier : ByteArray := method_15_code
def yL_isOutlier : MethodName := ⟨RL, "isOutlier", "(LForecastLab;II[J)I"⟩
abbrev cL_outliers : ByteArray := method_16_code
def yL_outliers : MethodName := ⟨RL, "outliers", "(LForecastLab;I[J)I"⟩
abbrev cL_longestRise : ByteArray := method_17_code
def yL_longestRise : MethodName := ⟨RL, "longestRise", "(LForecastLab;I[J)I"⟩
abbrev cL_valuesBetween : ByteArray := method_18_code
def yL_valuesBetween : MethodName := ⟨RL, "valuesBetween", "(LForecastLab;III[J)I"⟩
abbrev cL_kind : ByteArray := method_19_code
def yL_kind : MethodName := ⟨RL, "kind", "(LForecastLab;I[J)I"⟩
abbrev cL_parameter : ByteArray := method_20_code
def yL_parameter : MethodName := ⟨RL, "parameter", "(LForecastLab;I[J)I"⟩
abbrev cL_hasForecast : ByteArray := method_21_code
def yL_hasForecast : MethodName := ⟨RL, "hasForecast", "(LForecastLab;II[J)I"⟩
abbrev cL_forecast : ByteArray := method_22_code
def yL_forecast : MethodName := ⟨RL, "forecast", "(LForecastLab;II[D)I"⟩
abbrev cL_forecastBits : ByteArray := method_23_code
def yL_forecastBits : MethodName := ⟨RL, "forecastBits", "(LForecastLab;II[J)I"⟩
abbrev cL_errors : ByteArray := method_24_code
def yL_errors : MethodName := ⟨RL, "errors", "(LForecastLab;II[J)I"⟩
abbrev cL_errorSum : ByteArray := method_25_code
def yL_errorSum : MethodName := ⟨RL, "errorSum", "(LForecastLab;II[D)I"⟩
abbrev cL_errorSumByBacktest : ByteArray := method_26_code
def yL_errorSumByBacktest : MethodName := ⟨RL, "errorSumByBacktest", "(LForecastLab;II[D)I"⟩
abbrev cL_points : ByteArray := method_27_code
def yL_points : MethodName := ⟨RL, "points", "(LForecastLab;II[J)I"⟩
abbrev cL_meanError : ByteArray := method_28_code
def yL_meanError : MethodName := ⟨RL, "meanError", "(LForecastLab;I[D)I"⟩
abbrev cL_prophetByPoints : ByteArray := method_29_code
def yL_prophetByPoints : MethodName := ⟨RL, "prophetByPoints", "(LForecastLab;I[J)I"⟩
abbrev cL_bestProphet : ByteArray := method_30_code
def yL_bestProphet : MethodName := ⟨RL, "bestProphet", "(LForecastLab;[J)I"⟩
abbrev cL_outlierShare : ByteArray := method_31_code
def yL_outlierShare : MethodName := ⟨RL, "outlierShare", "(LForecastLab;[D)I"⟩
abbrev cL_writeSeries : ByteArray := method_32_code
def yL_writeSeries : MethodName := ⟨RL, "writeSeries", "(LForecastLab;I[J)I"⟩
abbrev cL_charAt : ByteArray := method_33_code
def yL_charAt : MethodName := ⟨RL, "charAt", "(LForecastLab;I[J)I"⟩
abbrev cL_type : ByteArray := method_34_code
def yL_type : MethodName := ⟨RL, "type", "(LForecastLab;C[J)I"⟩
abbrev cL_run : ByteArray := method_35_code
def yL_run : MethodName := ⟨RL, "run", "(LForecastLab;[J)I"⟩
abbrev cL_errorPosition : ByteArray := method_36_code
def yL_errorPosition : MethodName := ⟨RL, "errorPosition", "(LForecastLab;[J)I"⟩
abbrev cL_failedCommand : ByteArray := method_37_code
def yL_failedCommand : MethodName := ⟨RL, "failedCommand", "(LForecastLab;[J)I"⟩
abbrev cL_undo : ByteArray := method_38_code
def yL_undo : MethodName := ⟨RL, "undo", "(LForecastLab;[J)I"⟩
abbrev cL_restore : ByteArray := method_39_code
def yL_restore : MethodName := ⟨RL, "restore", "(LForecastLab;[J)I"⟩
abbrev cL_law : ByteArray := code
def yL_law : MethodName := ⟨RL, "law", "([I)Z"⟩
abbrev vwCl : List vw_C := [(RJ0, TJ0, 2), (RJx00060, TJx00060, 6), (RX0, TX0, 2), (RX1, TX1, 3), (RX2, TX2, 9), (RX3, TX3, 5), (RX4, TX4, 5), (RX5, TX5, 4), (RX6, TX6, 8), (RX7, TX7, 24)]
end
section
theorem dJ0_length_8abf5_0 : decode cJ0_length_8abf5 0 = .ok (.aload_n 0, 1) := by decide +kernel
theorem dJ0_length_8abf5_1 : decode cJ0_length_8abf5 1 = .ok (.getfield 9, 3) := by decide +kernel
theorem dJ0_length_8abf5_4 : decode cJ0_length_8abf5 4 = .ok (.arraylength, 1) := by decide +kernel
theorem dJ0_length_8abf5_5 : decode cJ0_length_8abf5 5 = .ok (.aload_n 0, 1) := by decide +kernel
theorem dJ0_length_8abf5_6 : decode cJ0_length_8abf5 6 = .ok (.invokevirtual 335, 3) := by decide +kernel
theorem dJ0_length_8abf5_9 : decode cJ0_length_8abf5 9 = .ok (.ishr, 1) := by decide +kernel
theorem dJ0_length_8abf5_10 : decode cJ0_length_8abf5 10 = .ok (.ireturn, 1) := by decide +kernel
theorem dJ0_charAt_5068e_0 : decode cJ0_charAt_5068e 0 = .ok (.aload_n 0, 1) := by decide +kernel
theorem dJ0_charAt_5068e_1 : decode cJ0_charAt_5068e 1 = .ok (.invokevirtual 492, 3) := by decide +kernel
theorem dJ0_charAt_5068e_4 : decode cJ0_charAt_5068e 4 = .ok (.ifCond .eq 12, 3) := by decide +kernel
theorem dJ0_charAt_5068e_7 : decode cJ0_charAt_5068e 7 = .ok (.aload_n 0, 1) := by decide +kernel
theorem dJ0_charAt_5068e_8 : decode cJ0_charAt_5068e 8 = .ok (.getfield 9, 3) := by decide +kernel
theorem dJ0_charAt_5068e_11 : decode cJ0_charAt_5068e 11 = .ok (.iload_n 1, 1) := by decide +kernel
theorem dJ0_charAt_5068e_12 : decode cJ0_charAt_5068e 12 = .ok (.invokestatic 495, 3) := by decide +kernel
theorem dJ0_charAt_5068e_15 : decode cJ0_charAt_5068e 15 = .ok (.ireturn, 1) := by decide +kernel
theorem dJ0_charAt_5068e_16 : decode cJ0_charAt_5068e 16 = .ok (.aload_n 0, 1) := by decide +kernel
theorem dJ0_charAt_5068e_17 : decode cJ0_charAt_5068e 17 = .ok (.getfield 9, 3) := by decide +kernel
theorem dJ0_charAt_5068e_20 : decode cJ0_charAt_5068e 20 = .ok (.iload_n 1, 1) := by decide +kernel
theorem dJ0_charAt_5068e_21 : decode cJ0_charAt_5068e 21 = .ok (.invokestatic 498, 3) := by decide +kernel
theorem dJ0_charAt_5068e_24 : decode cJ0_charAt_5068e 24 = .ok (.ireturn, 1) := by decide +kernel
theorem dJ0_coder_7d493_0 : decode cJ0_coder_7d493 0 = .ok (.getstatic 38, 3) := by decide +kernel
theorem dJ0_coder_7d493_3 : decode cJ0_coder_7d493 3 = .ok (.ifCond .eq 10, 3) := by decide +kernel
theorem dJ0_coder_7d493_6 : decode cJ0_coder_7d493 6 = .ok (.aload_n 0, 1) := by decide +kernel
theorem dJ0_coder_7d493_7 : decode cJ0_coder_7d493 7 = .ok (.getfield 15, 3) := by decide +kernel
theorem dJ0_coder_7d493_10 : decode cJ0_coder_7d493 10 = .ok (.goto 4, 3) := by decide +kernel
theorem dJ0_coder_7d493_13 : decode cJ0_coder_7d493 13 = .ok (.iconst 1, 1) := by decide +kernel
theorem dJ0_coder_7d493_14 : decode cJ0_coder_7d493 14 = .ok (.ireturn, 1) := by decide +kernel
theorem dJ0_isLatin1_aae02_0 : decode cJ0_isLatin1_aae02 0 = .ok (.getstatic 38, 3) := by decide +kernel
theorem dJ0_isLatin1_aae02_3 : decode cJ0_isLatin1_aae02 3 = .ok (.ifCond .eq 14, 3) := by decide +kernel
theorem dJ0_isLatin1_aae02_6 : decode cJ0_isLatin1_aae02 6 = .ok (.aload_n 0, 1) := by decide +kernel
theorem dJ0_isLatin1_aae02_7 : decode cJ0_isLatin1_aae02 7 = .ok (.getfield 15, 3) := by decide +kernel
theorem dJ0_isLatin1_aae02_10 : decode cJ0_isLatin1_aae02 10 = .ok (.ifCond .ne 7, 3) := by decide +kernel
theorem dJ0_isLatin1_aae02_13 : decode cJ0_isLatin1_aae02 13 = .ok (.iconst 1, 1) := by decide +kernel
theorem dJ0_isLatin1_aae02_14 : decode cJ0_isLatin1_aae02 14 = .ok (.goto 4, 3) := by decide +kernel
theorem dJ0_isLatin1_aae02_17 : decode cJ0_isLatin1_aae02 17 = .ok (.iconst 0, 1) := by decide +kernel
theorem dJ0_isLatin1_aae02_18 : decode cJ0_isLatin1_aae02 18 = .ok (.ireturn, 1) := by decide +kernel
theorem dJ0_checkIndex_df160_0 : decode cJ0_checkIndex_df160 0 = .ok (.iload_n 0, 1) := by decide +kernel
theorem dJ0_checkIndex_df160_1 : decode cJ0_checkIndex_df160 1 = .ok (.iload_n 1, 1) := by decide +kernel
theorem dJ0_checkIndex_df160_2 : decode cJ0_checkIndex_df160 2 = .ok (.getstatic 1053, 3) := by decide +kernel
theorem dJ0_checkIndex_df160_5 : decode cJ0_checkIndex_df160 5 = .ok (.invokestatic 1059, 3) := by decide +kernel
theorem dJ0_checkIndex_df160_8 : decode cJ0_checkIndex_df160 8 = .ok (.pop, 1) := by decide +kernel
theorem dJ0_checkIndex_df160_9 : decode cJ0_checkIndex_df160 9 = .ok (.return_, 1) := by decide +kernel
theorem dJ1_charAt_3b067_0 : decode cJ1_charAt_3b067 0 = .ok (.iload_n 1, 1) := by decide +kernel
theorem dJ1_charAt_3b067_1 : decode cJ1_charAt_3b067 1 = .ok (.aload_n 0, 1) := by decide +kernel
theorem dJ1_charAt_3b067_2 : decode cJ1_charAt_3b067 2 = .ok (.arraylength, 1) := by decide +kernel
theorem dJ1_charAt_3b067_3 : decode cJ1_charAt_3b067 3 = .ok (.invokestatic 9, 3) := by decide +kernel
theorem dJ1_charAt_3b067_6 : decode cJ1_charAt_3b067 6 = .ok (.aload_n 0, 1) := by decide +kernel
theorem dJ1_charAt_3b067_7 : decode cJ1_charAt_3b067 7 = .ok (.iload_n 1, 1) := by decide +kernel
theorem dJ1_charAt_3b067_8 : decode cJ1_charAt_3b067 8 = .ok (.baload, 1) := by decide +kernel
theorem dJ1_charAt_3b067_9 : decode cJ1_charAt_3b067 9 = .ok (.sipush 255, 3) := by decide +kernel
theorem dJ1_charAt_3b067_12 : decode cJ1_charAt_3b067 12 = .ok (.iand, 1) := by decide +kernel
theorem dJ1_charAt_3b067_13 : decode cJ1_charAt_3b067 13 = .ok (.i2c, 1) := by decide +kernel
theorem dJ1_charAt_3b067_14 : decode cJ1_charAt_3b067 14 = .ok (.ireturn, 1) := by decide +kernel
theorem dJ2_getChar_3b067_0 : decode cJ2_getChar_3b067 0 = .ok (.getstatic 44, 3) := by decide +kernel
theorem dJ2_getChar_3b067_3 : decode cJ2_getChar_3b067 3 = .ok (.ifCond .ne 25, 3) := by decide +kernel
theorem dJ2_getChar_3b067_6 : decode cJ2_getChar_3b067 6 = .ok (.iload_n 1, 1) := by decide +kernel
theorem dJ2_getChar_3b067_7 : decode cJ2_getChar_3b067 7 = .ok (.ifCond .lt 11, 3) := by decide +kernel
theorem dJ2_getChar_3b067_10 : decode cJ2_getChar_3b067 10 = .ok (.iload_n 1, 1) := by decide +kernel
theorem dJ2_getChar_3b067_11 : decode cJ2_getChar_3b067 11 = .ok (.aload_n 0, 1) := by decide +kernel
theorem dJ2_getChar_3b067_12 : decode cJ2_getChar_3b067 12 = .ok (.invokestatic 48, 3) := by decide +kernel
theorem dJ2_getChar_3b067_15 : decode cJ2_getChar_3b067 15 = .ok (.if_icmp .lt 13, 3) := by decide +kernel
theorem dJ2_getChar_3b067_18 : decode cJ2_getChar_3b067 18 = .ok (.new 52, 3) := by decide +kernel
theorem dJ2_getChar_3b067_21 : decode cJ2_getChar_3b067 21 = .ok (.dup, 1) := by decide +kernel
theorem dJ2_getChar_3b067_22 : decode cJ2_getChar_3b067 22 = .ok (.ldc 54, 2) := by decide +kernel
theorem dJ2_getChar_3b067_24 : decode cJ2_getChar_3b067 24 = .ok (.invokespecial 56, 3) := by decide +kernel
theorem dJ2_getChar_3b067_27 : decode cJ2_getChar_3b067 27 = .ok (.athrow, 1) := by decide +kernel
theorem dJ2_getChar_3b067_28 : decode cJ2_getChar_3b067 28 = .ok (.iload_n 1, 1) := by decide +kernel
theorem dJ2_getChar_3b067_29 : decode cJ2_getChar_3b067 29 = .ok (.iconst 1, 1) := by decide +kernel
theorem dJ2_getChar_3b067_30 : decode cJ2_getChar_3b067 30 = .ok (.ishl, 1) := by decide +kernel
theorem dJ2_getChar_3b067_31 : decode cJ2_getChar_3b067 31 = .ok (.istore_n 1, 1) := by decide +kernel
theorem dJ2_getChar_3b067_32 : decode cJ2_getChar_3b067 32 = .ok (.aload_n 0, 1) := by decide +kernel
theorem dJ2_getChar_3b067_33 : decode cJ2_getChar_3b067 33 = .ok (.iload_n 1, 1) := by decide +kernel
theorem dJ2_getChar_3b067_34 : decode cJ2_getChar_3b067 34 = .ok (.iinc 1 1, 3) := by decide +kernel
theorem dJ2_getChar_3b067_37 : decode cJ2_getChar_3b067 37 = .ok (.baload, 1) := by decide +kernel
theorem dJ2_getChar_3b067_38 : decode cJ2_getChar_3b067 38 = .ok (.sipush 255, 3) := by decide +kernel
theorem dJ2_getChar_3b067_41 : decode cJ2_getChar_3b067 41 = .ok (.iand, 1) := by decide +kernel
theorem dJ2_getChar_3b067_42 : decode cJ2_getChar_3b067 42 = .ok (.getstatic 59, 3) := by decide +kernel
theorem dJ2_getChar_3b067_45 : decode cJ2_getChar_3b067 45 = .ok (.ishl, 1) := by decide +kernel
theorem dJ2_getChar_3b067_46 : decode cJ2_getChar_3b067 46 = .ok (.aload_n 0, 1) := by decide +kernel
theorem dJ2_getChar_3b067_47 : decode cJ2_getChar_3b067 47 = .ok (.iload_n 1, 1) := by decide +kernel
theorem dJ2_getChar_3b067_48 : decode cJ2_getChar_3b067 48 = .ok (.baload, 1) := by decide +kernel
theorem dJ2_getChar_3b067_49 : decode cJ2_getChar_3b067 49 = .ok (.sipush 255, 3) := by decide +kernel
theorem dJ2_getChar_3b067_52 : decode cJ2_getChar_3b067 52 = .ok (.iand, 1) := by decide +kernel
theorem dJ2_getChar_3b067_53 : decode cJ2_getChar_3b067 53 = .ok (.getstatic 63, 3) := by decide +kernel
theorem dJ2_getChar_3b067_56 : decode cJ2_getChar_3b067 56 = .ok (.ishl, 1) := by decide +kernel
theorem dJ2_getChar_3b067_57 : decode cJ2_getChar_3b067 57 = .ok (.ior, 1) := by decide +kernel
theorem dJ2_getChar_3b067_58 : decode cJ2_getChar_3b067 58 = .ok (.i2c, 1) := by decide +kernel
theorem dJ2_getChar_3b067_59 : decode cJ2_getChar_3b067 59 = .ok (.ireturn, 1) := by decide +kernel
theorem dJ2_length_9d52b_0 : decode cJ2_length_9d52b 0 = .ok (.aload_n 0, 1) := by decide +kernel
theorem dJ2_length_9d52b_1 : decode cJ2_length_9d52b 1 = .ok (.arraylength, 1) := by decide +kernel
theorem dJ2_length_9d52b_2 : decode cJ2_length_9d52b 2 = .ok (.iconst 1, 1) := by decide +kernel
theorem dJ2_length_9d52b_3 : decode cJ2_length_9d52b 3 = .ok (.ishr, 1) := by decide +kernel
theorem dJ2_length_9d52b_4 : decode cJ2_length_9d52b 4 = .ok (.ireturn, 1) := by decide +kernel
theorem dJ2_charAt_3b067_0 : decode cJ2_charAt_3b067 0 = .ok (.iload_n 1, 1) := by decide +kernel
theorem dJ2_charAt_3b067_1 : decode cJ2_charAt_3b067 1 = .ok (.aload_n 0, 1) := by decide +kernel
theorem dJ2_charAt_3b067_2 : decode cJ2_charAt_3b067 2 = .ok (.invokestatic 67, 3) := by decide +kernel
theorem dJ2_charAt_3b067_5 : decode cJ2_charAt_3b067 5 = .ok (.aload_n 0, 1) := by decide +kernel
theorem dJ2_charAt_3b067_6 : decode cJ2_charAt_3b067 6 = .ok (.iload_n 1, 1) := by decide +kernel
theorem dJ2_charAt_3b067_7 : decode cJ2_charAt_3b067 7 = .ok (.invokestatic 71, 3) := by decide +kernel
theorem dJ2_charAt_3b067_10 : decode cJ2_charAt_3b067 10 = .ok (.ireturn, 1) := by decide +kernel
theorem dJ2_checkIndex_2214a_0 : decode cJ2_checkIndex_2214a 0 = .ok (.iload_n 0, 1) := by decide +kernel
theorem dJ2_checkIndex_2214a_1 : decode cJ2_checkIndex_2214a 1 = .ok (.aload_n 1, 1) := by decide +kernel
theorem dJ2_checkIndex_2214a_2 : decode cJ2_checkIndex_2214a 2 = .ok (.invokestatic 48, 3) := by decide +kernel
theorem dJ2_checkIndex_2214a_5 : decode cJ2_checkIndex_2214a 5 = .ok (.invokestatic 414, 3) := by decide +kernel
theorem dJ2_checkIndex_2214a_8 : decode cJ2_checkIndex_2214a 8 = .ok (.return_, 1) := by decide +kernel
theorem dJ3_checkIndex_8e157_0 : decode cJ3_checkIndex_8e157 0 = .ok (.iload_n 0, 1) := by decide +kernel
theorem dJ3_checkIndex_8e157_1 : decode cJ3_checkIndex_8e157 1 = .ok (.ifCond .lt 8, 3) := by decide +kernel
theorem dJ3_checkIndex_8e157_4 : decode cJ3_checkIndex_8e157 4 = .ok (.iload_n 0, 1) := by decide +kernel
theorem dJ3_checkIndex_8e157_5 : decode cJ3_checkIndex_8e157 5 = .ok (.iload_n 1, 1) := by decide +kernel
theorem dJ3_checkIndex_8e157_6 : decode cJ3_checkIndex_8e157 6 = .ok (.if_icmp .lt 10, 3) := by decide +kernel
theorem dJ3_checkIndex_8e157_9 : decode cJ3_checkIndex_8e157 9 = .ok (.aload_n 2, 1) := by decide +kernel
theorem dJ3_checkIndex_8e157_10 : decode cJ3_checkIndex_8e157 10 = .ok (.iload_n 0, 1) := by decide +kernel
theorem dJ3_checkIndex_8e157_11 : decode cJ3_checkIndex_8e157 11 = .ok (.iload_n 1, 1) := by decide +kernel
theorem dJ3_checkIndex_8e157_12 : decode cJ3_checkIndex_8e157 12 = .ok (.invokestatic 95, 3) := by decide +kernel
theorem dJ3_checkIndex_8e157_15 : decode cJ3_checkIndex_8e157 15 = .ok (.athrow, 1) := by decide +kernel
theorem dJ3_checkIndex_8e157_16 : decode cJ3_checkIndex_8e157 16 = .ok (.iload_n 0, 1) := by decide +kernel
theorem dJ3_checkIndex_8e157_17 : decode cJ3_checkIndex_8e157 17 = .ok (.ireturn, 1) := by decide +kernel
theorem dJ9_abs_0f7a4_0 : decode cJ9_abs_0f7a4 0 = .ok (.iload_n 0, 1) := by decide +kernel
theorem dJ9_abs_0f7a4_1 : decode cJ9_abs_0f7a4 1 = .ok (.ifCond .ge 8, 3) := by decide +kernel
theorem dJ9_abs_0f7a4_4 : decode cJ9_abs_0f7a4 4 = .ok (.iload_n 0, 1) := by decide +kernel
theorem dJ9_abs_0f7a4_5 : decode cJ9_abs_0f7a4 5 = .ok (.ineg, 1) := by decide +kernel
theorem dJ9_abs_0f7a4_6 : decode cJ9_abs_0f7a4 6 = .ok (.goto 4, 3) := by decide +kernel
theorem dJ9_abs_0f7a4_9 : decode cJ9_abs_0f7a4 9 = .ok (.iload_n 0, 1) := by decide +kernel
theorem dJ9_abs_0f7a4_10 : decode cJ9_abs_0f7a4 10 = .ok (.ireturn, 1) := by decide +kernel
theorem dJ9_max_7cf53_0 : decode cJ9_max_7cf53 0 = .ok (.iload_n 0, 1) := by decide +kernel
theorem dJ9_max_7cf53_1 : decode cJ9_max_7cf53 1 = .ok (.iload_n 1, 1) := by decide +kernel
theorem dJ9_max_7cf53_2 : decode cJ9_max_7cf53 2 = .ok (.if_icmp .lt 7, 3) := by decide +kernel
theorem dJ9_max_7cf53_5 : decode cJ9_max_7cf53 5 = .ok (.iload_n 0, 1) := by decide +kernel
theorem dJ9_max_7cf53_6 : decode cJ9_max_7cf53 6 = .ok (.goto 4, 3) := by decide +kernel
theorem dJ9_max_7cf53_9 : decode cJ9_max_7cf53 9 = .ok (.iload_n 1, 1) := by decide +kernel
theorem dJ9_max_7cf53_10 : decode cJ9_max_7cf53 10 = .ok (.ireturn, 1) := by decide +kernel
theorem dJ9_min_7cf53_0 : decode cJ9_min_7cf53 0 = .ok (.iload_n 0, 1) := by decide +kernel
theorem dJ9_min_7cf53_1 : decode cJ9_min_7cf53 1 = .ok (.iload_n 1, 1) := by decide +kernel
theorem dJ9_min_7cf53_2 : decode cJ9_min_7cf53 2 = .ok (.if_icmp .gt 7, 3) := by decide +kernel
theorem dJ9_min_7cf53_5 : decode cJ9_min_7cf53 5 = .ok (.iload_n 0, 1) := by decide +kernel
theorem dJ9_min_7cf53_6 : decode cJ9_min_7cf53 6 = .ok (.goto 4, 3) := by decide +kernel
theorem dJ9_min_7cf53_9 : decode cJ9_min_7cf53 9 = .ok (.iload_n 1, 1) := by decide +kernel
theorem dJ9_min_7cf53_10 : decode cJ9_min_7cf53 10 = .ok (.ireturn, 1) := by decide +kernel
theorem dJx00060_init_a7421_0 : decode cJx00060_init_a7421 0 = .ok (.aload_n 0, 1) := by decide +kernel
theorem dJx00060_init_a7421_1 : decode cJx00060_init_a7421 1 = .ok (.aload_n 1, 1) := by decide +kernel
theorem dJx00060_init_a7421_2 : decode cJx00060_init_a7421 2 = .ok (.invokespecial 7, 3) := by decide +kernel
theorem dJx00060_init_a7421_5 : decode cJx00060_init_a7421 5 = .ok (.return_, 1) := by decide +kernel
theorem dJxe99ae_isNaN_b9ae7_0 : decode cJxe99ae_isNaN_b9ae7 0 = .ok (.dload_n 0, 1) := by decide +kernel
theorem dJxe99ae_isNaN_b9ae7_1 : decode cJxe99ae_isNaN_b9ae7 1 = .ok (.dload_n 0, 1) := by decide +kernel
theorem dJxe99ae_isNaN_b9ae7_2 : decode cJxe99ae_isNaN_b9ae7 2 = .ok (.dcmp .l, 1) := by decide +kernel
theorem dJxe99ae_isNaN_b9ae7_3 : decode cJxe99ae_isNaN_b9ae7 3 = .ok (.ifCond .eq 7, 3) := by decide +kernel
theorem dJxe99ae_isNaN_b9ae7_6 : decode cJxe99ae_isNaN_b9ae7 6 = .ok (.iconst 1, 1) := by decide +kernel
theorem dJxe99ae_isNaN_b9ae7_7 : decode cJxe99ae_isNaN_b9ae7 7 = .ok (.goto 4, 3) := by decide +kernel
theorem dJxe99ae_isNaN_b9ae7_10 : decode cJxe99ae_isNaN_b9ae7 10 = .ok (.iconst 0, 1) := by decide +kernel
theorem dJxe99ae_isNaN_b9ae7_11 : decode cJxe99ae_isNaN_b9ae7 11 = .ok (.ireturn, 1) := by decide +kernel
theorem dJxe99ae_doubleToLongBits_ccdee_0 : decode cJxe99ae_doubleToLongBits_ccdee 0 = .ok (.dload_n 0, 1) := by decide +kernel
theorem dJxe99ae_doubleToLongBits_ccdee_1 : decode cJxe99ae_doubleToLongBits_ccdee 1 = .ok (.invokestatic 122, 3) := by decide +kernel
theorem dJxe99ae_doubleToLongBits_ccdee_4 : decode cJxe99ae_doubleToLongBits_ccdee 4 = .ok (.ifCond .ne 8, 3) := by decide +kernel
theorem dJxe99ae_doubleToLongBits_ccdee_7 : decode cJxe99ae_doubleToLongBits_ccdee 7 = .ok (.dload_n 0, 1) := by decide +kernel
theorem dJxe99ae_doubleToLongBits_ccdee_8 : decode cJxe99ae_doubleToLongBits_ccdee 8 = .ok (.invokestatic 134, 3) := by decide +kernel
theorem dJxe99ae_doubleToLongBits_ccdee_11 : decode cJxe99ae_doubleToLongBits_ccdee 11 = .ok (.lreturn, 1) := by decide +kernel
theorem dJxe99ae_doubleToLongBits_ccdee_12 : decode cJxe99ae_doubleToLongBits_ccdee 12 = .ok (.ldc2_w 137, 3) := by decide +kernel
theorem dJxe99ae_doubleToLongBits_ccdee_15 : decode cJxe99ae_doubleToLongBits_ccdee 15 = .ok (.lreturn, 1) := by decide +kernel
theorem dL_addProphet_0 : decode cL_addProphet 0 = .ok (.aload_n 3, 1) := by decide +kernel
theorem dL_addProphet_1 : decode cL_addProphet 1 = .ok (.iconst 0, 1) := by decide +kernel
theorem dL_addProphet_2 : decode cL_addProphet 2 = .ok (.aload_n 0, 1) := by decide +kernel
theorem dL_addProphet_3 : decode cL_addProphet 3 = .ok (.iload_n 1, 1) := by decide +kernel
theorem dL_addProphet_4 : decode cL_addProphet 4 = .ok (.iload_n 2, 1) := by decide +kernel
theorem dL_addProphet_5 : decode cL_addProphet 5 = .ok (.invokevirtual 7, 3) := by decide +kernel
theorem dL_addProphet_8 : decode cL_addProphet 8 = .ok (.i2l, 1) := by decide +kernel
theorem dL_addProphet_9 : decode cL_addProphet 9 = .ok (.lastore, 1) := by decide +kernel
theorem dL_addProphet_10 : decode cL_addProphet 10 = .ok (.goto 11, 3) := by decide +kernel
theorem dL_addProphet_13 : decode cL_addProphet 13 = .ok (.astore 4, 2) := by decide +kernel
theorem dL_addProphet_15 : decode cL_addProphet 15 = .ok (.iconst 1, 1) := by decide +kernel
theorem dL_addProphet_16 : decode cL_addProphet 16 = .ok (.ireturn, 1) := by decide +kernel
theorem dL_addProphet_17 : decode cL_addProphet 17 = .ok (.astore 4, 2) := by decide +kernel
theorem dL_addProphet_19 : decode cL_addProphet 19 = .ok (.iconst 2, 1) := by decide +kernel
theorem dL_addProphet_20 : decode cL_addProphet 20 = .ok (.ireturn, 1) := by decide +kernel
theorem dL_addProphet_21 : decode cL_addProphet 21 = .ok (.iconst 0, 1) := by decide +kernel
theorem dL_addProphet_22 : decode cL_addProphet 22 = .ok (.ireturn, 1) := by decide +kernel
theorem dL_observe_0 : decode cL_observe 0 = .ok (.aload_n 3, 1) := by decide +kernel
theorem dL_observe_1 : decode cL_observe 1 = .ok (.iconst 0, 1) := by decide +kernel
theorem dL_observe_2 : decode cL_observe 2 = .ok (.aload_n 0, 1) := by decide +kernel
theorem dL_observe_3 : decode cL_observe 3 = .ok (.iload_n 1, 1) := by decide +kernel
theorem dL_observe_4 : decode cL_observe 4 = .ok (.iload_n 2, 1) := by decide +kernel
theorem dL_observe_5 : decode cL_observe 5 = .ok (.invokevirtual 17, 3) := by decide +kernel
theorem dL_observe_8 : decode cL_observe 8 = .ok (.i2l, 1) := by decide +kernel
theorem dL_observe_9 : decode cL_observe 9 = .ok (.lastore, 1) := by decide +kernel
theorem dL_observe_10 : decode cL_observe 10 = .ok (.goto 15, 3) := by decide +kernel
theorem dL_observe_13 : decode cL_observe 13 = .ok (.astore 4, 2) := by decide +kernel
theorem dL_observe_15 : decode cL_observe 15 = .ok (.iconst 1, 1) := by decide +kernel
theorem dL_observe_16 : decode cL_observe 16 = .ok (.ireturn, 1) := by decide +kernel
theorem dL_observe_17 : decode cL_observe 17 = .ok (.astore 4, 2) := by decide +kernel
theorem dL_observe_19 : decode cL_observe 19 = .ok (.iconst 2, 1) := by decide +kernel
theorem dL_observe_20 : decode cL_observe 20 = .ok (.ireturn, 1) := by decide +kernel
theorem dL_observe_21 : decode cL_observe 21 = .ok (.astore 4, 2) := by decide +kernel
theorem dL_observe_23 : decode cL_observe 23 = .ok (.iconst 3, 1) := by decide +kernel
theorem dL_observe_24 : decode cL_observe 24 = .ok (.ireturn, 1) := by decide +kernel
theorem dL_observe_25 : decode cL_observe 25 = .ok (.iconst 0, 1) := by decide +kernel
theorem dL_observe_26 : decode cL_observe 26 = .ok (.ireturn, 1) := by decide +kernel
theorem dL_setLimit_0 : decode cL_setLimit 0 = .ok (.aload_n 2, 1) := by decide +kernel
theorem dL_setLimit_1 : decode cL_setLimit 1 = .ok (.iconst 0, 1) := by decide +kernel
theorem dL_setLimit_2 : decode cL_setLimit 2 = .ok (.aload_n 0, 1) := by decide +kernel
theorem dL_setLimit_3 : decode cL_setLimit 3 = .ok (.iload_n 1, 1) := by decide +kernel
theorem dL_setLimit_4 : decode cL_setLimit 4 = .ok (.invokevirtual 23, 3) := by decide +kernel
theorem dL_setLimit_7 : decode cL_setLimit 7 = .ok (.i2l, 1) := by decide +kernel
theorem dL_setLimit_8 : decode cL_setLimit 8 = .ok (.lastore, 1) := by decide +kernel
theorem dL_setLimit_9 : decode cL_setLimit 9 = .ok (.goto 6, 3) := by decide +kernel
theorem dL_setLimit_12 : decode cL_setLimit 12 = .ok (.astore_n 3, 1) := by decide +kernel
theorem dL_setLimit_13 : decode cL_setLimit 13 = .ok (.iconst 1, 1) := by decide +kernel
theorem dL_setLimit_14 : decode cL_setLimit 14 = .ok (.ireturn, 1) := by decide +kernel
theorem dL_setLimit_15 : decode cL_setLimit 15 = .ok (.iconst 0, 1) := by decide +kernel
theorem dL_setLimit_16 : decode cL_setLimit 16 = .ok (.ireturn, 1) := by decide +kernel
theorem dL_forget_0 : decode cL_forget 0 = .ok (.aload_n 2, 1) := by decide +kernel
theorem dL_forget_1 : decode cL_forget 1 = .ok (.iconst 0, 1) := by decide +kernel
theorem dL_forget_2 : decode cL_forget 2 = .ok (.aload_n 0, 1) := by decide +kernel
theorem dL_forget_3 : decode cL_forget 3 = .ok (.iload_n 1, 1) := by decide +kernel
theorem dL_forget_4 : decode cL_forget 4 = .ok (.invokevirtual 27, 3) := by decide +kernel
theorem dL_forget_7 : decode cL_forget 7 = .ok (.i2l, 1) := by decide +kernel
theorem dL_forget_8 : decode cL_forget 8 = .ok (.lastore, 1) := by decide +kernel
theorem dL_forget_9 : decode cL_forget 9 = .ok (.goto 6, 3) := by decide +kernel
theorem dL_forget_12 : decode cL_forget 12 = .ok (.astore_n 3, 1) := by decide +kernel
theorem dL_forget_13 : decode cL_forget 13 = .ok (.iconst 1, 1) := by decide +kernel
theorem dL_forget_14 : decode cL_forget 14 = .ok (.ireturn, 1) := by decide +kernel
theorem dL_forget_15 : decode cL_forget 15 = .ok (.iconst 0, 1) := by decide +kernel
theorem dL_forget_16 : decode cL_forget 16 = .ok (.ireturn, 1) := by decide +kernel
theorem dL_days_0 : decode cL_days 0 = .ok (.aload_n 2, 1) := by decide +kernel
theorem dL_days_1 : decode cL_days 1 = .ok (.iconst 0, 1) := by decide +kernel
theorem dL_days_2 : decode cL_days 2 = .ok (.aload_n 0, 1) := by decide +kernel
theorem dL_days_3 : decode cL_days 3 = .ok (.iload_n 1, 1) := by decide +kernel
theorem dL_days_4 : decode cL_days 4 = .ok (.invokevirtual 30, 3) := by decide +kernel
theorem dL_days_7 : decode cL_days 7 = .ok (.i2l, 1) := by decide +kernel
theorem dL_days_8 : decode cL_days 8 = .ok (.lastore, 1) := by decide +kernel
theorem dL_days_9 : decode cL_days 9 = .ok (.goto 6, 3) := by decide +kernel
theorem dL_days_12 : decode cL_days 12 = .ok (.astore_n 3, 1) := by decide +kernel
theorem dL_days_13 : decode cL_days 13 = .ok (.iconst 1, 1) := by decide +kernel
theorem dL_days_14 : decode cL_days 14 = .ok (.ireturn, 1) := by decide +kernel
theorem dL_days_15 : decode cL_days 15 = .ok (.iconst 0, 1) := by decide +kernel
theorem dL_days_16 : decode cL_days 16 = .ok (.ireturn, 1) := by decide +kernel
theorem dL_value_0 : decode cL_value 0 = .ok (.aload_n 3, 1) := by decide +kernel
theorem dL_value_1 : decode cL_value 1 = .ok (.iconst 0, 1) := by decide +kernel
theorem dL_value_2 : decode cL_value 2 = .ok (.aload_n 0, 1) := by decide +kernel
theorem dL_value_3 : decode cL_value 3 = .ok (.iload_n 1, 1) := by decide +kernel
theorem dL_value_4 : decode cL_value 4 = .ok (.iload_n 2, 1) := by decide +kernel
theorem dL_value_5 : decode cL_value 5 = .ok (.invokevirtual 33, 3) := by decide +kernel
theorem dL_value_8 : decode cL_value 8 = .ok (.i2l, 1) := by decide +kernel
theorem dL_value_9 : decode cL_value 9 = .ok (.lastore, 1) := by decide +kernel
theorem dL_value_10 : decode cL_value 10 = .ok (.goto 11, 3) := by decide +kernel
theorem dL_value_13 : decode cL_value 13 = .ok (.astore 4, 2) := by decide +kernel
theorem dL_value_15 : decode cL_value 15 = .ok (.iconst 1, 1) := by decide +kernel
theorem dL_value_16 : decode cL_value 16 = .ok (.ireturn, 1) := by decide +kernel
theorem dL_value_17 : decode cL_value 17 = .ok (.astore 4, 2) := by decide +kernel
theorem dL_value_19 : decode cL_value 19 = .ok (.iconst 2, 1) := by decide +kernel
theorem dL_value_20 : decode cL_value 20 = .ok (.ireturn, 1) := by decide +kernel
theorem dL_value_21 : decode cL_value 21 = .ok (.iconst 0, 1) := by decide +kernel
theorem dL_value_22 : decode cL_value 22 = .ok (.ireturn, 1) := by decide +kernel
theorem dL_range_0 : decode cL_range 0 = .ok (.aload_n 2, 1) := by decide +kernel
theorem dL_range_1 : decode cL_range 1 = .ok (.iconst 0, 1) := by decide +kernel
theorem dL_range_2 : decode cL_range 2 = .ok (.aload_n 0, 1) := by decide +kernel
theorem dL_range_3 : decode cL_range 3 = .ok (.iload_n 1, 1) := by decide +kernel
theorem dL_range_4 : decode cL_range 4 = .ok (.invokevirtual 38, 3) := by decide +kernel
theorem dL_range_7 : decode cL_range 7 = .ok (.i2l, 1) := by decide +kernel
theorem dL_range_8 : decode cL_range 8 = .ok (.lastore, 1) := by decide +kernel
theorem dL_range_9 : decode cL_range 9 = .ok (.goto 9, 3) := by decide +kernel
theorem dL_range_12 : decode cL_range 12 = .ok (.astore_n 3, 1) := by decide +kernel
theorem dL_range_13 : decode cL_range 13 = .ok (.iconst 1, 1) := by decide +kernel
theorem dL_range_14 : decode cL_range 14 = .ok (.ireturn, 1) := by decide +kernel
theorem dL_range_15 : decode cL_range 15 = .ok (.astore_n 3, 1) := by decide +kernel
theorem dL_range_16 : decode cL_range 16 = .ok (.iconst 2, 1) := by decide +kernel
theorem dL_range_17 : decode cL_range 17 = .ok (.ireturn, 1) := by decide +kernel
theorem dL_range_18 : decode cL_range 18 = .ok (.iconst 0, 1) := by decide +kernel
theorem dL_range_19 : decode cL_range 19 = .ok (.ireturn, 1) := by decide +kernel
theorem dL_movingAverage_0 : decode cL_movingAverage 0 = .ok (.aload_n 3, 1) := by decide +kernel
theorem dL_movingAverage_1 : decode cL_movingAverage 1 = .ok (.iconst 0, 1) := by decide +kernel
theorem dL_movingAverage_2 : decode cL_movingAverage 2 = .ok (.aload_n 0, 1) := by decide +kernel
theorem dL_movingAverage_3 : decode cL_movingAverage 3 = .ok (.iload_n 1, 1) := by decide +kernel
theorem dL_movingAverage_4 : decode cL_movingAverage 4 = .ok (.iload_n 2, 1) := by decide +kernel
theorem dL_movingAverage_5 : decode cL_movingAverage 5 = .ok (.invokevirtual 41, 3) := by decide +kernel
theorem dL_movingAverage_8 : decode cL_movingAverage 8 = .ok (.dastore, 1) := by decide +kernel
theorem dL_movingAverage_9 : decode cL_movingAverage 9 = .ok (.goto 15, 3) := by decide +kernel
theorem dL_movingAverage_12 : decode cL_movingAverage 12 = .ok (.astore 4, 2) := by decide +kernel
theorem dL_movingAverage_14 : decode cL_movingAverage 14 = .ok (.iconst 1, 1) := by decide +kernel
theorem dL_movingAverage_15 : decode cL_movingAverage 15 = .ok (.ireturn, 1) := by decide +kernel
theorem dL_movingAverage_16 : decode cL_movingAverage 16 = .ok (.astore 4, 2) := by decide +kernel
theorem dL_movingAverage_18 : decode cL_movingAverage 18 = .ok (.iconst 2, 1) := by decide +kernel
theorem dL_movingAverage_19 : decode cL_movingAverage 19 = .ok (.ireturn, 1) := by decide +kernel
theorem dL_movingAverage_20 : decode cL_movingAverage 20 = .ok (.astore 4, 2) := by decide +kernel
theorem dL_movingAverage_22 : decode cL_movingAverage 22 = .ok (.iconst 3, 1) := by decide +kernel
theorem dL_movingAverage_23 : decode cL_movingAverage 23 = .ok (.ireturn, 1) := by decide +kernel
theorem dL_movingAverage_24 : decode cL_movingAverage 24 = .ok (.iconst 0, 1) := by decide +kernel
theorem dL_movingAverage_25 : decode cL_movingAverage 25 = .ok (.ireturn, 1) := by decide +kernel
theorem dL_movingAverageBySums_0 : decode cL_movingAverageBySums 0 = .ok (.aload_n 3, 1) := by decide +kernel
theorem dL_movingAverageBySums_1 : decode cL_movingAverageBySums 1 = .ok (.iconst 0, 1) := by decide +kernel
theorem dL_movingAverageBySums_2 : decode cL_movingAverageBySums 2 = .ok (.aload_n 0, 1) := by decide +kernel
theorem dL_movingAverageBySums_3 : decode cL_movingAverageBySums 3 = .ok (.iload_n 1, 1) := by decide +kernel
theorem dL_movingAverageBySums_4 : decode cL_movingAverageBySums 4 = .ok (.iload_n 2, 1) := by decide +kernel
theorem dL_movingAverageBySums_5 : decode cL_movingAverageBySums 5 = .ok (.invokevirtual 45, 3) := by decide +kernel
theorem dL_movingAverageBySums_8 : decode cL_movingAverageBySums 8 = .ok (.dastore, 1) := by decide +kernel
theorem dL_movingAverageBySums_9 : decode cL_movingAverageBySums 9 = .ok (.goto 15, 3) := by decide +kernel
theorem dL_movingAverageBySums_12 : decode cL_movingAverageBySums 12 = .ok (.astore 4, 2) := by decide +kernel
theorem dL_movingAverageBySums_14 : decode cL_movingAverageBySums 14 = .ok (.iconst 1, 1) := by decide +kernel
theorem dL_movingAverageBySums_15 : decode cL_movingAverageBySums 15 = .ok (.ireturn, 1) := by decide +kernel
theorem dL_movingAverageBySums_16 : decode cL_movingAverageBySums 16 = .ok (.astore 4, 2) := by decide +kernel
theorem dL_movingAverageBySums_18 : decode cL_movingAverageBySums 18 = .ok (.iconst 2, 1) := by decide +kernel
theorem dL_movingAverageBySums_19 : decode cL_movingAverageBySums 19 = .ok (.ireturn, 1) := by decide +kernel
theorem dL_movingAverageBySums_20 : decode cL_movingAverageBySums 20 = .ok (.astore 4, 2) := by decide +kernel
theorem dL_movingAverageBySums_22 : decode cL_movingAverageBySums 22 = .ok (.iconst 3, 1) := by decide +kernel
theorem dL_movingAverageBySums_23 : decode cL_movingAverageBySums 23 = .ok (.ireturn, 1) := by decide +kernel
theorem dL_movingAverageBySums_24 : decode cL_movingAverageBySums 24 = .ok (.iconst 0, 1) := by decide +kernel
theorem dL_movingAverageBySums_25 : decode cL_movingAverageBySums 25 = .ok (.ireturn, 1) := by decide +kernel
theorem dL_median_0 : decode cL_median 0 = .ok (.aload_n 3, 1) := by decide +kernel
theorem dL_median_1 : decode cL_median 1 = .ok (.iconst 0, 1) := by decide +kernel
theorem dL_median_2 : decode cL_median 2 = .ok (.aload_n 0, 1) := by decide +kernel
theorem dL_median_3 : decode cL_median 3 = .ok (.iload_n 1, 1) := by decide +kernel
theorem dL_median_4 : decode cL_median 4 = .ok (.iload_n 2, 1) := by decide +kernel
theorem dL_median_5 : decode cL_median 5 = .ok (.invokevirtual 48, 3) := by decide +kernel
theorem dL_median_8 : decode cL_median 8 = .ok (.i2l, 1) := by decide +kernel
theorem dL_median_9 : decode cL_median 9 = .ok (.lastore, 1) := by decide +kernel
theorem dL_median_10 : decode cL_median 10 = .ok (.goto 15, 3) := by decide +kernel
theorem dL_median_13 : decode cL_median 13 = .ok (.astore 4, 2) := by decide +kernel
theorem dL_median_15 : decode cL_median 15 = .ok (.iconst 1, 1) := by decide +kernel
theorem dL_median_16 : decode cL_median 16 = .ok (.ireturn, 1) := by decide +kernel
theorem dL_median_17 : decode cL_median 17 = .ok (.astore 4, 2) := by decide +kernel
theorem dL_median_19 : decode cL_median 19 = .ok (.iconst 2, 1) := by decide +kernel
theorem dL_median_20 : decode cL_median 20 = .ok (.ireturn, 1) := by decide +kernel
theorem dL_median_21 : decode cL_median 21 = .ok (.astore 4, 2) := by decide +kernel
theorem dL_median_23 : decode cL_median 23 = .ok (.iconst 3, 1) := by decide +kernel
theorem dL_median_24 : decode cL_median 24 = .ok (.ireturn, 1) := by decide +kernel
theorem dL_median_25 : decode cL_median 25 = .ok (.iconst 0, 1) := by decide +kernel
theorem dL_median_26 : decode cL_median 26 = .ok (.ireturn, 1) := by decide +kernel
theorem dL_medianByCounting_0 : decode cL_medianByCounting 0 = .ok (.aload_n 3, 1) := by decide +kernel
theorem dL_medianByCounting_1 : decode cL_medianByCounting 1 = .ok (.iconst 0, 1) := by decide +kernel
theorem dL_medianByCounting_2 : decode cL_medianByCounting 2 = .ok (.aload_n 0, 1) := by decide +kernel
theorem dL_medianByCounting_3 : decode cL_medianByCounting 3 = .ok (.iload_n 1, 1) := by decide +kernel
theorem dL_medianByCounting_4 : decode cL_medianByCounting 4 = .ok (.iload_n 2, 1) := by decide +kernel
theorem dL_medianByCounting_5 : decode cL_medianByCounting 5 = .ok (.invokevirtual 51, 3) := by decide +kernel
theorem dL_medianByCounting_8 : decode cL_medianByCounting 8 = .ok (.i2l, 1) := by decide +kernel
theorem dL_medianByCounting_9 : decode cL_medianByCounting 9 = .ok (.lastore, 1) := by decide +kernel
theorem dL_medianByCounting_10 : decode cL_medianByCounting 10 = .ok (.goto 15, 3) := by decide +kernel
theorem dL_medianByCounting_13 : decode cL_medianByCounting 13 = .ok (.astore 4, 2) := by decide +kernel
theorem dL_medianByCounting_15 : decode cL_medianByCounting 15 = .ok (.iconst 1, 1) := by decide +kernel
theorem dL_medianByCounting_16 : decode cL_medianByCounting 16 = .ok (.ireturn, 1) := by decide +kernel
theorem dL_medianByCounting_17 : decode cL_medianByCounting 17 = .ok (.astore 4, 2) := by decide +kernel
theorem dL_medianByCounting_19 : decode cL_medianByCounting 19 = .ok (.iconst 2, 1) := by decide +kernel
theorem dL_medianByCounting_20 : decode cL_medianByCounting 20 = .ok (.ireturn, 1) := by decide +kernel
theorem dL_medianByCounting_21 : decode cL_medianByCounting 21 = .ok (.astore 4, 2) := by decide +kernel
theorem dL_medianByCounting_23 : decode cL_medianByCounting 23 = .ok (.iconst 3, 1) := by decide +kernel
theorem dL_medianByCounting_24 : decode cL_medianByCounting 24 = .ok (.ireturn, 1) := by decide +kernel
theorem dL_medianByCounting_25 : decode cL_medianByCounting 25 = .ok (.iconst 0, 1) := by decide +kernel
theorem dL_medianByCounting_26 : decode cL_medianByCounting 26 = .ok (.ireturn, 1) := by decide +kernel
theorem dL_smoothed_0 : decode cL_smoothed 0 = .ok (.aload_n 3, 1) := by decide +kernel
theorem dL_smoothed_1 : decode cL_smoothed 1 = .ok (.iconst 0, 1) := by decide +kernel
theorem dL_smoothed_2 : decode cL_smoothed 2 = .ok (.aload_n 0, 1) := by decide +kernel
theorem dL_smoothed_3 : decode cL_smoothed 3 = .ok (.iload_n 1, 1) := by decide +kernel
theorem dL_smoothed_4 : decode cL_smoothed 4 = .ok (.iload_n 2, 1) := by decide +kernel
theorem dL_smoothed_5 : decode cL_smoothed 5 = .ok (.invokevirtual 54, 3) := by decide +kernel
theorem dL_smoothed_8 : decode cL_smoothed 8 = .ok (.dastore, 1) := by decide +kernel
theorem dL_smoothed_9 : decode cL_smoothed 9 = .ok (.goto 15, 3) := by decide +kernel
theorem dL_smoothed_12 : decode cL_smoothed 12 = .ok (.astore 4, 2) := by decide +kernel
theorem dL_smoothed_14 : decode cL_smoothed 14 = .ok (.iconst 1, 1) := by decide +kernel
theorem dL_smoothed_15 : decode cL_smoothed 15 = .ok (.ireturn, 1) := by decide +kernel
theorem dL_smoothed_16 : decode cL_smoothed 16 = .ok (.astore 4, 2) := by decide +kernel
theorem dL_smoothed_18 : decode cL_smoothed 18 = .ok (.iconst 2, 1) := by decide +kernel
theorem dL_smoothed_19 : decode cL_smoothed 19 = .ok (.ireturn, 1) := by decide +kernel
theorem dL_smoothed_20 : decode cL_smoothed 20 = .ok (.astore 4, 2) := by decide +kernel
theorem dL_smoothed_22 : decode cL_smoothed 22 = .ok (.iconst 3, 1) := by decide +kernel
theorem dL_smoothed_23 : decode cL_smoothed 23 = .ok (.ireturn, 1) := by decide +kernel
theorem dL_smoothed_24 : decode cL_smoothed 24 = .ok (.iconst 0, 1) := by decide +kernel
theorem dL_smoothed_25 : decode cL_smoothed 25 = .ok (.ireturn, 1) := by decide +kernel
theorem dL_isOutlier_0 : decode cL_isOutlier 0 = .ok (.aload_n 3, 1) := by decide +kernel
theorem dL_isOutlier_1 : decode cL_isOutlier 1 = .ok (.iconst 0, 1) := by decide +kernel
theorem dL_isOutlier_2 : decode cL_isOutlier 2 = .ok (.aload_n 0, 1) := by decide +kernel
theorem dL_isOutlier_3 : decode cL_isOutlier 3 = .ok (.iload_n 1, 1) := by decide +kernel
theorem dL_isOutlier_4 : decode cL_isOutlier 4 = .ok (.iload_n 2, 1) := by decide +kernel
theorem dL_isOutlier_5 : decode cL_isOutlier 5 = .ok (.invokevirtual 57, 3) := by decide +kernel
theorem dL_isOutlier_8 : decode cL_isOutlier 8 = .ok (.ifCond .eq 7, 3) := by decide +kernel
theorem dL_isOutlier_11 : decode cL_isOutlier 11 = .ok (.lconst 1, 1) := by decide +kernel
theorem dL_isOutlier_12 : decode cL_isOutlier 12 = .ok (.goto 4, 3) := by decide +kernel
theorem dL_isOutlier_15 : decode cL_isOutlier 15 = .ok (.lconst 0, 1) := by decide +kernel
theorem dL_isOutlier_16 : decode cL_isOutlier 16 = .ok (.lastore, 1) := by decide +kernel
theorem dL_isOutlier_17 : decode cL_isOutlier 17 = .ok (.goto 11, 3) := by decide +kernel
theorem dL_isOutlier_20 : decode cL_isOutlier 20 = .ok (.astore 4, 2) := by decide +kernel
theorem dL_isOutlier_22 : decode cL_isOutlier 22 = .ok (.iconst 1, 1) := by decide +kernel
theorem dL_isOutlier_23 : decode cL_isOutlier 23 = .ok (.ireturn, 1) := by decide +kernel
theorem dL_isOutlier_24 : decode cL_isOutlier 24 = .ok (.astore 4, 2) := by decide +kernel
theorem dL_isOutlier_26 : decode cL_isOutlier 26 = .ok (.iconst 2, 1) := by decide +kernel
theorem dL_isOutlier_27 : decode cL_isOutlier 27 = .ok (.ireturn, 1) := by decide +kernel
theorem dL_isOutlier_28 : decode cL_isOutlier 28 = .ok (.iconst 0, 1) := by decide +kernel
theorem dL_isOutlier_29 : decode cL_isOutlier 29 = .ok (.ireturn, 1) := by decide +kernel
theorem dL_outliers_0 : decode cL_outliers 0 = .ok (.aload_n 2, 1) := by decide +kernel
theorem dL_outliers_1 : decode cL_outliers 1 = .ok (.iconst 0, 1) := by decide +kernel
theorem dL_outliers_2 : decode cL_outliers 2 = .ok (.aload_n 0, 1) := by decide +kernel
theorem dL_outliers_3 : decode cL_outliers 3 = .ok (.iload_n 1, 1) := by decide +kernel
theorem dL_outliers_4 : decode cL_outliers 4 = .ok (.invokevirtual 61, 3) := by decide +kernel
theorem dL_outliers_7 : decode cL_outliers 7 = .ok (.i2l, 1) := by decide +kernel
theorem dL_outliers_8 : decode cL_outliers 8 = .ok (.lastore, 1) := by decide +kernel
theorem dL_outliers_9 : decode cL_outliers 9 = .ok (.goto 6, 3) := by decide +kernel
theorem dL_outliers_12 : decode cL_outliers 12 = .ok (.astore_n 3, 1) := by decide +kernel
theorem dL_outliers_13 : decode cL_outliers 13 = .ok (.iconst 1, 1) := by decide +kernel
theorem dL_outliers_14 : decode cL_outliers 14 = .ok (.ireturn, 1) := by decide +kernel
theorem dL_outliers_15 : decode cL_outliers 15 = .ok (.iconst 0, 1) := by decide +kernel
theorem dL_outliers_16 : decode cL_outliers 16 = .ok (.ireturn, 1) := by decide +kernel
theorem dL_longestRise_0 : decode cL_longestRise 0 = .ok (.aload_n 2, 1) := by decide +kernel
theorem dL_longestRise_1 : decode cL_longestRise 1 = .ok (.iconst 0, 1) := by decide +kernel
theorem dL_longestRise_2 : decode cL_longestRise 2 = .ok (.aload_n 0, 1) := by decide +kernel
theorem dL_longestRise_3 : decode cL_longestRise 3 = .ok (.iload_n 1, 1) := by decide +kernel
theorem dL_longestRise_4 : decode cL_longestRise 4 = .ok (.invokevirtual 64, 3) := by decide +kernel
theorem dL_longestRise_7 : decode cL_longestRise 7 = .ok (.i2l, 1) := by decide +kernel
theorem dL_longestRise_8 : decode cL_longestRise 8 = .ok (.lastore, 1) := by decide +kernel
theorem dL_longestRise_9 : decode cL_longestRise 9 = .ok (.goto 6, 3) := by decide +kernel
theorem dL_longestRise_12 : decode cL_longestRise 12 = .ok (.astore_n 3, 1) := by decide +kernel
theorem dL_longestRise_13 : decode cL_longestRise 13 = .ok (.iconst 1, 1) := by decide +kernel
theorem dL_longestRise_14 : decode cL_longestRise 14 = .ok (.ireturn, 1) := by decide +kernel
theorem dL_longestRise_15 : decode cL_longestRise 15 = .ok (.iconst 0, 1) := by decide +kernel
theorem dL_longestRise_16 : decode cL_longestRise 16 = .ok (.ireturn, 1) := by decide +kernel
theorem dL_valuesBetween_0 : decode cL_valuesBetween 0 = .ok (.aload 4, 2) := by decide +kernel
theorem dL_valuesBetween_2 : decode cL_valuesBetween 2 = .ok (.iconst 0, 1) := by decide +kernel
theorem dL_valuesBetween_3 : decode cL_valuesBetween 3 = .ok (.aload_n 0, 1) := by decide +kernel
theorem dL_valuesBetween_4 : decode cL_valuesBetween 4 = .ok (.iload_n 1, 1) := by decide +kernel
theorem dL_valuesBetween_5 : decode cL_valuesBetween 5 = .ok (.iload_n 2, 1) := by decide +kernel
theorem dL_valuesBetween_6 : decode cL_valuesBetween 6 = .ok (.iload_n 3, 1) := by decide +kernel
theorem dL_valuesBetween_7 : decode cL_valuesBetween 7 = .ok (.invokevirtual 67, 3) := by decide +kernel
theorem dL_valuesBetween_10 : decode cL_valuesBetween 10 = .ok (.i2l, 1) := by decide +kernel
theorem dL_valuesBetween_11 : decode cL_valuesBetween 11 = .ok (.lastore, 1) := by decide +kernel
theorem dL_valuesBetween_12 : decode cL_valuesBetween 12 = .ok (.goto 7, 3) := by decide +kernel
theorem dL_valuesBetween_15 : decode cL_valuesBetween 15 = .ok (.astore 5, 2) := by decide +kernel
theorem dL_valuesBetween_17 : decode cL_valuesBetween 17 = .ok (.iconst 1, 1) := by decide +kernel
theorem dL_valuesBetween_18 : decode cL_valuesBetween 18 = .ok (.ireturn, 1) := by decide +kernel
theorem dL_valuesBetween_19 : decode cL_valuesBetween 19 = .ok (.iconst 0, 1) := by decide +kernel
theorem dL_valuesBetween_20 : decode cL_valuesBetween 20 = .ok (.ireturn, 1) := by decide +kernel
theorem dL_kind_0 : decode cL_kind 0 = .ok (.aload_n 2, 1) := by decide +kernel
theorem dL_kind_1 : decode cL_kind 1 = .ok (.iconst 0, 1) := by decide +kernel
theorem dL_kind_2 : decode cL_kind 2 = .ok (.aload_n 0, 1) := by decide +kernel
theorem dL_kind_3 : decode cL_kind 3 = .ok (.iload_n 1, 1) := by decide +kernel
theorem dL_kind_4 : decode cL_kind 4 = .ok (.invokevirtual 71, 3) := by decide +kernel
theorem dL_kind_7 : decode cL_kind 7 = .ok (.i2l, 1) := by decide +kernel
theorem dL_kind_8 : decode cL_kind 8 = .ok (.lastore, 1) := by decide +kernel
theorem dL_kind_9 : decode cL_kind 9 = .ok (.goto 6, 3) := by decide +kernel
theorem dL_kind_12 : decode cL_kind 12 = .ok (.astore_n 3, 1) := by decide +kernel
theorem dL_kind_13 : decode cL_kind 13 = .ok (.iconst 1, 1) := by decide +kernel
theorem dL_kind_14 : decode cL_kind 14 = .ok (.ireturn, 1) := by decide +kernel
theorem dL_kind_15 : decode cL_kind 15 = .ok (.iconst 0, 1) := by decide +kernel
theorem dL_kind_16 : decode cL_kind 16 = .ok (.ireturn, 1) := by decide +kernel
theorem dL_parameter_0 : decode cL_parameter 0 = .ok (.aload_n 2, 1) := by decide +kernel
theorem dL_parameter_1 : decode cL_parameter 1 = .ok (.iconst 0, 1) := by decide +kernel
theorem dL_parameter_2 : decode cL_parameter 2 = .ok (.aload_n 0, 1) := by decide +kernel
theorem dL_parameter_3 : decode cL_parameter 3 = .ok (.iload_n 1, 1) := by decide +kernel
theorem dL_parameter_4 : decode cL_parameter 4 = .ok (.invokevirtual 75, 3) := by decide +kernel
theorem dL_parameter_7 : decode cL_parameter 7 = .ok (.i2l, 1) := by decide +kernel
theorem dL_parameter_8 : decode cL_parameter 8 = .ok (.lastore, 1) := by decide +kernel
theorem dL_parameter_9 : decode cL_parameter 9 = .ok (.goto 6, 3) := by decide +kernel
theorem dL_parameter_12 : decode cL_parameter 12 = .ok (.astore_n 3, 1) := by decide +kernel
theorem dL_parameter_13 : decode cL_parameter 13 = .ok (.iconst 1, 1) := by decide +kernel
theorem dL_parameter_14 : decode cL_parameter 14 = .ok (.ireturn, 1) := by decide +kernel
theorem dL_parameter_15 : decode cL_parameter 15 = .ok (.iconst 0, 1) := by decide +kernel
theorem dL_parameter_16 : decode cL_parameter 16 = .ok (.ireturn, 1) := by decide +kernel
theorem dL_hasForecast_0 : decode cL_hasForecast 0 = .ok (.aload_n 3, 1) := by decide +kernel
theorem dL_hasForecast_1 : decode cL_hasForecast 1 = .ok (.iconst 0, 1) := by decide +kernel
theorem dL_hasForecast_2 : decode cL_hasForecast 2 = .ok (.aload_n 0, 1) := by decide +kernel
theorem dL_hasForecast_3 : decode cL_hasForecast 3 = .ok (.iload_n 1, 1) := by decide +kernel
theorem dL_hasForecast_4 : decode cL_hasForecast 4 = .ok (.iload_n 2, 1) := by decide +kernel
theorem dL_hasForecast_5 : decode cL_hasForecast 5 = .ok (.invokevirtual 78, 3) := by decide +kernel
theorem dL_hasForecast_8 : decode cL_hasForecast 8 = .ok (.ifCond .eq 7, 3) := by decide +kernel
theorem dL_hasForecast_11 : decode cL_hasForecast 11 = .ok (.lconst 1, 1) := by decide +kernel
theorem dL_hasForecast_12 : decode cL_hasForecast 12 = .ok (.goto 4, 3) := by decide +kernel
theorem dL_hasForecast_15 : decode cL_hasForecast 15 = .ok (.lconst 0, 1) := by decide +kernel
theorem dL_hasForecast_16 : decode cL_hasForecast 16 = .ok (.lastore, 1) := by decide +kernel
theorem dL_hasForecast_17 : decode cL_hasForecast 17 = .ok (.goto 7, 3) := by decide +kernel
theorem dL_hasForecast_20 : decode cL_hasForecast 20 = .ok (.astore 4, 2) := by decide +kernel
theorem dL_hasForecast_22 : decode cL_hasForecast 22 = .ok (.iconst 1, 1) := by decide +kernel
theorem dL_hasForecast_23 : decode cL_hasForecast 23 = .ok (.ireturn, 1) := by decide +kernel
theorem dL_hasForecast_24 : decode cL_hasForecast 24 = .ok (.iconst 0, 1) := by decide +kernel
theorem dL_hasForecast_25 : decode cL_hasForecast 25 = .ok (.ireturn, 1) := by decide +kernel
theorem dL_forecast_0 : decode cL_forecast 0 = .ok (.aload_n 3, 1) := by decide +kernel
theorem dL_forecast_1 : decode cL_forecast 1 = .ok (.iconst 0, 1) := by decide +kernel
theorem dL_forecast_2 : decode cL_forecast 2 = .ok (.aload_n 0, 1) := by decide +kernel
theorem dL_forecast_3 : decode cL_forecast 3 = .ok (.iload_n 1, 1) := by decide +kernel
theorem dL_forecast_4 : decode cL_forecast 4 = .ok (.iload_n 2, 1) := by decide +kernel
theorem dL_forecast_5 : decode cL_forecast 5 = .ok (.invokevirtual 81, 3) := by decide +kernel
theorem dL_forecast_8 : decode cL_forecast 8 = .ok (.dastore, 1) := by decide +kernel
theorem dL_forecast_9 : decode cL_forecast 9 = .ok (.goto 11, 3) := by decide +kernel
theorem dL_forecast_12 : decode cL_forecast 12 = .ok (.astore 4, 2) := by decide +kernel
theorem dL_forecast_14 : decode cL_forecast 14 = .ok (.iconst 1, 1) := by decide +kernel
theorem dL_forecast_15 : decode cL_forecast 15 = .ok (.ireturn, 1) := by decide +kernel
theorem dL_forecast_16 : decode cL_forecast 16 = .ok (.astore 4, 2) := by decide +kernel
theorem dL_forecast_18 : decode cL_forecast 18 = .ok (.iconst 2, 1) := by decide +kernel
theorem dL_forecast_19 : decode cL_forecast 19 = .ok (.ireturn, 1) := by decide +kernel
theorem dL_forecast_20 : decode cL_forecast 20 = .ok (.iconst 0, 1) := by decide +kernel
theorem dL_forecast_21 : decode cL_forecast 21 = .ok (.ireturn, 1) := by decide +kernel
theorem dL_forecastBits_0 : decode cL_forecastBits 0 = .ok (.aload_n 3, 1) := by decide +kernel
theorem dL_forecastBits_1 : decode cL_forecastBits 1 = .ok (.iconst 0, 1) := by decide +kernel
theorem dL_forecastBits_2 : decode cL_forecastBits 2 = .ok (.aload_n 0, 1) := by decide +kernel
theorem dL_forecastBits_3 : decode cL_forecastBits 3 = .ok (.iload_n 1, 1) := by decide +kernel
theorem dL_forecastBits_4 : decode cL_forecastBits 4 = .ok (.iload_n 2, 1) := by decide +kernel
theorem dL_forecastBits_5 : decode cL_forecastBits 5 = .ok (.invokevirtual 84, 3) := by decide +kernel
theorem dL_forecastBits_8 : decode cL_forecastBits 8 = .ok (.lastore, 1) := by decide +kernel
theorem dL_forecastBits_9 : decode cL_forecastBits 9 = .ok (.goto 11, 3) := by decide +kernel
theorem dL_forecastBits_12 : decode cL_forecastBits 12 = .ok (.astore 4, 2) := by decide +kernel
theorem dL_forecastBits_14 : decode cL_forecastBits 14 = .ok (.iconst 1, 1) := by decide +kernel
theorem dL_forecastBits_15 : decode cL_forecastBits 15 = .ok (.ireturn, 1) := by decide +kernel
theorem dL_forecastBits_16 : decode cL_forecastBits 16 = .ok (.astore 4, 2) := by decide +kernel
theorem dL_forecastBits_18 : decode cL_forecastBits 18 = .ok (.iconst 2, 1) := by decide +kernel
theorem dL_forecastBits_19 : decode cL_forecastBits 19 = .ok (.ireturn, 1) := by decide +kernel
theorem dL_forecastBits_20 : decode cL_forecastBits 20 = .ok (.iconst 0, 1) := by decide +kernel
theorem dL_forecastBits_21 : decode cL_forecastBits 21 = .ok (.ireturn, 1) := by decide +kernel
theorem dL_errors_0 : decode cL_errors 0 = .ok (.aload_n 3, 1) := by decide +kernel
theorem dL_errors_1 : decode cL_errors 1 = .ok (.iconst 0, 1) := by decide +kernel
theorem dL_errors_2 : decode cL_errors 2 = .ok (.aload_n 0, 1) := by decide +kernel
theorem dL_errors_3 : decode cL_errors 3 = .ok (.iload_n 1, 1) := by decide +kernel
theorem dL_errors_4 : decode cL_errors 4 = .ok (.iload_n 2, 1) := by decide +kernel
theorem dL_errors_5 : decode cL_errors 5 = .ok (.invokevirtual 88, 3) := by decide +kernel
theorem dL_errors_8 : decode cL_errors 8 = .ok (.i2l, 1) := by decide +kernel
theorem dL_errors_9 : decode cL_errors 9 = .ok (.lastore, 1) := by decide +kernel
theorem dL_errors_10 : decode cL_errors 10 = .ok (.goto 7, 3) := by decide +kernel
theorem dL_errors_13 : decode cL_errors 13 = .ok (.astore 4, 2) := by decide +kernel
theorem dL_errors_15 : decode cL_errors 15 = .ok (.iconst 1, 1) := by decide +kernel
theorem dL_errors_16 : decode cL_errors 16 = .ok (.ireturn, 1) := by decide +kernel
theorem dL_errors_17 : decode cL_errors 17 = .ok (.iconst 0, 1) := by decide +kernel
theorem dL_errors_18 : decode cL_errors 18 = .ok (.ireturn, 1) := by decide +kernel
theorem dL_errorSum_0 : decode cL_errorSum 0 = .ok (.aload_n 3, 1) := by decide +kernel
theorem dL_errorSum_1 : decode cL_errorSum 1 = .ok (.iconst 0, 1) := by decide +kernel
theorem dL_errorSum_2 : decode cL_errorSum 2 = .ok (.aload_n 0, 1) := by decide +kernel
theorem dL_errorSum_3 : decode cL_errorSum 3 = .ok (.iload_n 1, 1) := by decide +kernel
theorem dL_errorSum_4 : decode cL_errorSum 4 = .ok (.iload_n 2, 1) := by decide +kernel
theorem dL_errorSum_5 : decode cL_errorSum 5 = .ok (.invokevirtual 91, 3) := by decide +kernel
theorem dL_errorSum_8 : decode cL_errorSum 8 = .ok (.dastore, 1) := by decide +kernel
theorem dL_errorSum_9 : decode cL_errorSum 9 = .ok (.goto 7, 3) := by decide +kernel
theorem dL_errorSum_12 : decode cL_errorSum 12 = .ok (.astore 4, 2) := by decide +kernel
theorem dL_errorSum_14 : decode cL_errorSum 14 = .ok (.iconst 1, 1) := by decide +kernel
theorem dL_errorSum_15 : decode cL_errorSum 15 = .ok (.ireturn, 1) := by decide +kernel
theorem dL_errorSum_16 : decode cL_errorSum 16 = .ok (.iconst 0, 1) := by decide +kernel
theorem dL_errorSum_17 : decode cL_errorSum 17 = .ok (.ireturn, 1) := by decide +kernel
theorem dL_errorSumByBacktest_0 : decode cL_errorSumByBacktest 0 = .ok (.aload_n 3, 1) := by decide +kernel
theorem dL_errorSumByBacktest_1 : decode cL_errorSumByBacktest 1 = .ok (.iconst 0, 1) := by decide +kernel
theorem dL_errorSumByBacktest_2 : decode cL_errorSumByBacktest 2 = .ok (.aload_n 0, 1) := by decide +kernel
theorem dL_errorSumByBacktest_3 : decode cL_errorSumByBacktest 3 = .ok (.iload_n 1, 1) := by decide +kernel
theorem dL_errorSumByBacktest_4 : decode cL_errorSumByBacktest 4 = .ok (.iload_n 2, 1) := by decide +kernel
theorem dL_errorSumByBacktest_5 : decode cL_errorSumByBacktest 5 = .ok (.invokevirtual 94, 3) := by decide +kernel
theorem dL_errorSumByBacktest_8 : decode cL_errorSumByBacktest 8 = .ok (.dastore, 1) := by decide +kernel
theorem dL_errorSumByBacktest_9 : decode cL_errorSumByBacktest 9 = .ok (.goto 7, 3) := by decide +kernel
theorem dL_errorSumByBacktest_12 : decode cL_errorSumByBacktest 12 = .ok (.astore 4, 2) := by decide +kernel
theorem dL_errorSumByBacktest_14 : decode cL_errorSumByBacktest 14 = .ok (.iconst 1, 1) := by decide +kernel
theorem dL_errorSumByBacktest_15 : decode cL_errorSumByBacktest 15 = .ok (.ireturn, 1) := by decide +kernel
theorem dL_errorSumByBacktest_16 : decode cL_errorSumByBacktest 16 = .ok (.iconst 0, 1) := by decide +kernel
theorem dL_errorSumByBacktest_17 : decode cL_errorSumByBacktest 17 = .ok (.ireturn, 1) := by decide +kernel
theorem dL_points_0 : decode cL_points 0 = .ok (.aload_n 3, 1) := by decide +kernel
theorem dL_points_1 : decode cL_points 1 = .ok (.iconst 0, 1) := by decide +kernel
theorem dL_points_2 : decode cL_points 2 = .ok (.aload_n 0, 1) := by decide +kernel
theorem dL_points_3 : decode cL_points 3 = .ok (.iload_n 1, 1) := by decide +kernel
theorem dL_points_4 : decode cL_points 4 = .ok (.iload_n 2, 1) := by decide +kernel
theorem dL_points_5 : decode cL_points 5 = .ok (.invokevirtual 97, 3) := by decide +kernel
theorem dL_points_8 : decode cL_points 8 = .ok (.i2l, 1) := by decide +kernel
theorem dL_points_9 : decode cL_points 9 = .ok (.lastore, 1) := by decide +kernel
theorem dL_points_10 : decode cL_points 10 = .ok (.goto 7, 3) := by decide +kernel
theorem dL_points_13 : decode cL_points 13 = .ok (.astore 4, 2) := by decide +kernel
theorem dL_points_15 : decode cL_points 15 = .ok (.iconst 1, 1) := by decide +kernel
theorem dL_points_16 : decode cL_points 16 = .ok (.ireturn, 1) := by decide +kernel
theorem dL_points_17 : decode cL_points 17 = .ok (.iconst 0, 1) := by decide +kernel
theorem dL_points_18 : decode cL_points 18 = .ok (.ireturn, 1) := by decide +kernel
theorem dL_meanError_0 : decode cL_meanError 0 = .ok (.aload_n 2, 1) := by decide +kernel
theorem dL_meanError_1 : decode cL_meanError 1 = .ok (.iconst 0, 1) := by decide +kernel
theorem dL_meanError_2 : decode cL_meanError 2 = .ok (.aload_n 0, 1) := by decide +kernel
theorem dL_meanError_3 : decode cL_meanError 3 = .ok (.iload_n 1, 1) := by decide +kernel
theorem dL_meanError_4 : decode cL_meanError 4 = .ok (.invokevirtual 100, 3) := by decide +kernel
theorem dL_meanError_7 : decode cL_meanError 7 = .ok (.dastore, 1) := by decide +kernel
theorem dL_meanError_8 : decode cL_meanError 8 = .ok (.goto 9, 3) := by decide +kernel
theorem dL_meanError_11 : decode cL_meanError 11 = .ok (.astore_n 3, 1) := by decide +kernel
theorem dL_meanError_12 : decode cL_meanError 12 = .ok (.iconst 1, 1) := by decide +kernel
theorem dL_meanError_13 : decode cL_meanError 13 = .ok (.ireturn, 1) := by decide +kernel
theorem dL_meanError_14 : decode cL_meanError 14 = .ok (.astore_n 3, 1) := by decide +kernel
theorem dL_meanError_15 : decode cL_meanError 15 = .ok (.iconst 2, 1) := by decide +kernel
theorem dL_meanError_16 : decode cL_meanError 16 = .ok (.ireturn, 1) := by decide +kernel
theorem dL_meanError_17 : decode cL_meanError 17 = .ok (.iconst 0, 1) := by decide +kernel
theorem dL_meanError_18 : decode cL_meanError 18 = .ok (.ireturn, 1) := by decide +kernel
theorem dL_prophetByPoints_0 : decode cL_prophetByPoints 0 = .ok (.aload_n 2, 1) := by decide +kernel
theorem dL_prophetByPoints_1 : decode cL_prophetByPoints 1 = .ok (.iconst 0, 1) := by decide +kernel
theorem dL_prophetByPoints_2 : decode cL_prophetByPoints 2 = .ok (.aload_n 0, 1) := by decide +kernel
theorem dL_prophetByPoints_3 : decode cL_prophetByPoints 3 = .ok (.iload_n 1, 1) := by decide +kernel
theorem dL_prophetByPoints_4 : decode cL_prophetByPoints 4 = .ok (.invokevirtual 106, 3) := by decide +kernel
theorem dL_prophetByPoints_7 : decode cL_prophetByPoints 7 = .ok (.i2l, 1) := by decide +kernel
theorem dL_prophetByPoints_8 : decode cL_prophetByPoints 8 = .ok (.lastore, 1) := by decide +kernel
theorem dL_prophetByPoints_9 : decode cL_prophetByPoints 9 = .ok (.goto 6, 3) := by decide +kernel
theorem dL_prophetByPoints_12 : decode cL_prophetByPoints 12 = .ok (.astore_n 3, 1) := by decide +kernel
theorem dL_prophetByPoints_13 : decode cL_prophetByPoints 13 = .ok (.iconst 1, 1) := by decide +kernel
theorem dL_prophetByPoints_14 : decode cL_prophetByPoints 14 = .ok (.ireturn, 1) := by decide +kernel
theorem dL_prophetByPoints_15 : decode cL_prophetByPoints 15 = .ok (.iconst 0, 1) := by decide +kernel
theorem dL_prophetByPoints_16 : decode cL_prophetByPoints 16 = .ok (.ireturn, 1) := by decide +kernel
theorem dL_bestProphet_0 : decode cL_bestProphet 0 = .ok (.aload_n 1, 1) := by decide +kernel
theorem dL_bestProphet_1 : decode cL_bestProphet 1 = .ok (.iconst 0, 1) := by decide +kernel
theorem dL_bestProphet_2 : decode cL_bestProphet 2 = .ok (.aload_n 0, 1) := by decide +kernel
theorem dL_bestProphet_3 : decode cL_bestProphet 3 = .ok (.invokevirtual 109, 3) := by decide +kernel
theorem dL_bestProphet_6 : decode cL_bestProphet 6 = .ok (.i2l, 1) := by decide +kernel
theorem dL_bestProphet_7 : decode cL_bestProphet 7 = .ok (.lastore, 1) := by decide +kernel
theorem dL_bestProphet_8 : decode cL_bestProphet 8 = .ok (.goto 6, 3) := by decide +kernel
theorem dL_bestProphet_11 : decode cL_bestProphet 11 = .ok (.astore_n 2, 1) := by decide +kernel
theorem dL_bestProphet_12 : decode cL_bestProphet 12 = .ok (.iconst 1, 1) := by decide +kernel
theorem dL_bestProphet_13 : decode cL_bestProphet 13 = .ok (.ireturn, 1) := by decide +kernel
theorem dL_bestProphet_14 : decode cL_bestProphet 14 = .ok (.iconst 0, 1) := by decide +kernel
theorem dL_bestProphet_15 : decode cL_bestProphet 15 = .ok (.ireturn, 1) := by decide +kernel
theorem dL_outlierShare_0 : decode cL_outlierShare 0 = .ok (.aload_n 1, 1) := by decide +kernel
theorem dL_outlierShare_1 : decode cL_outlierShare 1 = .ok (.iconst 0, 1) := by decide +kernel
theorem dL_outlierShare_2 : decode cL_outlierShare 2 = .ok (.aload_n 0, 1) := by decide +kernel
theorem dL_outlierShare_3 : decode cL_outlierShare 3 = .ok (.invokevirtual 113, 3) := by decide +kernel
theorem dL_outlierShare_6 : decode cL_outlierShare 6 = .ok (.f2d, 1) := by decide +kernel
theorem dL_outlierShare_7 : decode cL_outlierShare 7 = .ok (.dastore, 1) := by decide +kernel
theorem dL_outlierShare_8 : decode cL_outlierShare 8 = .ok (.goto 6, 3) := by decide +kernel
theorem dL_outlierShare_11 : decode cL_outlierShare 11 = .ok (.astore_n 2, 1) := by decide +kernel
theorem dL_outlierShare_12 : decode cL_outlierShare 12 = .ok (.iconst 1, 1) := by decide +kernel
theorem dL_outlierShare_13 : decode cL_outlierShare 13 = .ok (.ireturn, 1) := by decide +kernel
theorem dL_outlierShare_14 : decode cL_outlierShare 14 = .ok (.iconst 0, 1) := by decide +kernel
theorem dL_outlierShare_15 : decode cL_outlierShare 15 = .ok (.ireturn, 1) := by decide +kernel
theorem dL_writeSeries_0 : decode cL_writeSeries 0 = .ok (.aload_n 2, 1) := by decide +kernel
theorem dL_writeSeries_1 : decode cL_writeSeries 1 = .ok (.iconst 0, 1) := by decide +kernel
theorem dL_writeSeries_2 : decode cL_writeSeries 2 = .ok (.aload_n 0, 1) := by decide +kernel
theorem dL_writeSeries_3 : decode cL_writeSeries 3 = .ok (.iload_n 1, 1) := by decide +kernel
theorem dL_writeSeries_4 : decode cL_writeSeries 4 = .ok (.invokevirtual 117, 3) := by decide +kernel
theorem dL_writeSeries_7 : decode cL_writeSeries 7 = .ok (.i2l, 1) := by decide +kernel
theorem dL_writeSeries_8 : decode cL_writeSeries 8 = .ok (.lastore, 1) := by decide +kernel
theorem dL_writeSeries_9 : decode cL_writeSeries 9 = .ok (.goto 6, 3) := by decide +kernel
theorem dL_writeSeries_12 : decode cL_writeSeries 12 = .ok (.astore_n 3, 1) := by decide +kernel
theorem dL_writeSeries_13 : decode cL_writeSeries 13 = .ok (.iconst 1, 1) := by decide +kernel
theorem dL_writeSeries_14 : decode cL_writeSeries 14 = .ok (.ireturn, 1) := by decide +kernel
theorem dL_writeSeries_15 : decode cL_writeSeries 15 = .ok (.iconst 0, 1) := by decide +kernel
theorem dL_writeSeries_16 : decode cL_writeSeries 16 = .ok (.ireturn, 1) := by decide +kernel
theorem dL_charAt_0 : decode cL_charAt 0 = .ok (.aload_n 2, 1) := by decide +kernel
theorem dL_charAt_1 : decode cL_charAt 1 = .ok (.iconst 0, 1) := by decide +kernel
theorem dL_charAt_2 : decode cL_charAt 2 = .ok (.aload_n 0, 1) := by decide +kernel
theorem dL_charAt_3 : decode cL_charAt 3 = .ok (.iload_n 1, 1) := by decide +kernel
theorem dL_charAt_4 : decode cL_charAt 4 = .ok (.invokevirtual 120, 3) := by decide +kernel
theorem dL_charAt_7 : decode cL_charAt 7 = .ok (.i2l, 1) := by decide +kernel
theorem dL_charAt_8 : decode cL_charAt 8 = .ok (.lastore, 1) := by decide +kernel
theorem dL_charAt_9 : decode cL_charAt 9 = .ok (.goto 6, 3) := by decide +kernel
theorem dL_charAt_12 : decode cL_charAt 12 = .ok (.astore_n 3, 1) := by decide +kernel
theorem dL_charAt_13 : decode cL_charAt 13 = .ok (.iconst 1, 1) := by decide +kernel
theorem dL_charAt_14 : decode cL_charAt 14 = .ok (.ireturn, 1) := by decide +kernel
theorem dL_charAt_15 : decode cL_charAt 15 = .ok (.iconst 0, 1) := by decide +kernel
theorem dL_charAt_16 : decode cL_charAt 16 = .ok (.ireturn, 1) := by decide +kernel
theorem dL_type_0 : decode cL_type 0 = .ok (.aload_n 2, 1) := by decide +kernel
theorem dL_type_1 : decode cL_type 1 = .ok (.iconst 0, 1) := by decide +kernel
theorem dL_type_2 : decode cL_type 2 = .ok (.aload_n 0, 1) := by decide +kernel
theorem dL_type_3 : decode cL_type 3 = .ok (.iload_n 1, 1) := by decide +kernel
theorem dL_type_4 : decode cL_type 4 = .ok (.invokevirtual 123, 3) := by decide +kernel
theorem dL_type_7 : decode cL_type 7 = .ok (.i2l, 1) := by decide +kernel
theorem dL_type_8 : decode cL_type 8 = .ok (.lastore, 1) := by decide +kernel
theorem dL_type_9 : decode cL_type 9 = .ok (.goto 6, 3) := by decide +kernel
theorem dL_type_12 : decode cL_type 12 = .ok (.astore_n 3, 1) := by decide +kernel
theorem dL_type_13 : decode cL_type 13 = .ok (.iconst 1, 1) := by decide +kernel
theorem dL_type_14 : decode cL_type 14 = .ok (.ireturn, 1) := by decide +kernel
theorem dL_type_15 : decode cL_type 15 = .ok (.iconst 0, 1) := by decide +kernel
theorem dL_type_16 : decode cL_type 16 = .ok (.ireturn, 1) := by decide +kernel
theorem dL_run_0 : decode cL_run 0 = .ok (.aload_n 1, 1) := by decide +kernel
theorem dL_run_1 : decode cL_run 1 = .ok (.iconst 0, 1) := by decide +kernel
theorem dL_run_2 : decode cL_run 2 = .ok (.aload_n 0, 1) := by decide +kernel
theorem dL_run_3 : decode cL_run 3 = .ok (.invokevirtual 127, 3) := by decide +kernel
theorem dL_run_6 : decode cL_run 6 = .ok (.i2l, 1) := by decide +kernel
theorem dL_run_7 : decode cL_run 7 = .ok (.lastore, 1) := by decide +kernel
theorem dL_run_8 : decode cL_run 8 = .ok (.goto 9, 3) := by decide +kernel
theorem dL_run_11 : decode cL_run 11 = .ok (.astore_n 2, 1) := by decide +kernel
theorem dL_run_12 : decode cL_run 12 = .ok (.iconst 1, 1) := by decide +kernel
theorem dL_run_13 : decode cL_run 13 = .ok (.ireturn, 1) := by decide +kernel
theorem dL_run_14 : decode cL_run 14 = .ok (.astore_n 2, 1) := by decide +kernel
theorem dL_run_15 : decode cL_run 15 = .ok (.iconst 2, 1) := by decide +kernel
theorem dL_run_16 : decode cL_run 16 = .ok (.ireturn, 1) := by decide +kernel
theorem dL_run_17 : decode cL_run 17 = .ok (.iconst 0, 1) := by decide +kernel
theorem dL_run_18 : decode cL_run 18 = .ok (.ireturn, 1) := by decide +kernel
theorem dL_errorPosition_0 : decode cL_errorPosition 0 = .ok (.aload_n 1, 1) := by decide +kernel
theorem dL_errorPosition_1 : decode cL_errorPosition 1 = .ok (.iconst 0, 1) := by decide +kernel
theorem dL_errorPosition_2 : decode cL_errorPosition 2 = .ok (.aload_n 0, 1) := by decide +kernel
theorem dL_errorPosition_3 : decode cL_errorPosition 3 = .ok (.invokevirtual 132, 3) := by decide +kernel
theorem dL_errorPosition_6 : decode cL_errorPosition 6 = .ok (.i2l, 1) := by decide +kernel
theorem dL_errorPosition_7 : decode cL_errorPosition 7 = .ok (.lastore, 1) := by decide +kernel
theorem dL_errorPosition_8 : decode cL_errorPosition 8 = .ok (.goto 6, 3) := by decide +kernel
theorem dL_errorPosition_11 : decode cL_errorPosition 11 = .ok (.astore_n 2, 1) := by decide +kernel
theorem dL_errorPosition_12 : decode cL_errorPosition 12 = .ok (.iconst 1, 1) := by decide +kernel
theorem dL_errorPosition_13 : decode cL_errorPosition 13 = .ok (.ireturn, 1) := by decide +kernel
theorem dL_errorPosition_14 : decode cL_errorPosition 14 = .ok (.iconst 0, 1) := by decide +kernel
theorem dL_errorPosition_15 : decode cL_errorPosition 15 = .ok (.ireturn, 1) := by decide +kernel
theorem dL_failedCommand_0 : decode cL_failedCommand 0 = .ok (.aload_n 1, 1) := by decide +kernel
theorem dL_failedCommand_1 : decode cL_failedCommand 1 = .ok (.iconst 0, 1) := by decide +kernel
theorem dL_failedCommand_2 : decode cL_failedCommand 2 = .ok (.aload_n 0, 1) := by decide +kernel
theorem dL_failedCommand_3 : decode cL_failedCommand 3 = .ok (.invokevirtual 135, 3) := by decide +kernel
theorem dL_failedCommand_6 : decode cL_failedCommand 6 = .ok (.i2l, 1) := by decide +kernel
theorem dL_failedCommand_7 : decode cL_failedCommand 7 = .ok (.lastore, 1) := by decide +kernel
theorem dL_failedCommand_8 : decode cL_failedCommand 8 = .ok (.goto 6, 3) := by decide +kernel
theorem dL_failedCommand_11 : decode cL_failedCommand 11 = .ok (.astore_n 2, 1) := by decide +kernel
theorem dL_failedCommand_12 : decode cL_failedCommand 12 = .ok (.iconst 1, 1) := by decide +kernel
theorem dL_failedCommand_13 : decode cL_failedCommand 13 = .ok (.ireturn, 1) := by decide +kernel
theorem dL_failedCommand_14 : decode cL_failedCommand 14 = .ok (.iconst 0, 1) := by decide +kernel
theorem dL_failedCommand_15 : decode cL_failedCommand 15 = .ok (.ireturn, 1) := by decide +kernel
theorem dL_undo_0 : decode cL_undo 0 = .ok (.aload_n 1, 1) := by decide +kernel
theorem dL_undo_1 : decode cL_undo 1 = .ok (.iconst 0, 1) := by decide +kernel
theorem dL_undo_2 : decode cL_undo 2 = .ok (.aload_n 0, 1) := by decide +kernel
theorem dL_undo_3 : decode cL_undo 3 = .ok (.invokevirtual 138, 3) := by decide +kernel
theorem dL_undo_6 : decode cL_undo 6 = .ok (.i2l, 1) := by decide +kernel
theorem dL_undo_7 : decode cL_undo 7 = .ok (.lastore, 1) := by decide +kernel
theorem dL_undo_8 : decode cL_undo 8 = .ok (.goto 6, 3) := by decide +kernel
theorem dL_undo_11 : decode cL_undo 11 = .ok (.astore_n 2, 1) := by decide +kernel
theorem dL_undo_12 : decode cL_undo 12 = .ok (.iconst 1, 1) := by decide +kernel
theorem dL_undo_13 : decode cL_undo 13 = .ok (.ireturn, 1) := by decide +kernel
theorem dL_undo_14 : decode cL_undo 14 = .ok (.iconst 0, 1) := by decide +kernel
theorem dL_undo_15 : decode cL_undo 15 = .ok (.ireturn, 1) := by decide +kernel
theorem dL_restore_0 : decode cL_restore 0 = .ok (.aload_n 1, 1) := by decide +kernel
theorem dL_restore_1 : decode cL_restore 1 = .ok (.iconst 0, 1) := by decide +kernel
theorem dL_restore_2 : decode cL_restore 2 = .ok (.aload_n 0, 1) := by decide +kernel
theorem dL_restore_3 : decode cL_restore 3 = .ok (.invokevirtual 141, 3) := by decide +kernel
theorem dL_restore_6 : decode cL_restore 6 = .ok (.i2l, 1) := by decide +kernel
theorem dL_restore_7 : decode cL_restore 7 = .ok (.lastore, 1) := by decide +kernel
theorem dL_restore_8 : decode cL_restore 8 = .ok (.goto 6, 3) := by decide +kernel
theorem dL_restore_11 : decode cL_restore 11 = .ok (.astore_n 2, 1) := by decide +kernel
theorem dL_restore_12 : decode cL_restore 12 = .ok (.iconst 1, 1) := by decide +kernel
theorem dL_restore_13 : decode cL_restore 13 = .ok (.ireturn, 1) := by decide +kernel
theorem dL_restore_14 : decode cL_restore 14 = .ok (.iconst 0, 1) := by decide +kernel
theorem dL_restore_15 : decode cL_restore 15 = .ok (.ireturn, 1) := by decide +kernel
theorem dL_law_0 : decode cL_law 0 = .ok (.new 8, 3) := by decide +kernel
theorem dL_law_3 : decode cL_law 3 = .ok (.dup, 1) := by decide +kernel
theorem dL_law_4 : decode cL_law 4 = .ok (.invokespecial 144, 3) := by decide +kernel
theorem dL_law_7 : decode cL_law 7 = .ok (.astore_n 1, 1) := by decide +kernel
theorem dL_law_8 : decode cL_law 8 = .ok (.new 145, 3) := by decide +kernel
theorem dL_law_11 : decode cL_law 11 = .ok (.dup, 1) := by decide +kernel
theorem dL_law_12 : decode cL_law 12 = .ok (.invokespecial 147, 3) := by decide +kernel
theorem dL_law_15 : decode cL_law 15 = .ok (.astore_n 2, 1) := by decide +kernel
theorem dL_law_16 : decode cL_law 16 = .ok (.iconst 1, 1) := by decide +kernel
theorem dL_law_17 : decode cL_law 17 = .ok (.newarray .long, 2) := by decide +kernel
theorem dL_law_19 : decode cL_law 19 = .ok (.astore_n 3, 1) := by decide +kernel
theorem dL_law_20 : decode cL_law 20 = .ok (.iconst 1, 1) := by decide +kernel
theorem dL_law_21 : decode cL_law 21 = .ok (.newarray .double, 2) := by decide +kernel
theorem dL_law_23 : decode cL_law 23 = .ok (.astore 4, 2) := by decide +kernel
theorem dL_law_25 : decode cL_law 25 = .ok (.iconst 0, 1) := by decide +kernel
theorem dL_law_26 : decode cL_law 26 = .ok (.istore 5, 2) := by decide +kernel
theorem dL_law_28 : decode cL_law 28 = .ok (.iload 5, 2) := by decide +kernel
theorem dL_law_30 : decode cL_law 30 = .ok (.aload_n 0, 1) := by decide +kernel
theorem dL_law_31 : decode cL_law 31 = .ok (.arraylength, 1) := by decide +kernel
theorem dL_law_32 : decode cL_law 32 = .ok (.iconst 4, 1) := by decide +kernel
theorem dL_law_33 : decode cL_law 33 = .ok (.isub, 1) := by decide +kernel
theorem dL_law_34 : decode cL_law 34 = .ok (.if_icmp .gt 2655, 3) := by decide +kernel
theorem dL_law_37 : decode cL_law 37 = .ok (.aload_n 0, 1) := by decide +kernel
theorem dL_law_38 : decode cL_law 38 = .ok (.iload 5, 2) := by decide +kernel
theorem dL_law_40 : decode cL_law 40 = .ok (.iaload, 1) := by decide +kernel
theorem dL_law_41 : decode cL_law 41 = .ok (.bipush 63, 2) := by decide +kernel
theorem dL_law_43 : decode cL_law 43 = .ok (.iand, 1) := by decide +kernel
theorem dL_law_44 : decode cL_law 44 = .ok (.tableswitch 2639 0 41 #[184, 254, 322, 378, 434, 490, 558, 614, 703, 792, 860, 928, 1017, 1092, 1148, 1204, 1284, 1297, 1310, 1366, 1422, 1497, 1586, 1653, 1721, 1810, 1899, 1967, 2044, 2100, 2144, 2210, 2223, 2279, 2292, 2348, 2406, 2450, 2494, 2538, 2582, 2595], 184) := by decide +kernel
theorem dL_law_228 : decode cL_law 228 = .ok (.aload_n 1, 1) := by decide +kernel
theorem dL_law_229 : decode cL_law 229 = .ok (.aload_n 0, 1) := by decide +kernel
theorem dL_law_230 : decode cL_law 230 = .ok (.iload 5, 2) := by decide +kernel
theorem dL_law_232 : decode cL_law 232 = .ok (.iconst 1, 1) := by decide +kernel
theorem dL_law_233 : decode cL_law 233 = .ok (.iadd, 1) := by decide +kernel
theorem dL_law_234 : decode cL_law 234 = .ok (.iaload, 1) := by decide +kernel
theorem dL_law_235 : decode cL_law 235 = .ok (.i2c, 1) := by decide +kernel
theorem dL_law_236 : decode cL_law 236 = .ok (.aload_n 0, 1) := by decide +kernel
theorem dL_law_237 : decode cL_law 237 = .ok (.iload 5, 2) := by decide +kernel
theorem dL_law_239 : decode cL_law 239 = .ok (.iconst 2, 1) := by decide +kernel
theorem dL_law_240 : decode cL_law 240 = .ok (.iadd, 1) := by decide +kernel
theorem dL_law_241 : decode cL_law 241 = .ok (.iaload, 1) := by decide +kernel
theorem dL_law_242 : decode cL_law 242 = .ok (.aload_n 3, 1) := by decide +kernel
theorem dL_law_243 : decode cL_law 243 = .ok (.invokestatic 148, 3) := by decide +kernel
theorem dL_law_246 : decode cL_law 246 = .ok (.istore 6, 2) := by decide +kernel
theorem dL_law_248 : decode cL_law 248 = .ok (.aload_n 2, 1) := by decide +kernel
theorem dL_law_249 : decode cL_law 249 = .ok (.aload_n 0, 1) := by decide +kernel
theorem dL_law_250 : decode cL_law 250 = .ok (.iload 5, 2) := by decide +kernel
theorem dL_law_252 : decode cL_law 252 = .ok (.iconst 1, 1) := by decide +kernel
theorem dL_law_253 : decode cL_law 253 = .ok (.iadd, 1) := by decide +kernel
theorem dL_law_254 : decode cL_law 254 = .ok (.iaload, 1) := by decide +kernel
theorem dL_law_255 : decode cL_law 255 = .ok (.i2c, 1) := by decide +kernel
theorem dL_law_256 : decode cL_law 256 = .ok (.aload_n 0, 1) := by decide +kernel
theorem dL_law_257 : decode cL_law 257 = .ok (.iload 5, 2) := by decide +kernel
theorem dL_law_259 : decode cL_law 259 = .ok (.iconst 2, 1) := by decide +kernel
theorem dL_law_260 : decode cL_law 260 = .ok (.iadd, 1) := by decide +kernel
theorem dL_law_261 : decode cL_law 261 = .ok (.iaload, 1) := by decide +kernel
theorem dL_law_262 : decode cL_law 262 = .ok (.invokevirtual 153, 3) := by decide +kernel
theorem dL_law_265 : decode cL_law 265 = .ok (.istore 7, 2) := by decide +kernel
theorem dL_law_267 : decode cL_law 267 = .ok (.aload_n 2, 1) := by decide +kernel
theorem dL_law_268 : decode cL_law 268 = .ok (.invokevirtual 154, 3) := by decide +kernel
theorem dL_law_271 : decode cL_law 271 = .ok (.iload 6, 2) := by decide +kernel
theorem dL_law_273 : decode cL_law 273 = .ok (.if_icmp .eq 5, 3) := by decide +kernel
theorem dL_law_276 : decode cL_law 276 = .ok (.iconst 0, 1) := by decide +kernel
theorem dL_law_277 : decode cL_law 277 = .ok (.ireturn, 1) := by decide +kernel
theorem dL_law_278 : decode cL_law 278 = .ok (.iload 6, 2) := by decide +kernel
theorem dL_law_280 : decode cL_law 280 = .ok (.ifCond .ne 15, 3) := by decide +kernel
theorem dL_law_283 : decode cL_law 283 = .ok (.aload_n 3, 1) := by decide +kernel
theorem dL_law_284 : decode cL_law 284 = .ok (.iconst 0, 1) := by decide +kernel
theorem dL_law_285 : decode cL_law 285 = .ok (.laload, 1) := by decide +kernel
theorem dL_law_286 : decode cL_law 286 = .ok (.iload 7, 2) := by decide +kernel
theorem dL_law_288 : decode cL_law 288 = .ok (.i2l, 1) := by decide +kernel
theorem dL_law_289 : decode cL_law 289 = .ok (.lcmp, 1) := by decide +kernel
theorem dL_law_290 : decode cL_law 290 = .ok (.ifCond .eq 5, 3) := by decide +kernel
theorem dL_law_293 : decode cL_law 293 = .ok (.iconst 0, 1) := by decide +kernel
theorem dL_law_294 : decode cL_law 294 = .ok (.ireturn, 1) := by decide +kernel
theorem dL_law_295 : decode cL_law 295 = .ok (.goto 2388, 3) := by decide +kernel
theorem dL_law_298 : decode cL_law 298 = .ok (.aload_n 1, 1) := by decide +kernel
theorem dL_law_299 : decode cL_law 299 = .ok (.aload_n 0, 1) := by decide +kernel
theorem dL_law_300 : decode cL_law 300 = .ok (.iload 5, 2) := by decide +kernel
theorem dL_law_302 : decode cL_law 302 = .ok (.iconst 1, 1) := by decide +kernel
theorem dL_law_303 : decode cL_law 303 = .ok (.iadd, 1) := by decide +kernel
theorem dL_law_304 : decode cL_law 304 = .ok (.iaload, 1) := by decide +kernel
theorem dL_law_305 : decode cL_law 305 = .ok (.aload_n 0, 1) := by decide +kernel
theorem dL_law_306 : decode cL_law 306 = .ok (.iload 5, 2) := by decide +kernel
theorem dL_law_308 : decode cL_law 308 = .ok (.iconst 2, 1) := by decide +kernel
theorem dL_law_309 : decode cL_law 309 = .ok (.iadd, 1) := by decide +kernel
theorem dL_law_310 : decode cL_law 310 = .ok (.iaload, 1) := by decide +kernel
theorem dL_law_311 : decode cL_law 311 = .ok (.aload_n 3, 1) := by decide +kernel
theorem dL_law_312 : decode cL_law 312 = .ok (.invokestatic 157, 3) := by decide +kernel
theorem dL_law_315 : decode cL_law 315 = .ok (.istore 6, 2) := by decide +kernel
theorem dL_law_317 : decode cL_law 317 = .ok (.aload_n 2, 1) := by decide +kernel
theorem dL_law_318 : decode cL_law 318 = .ok (.aload_n 0, 1) := by decide +kernel
theorem dL_law_319 : decode cL_law 319 = .ok (.iload 5, 2) := by decide +kernel
theorem dL_law_321 : decode cL_law 321 = .ok (.iconst 1, 1) := by decide +kernel
theorem dL_law_322 : decode cL_law 322 = .ok (.iadd, 1) := by decide +kernel
theorem dL_law_323 : decode cL_law 323 = .ok (.iaload, 1) := by decide +kernel
theorem dL_law_324 : decode cL_law 324 = .ok (.aload_n 0, 1) := by decide +kernel
theorem dL_law_325 : decode cL_law 325 = .ok (.iload 5, 2) := by decide +kernel
theorem dL_law_327 : decode cL_law 327 = .ok (.iconst 2, 1) := by decide +kernel
theorem dL_law_328 : decode cL_law 328 = .ok (.iadd, 1) := by decide +kernel
theorem dL_law_329 : decode cL_law 329 = .ok (.iaload, 1) := by decide +kernel
theorem dL_law_330 : decode cL_law 330 = .ok (.invokevirtual 160, 3) := by decide +kernel
theorem dL_law_333 : decode cL_law 333 = .ok (.istore 7, 2) := by decide +kernel
theorem dL_law_335 : decode cL_law 335 = .ok (.aload_n 2, 1) := by decide +kernel
theorem dL_law_336 : decode cL_law 336 = .ok (.invokevirtual 154, 3) := by decide +kernel
theorem dL_law_339 : decode cL_law 339 = .ok (.iload 6, 2) := by decide +kernel
theorem dL_law_341 : decode cL_law 341 = .ok (.if_icmp .eq 5, 3) := by decide +kernel
theorem dL_law_344 : decode cL_law 344 = .ok (.iconst 0, 1) := by decide +kernel
theorem dL_law_345 : decode cL_law 345 = .ok (.ireturn, 1) := by decide +kernel
theorem dL_law_346 : decode cL_law 346 = .ok (.iload 6, 2) := by decide +kernel
theorem dL_law_348 : decode cL_law 348 = .ok (.ifCond .ne 15, 3) := by decide +kernel
theorem dL_law_351 : decode cL_law 351 = .ok (.aload_n 3, 1) := by decide +kernel
theorem dL_law_352 : decode cL_law 352 = .ok (.iconst 0, 1) := by decide +kernel
theorem dL_law_353 : decode cL_law 353 = .ok (.laload, 1) := by decide +kernel
theorem dL_law_354 : decode cL_law 354 = .ok (.iload 7, 2) := by decide +kernel
theorem dL_law_356 : decode cL_law 356 = .ok (.i2l, 1) := by decide +kernel
theorem dL_law_357 : decode cL_law 357 = .ok (.lcmp, 1) := by decide +kernel
theorem dL_law_358 : decode cL_law 358 = .ok (.ifCond .eq 5, 3) := by decide +kernel
theorem dL_law_361 : decode cL_law 361 = .ok (.iconst 0, 1) := by decide +kernel
theorem dL_law_362 : decode cL_law 362 = .ok (.ireturn, 1) := by decide +kernel
theorem dL_law_363 : decode cL_law 363 = .ok (.goto 2320, 3) := by decide +kernel
theorem dL_law_366 : decode cL_law 366 = .ok (.aload_n 1, 1) := by decide +kernel
theorem dL_law_367 : decode cL_law 367 = .ok (.aload_n 0, 1) := by decide +kernel
theorem dL_law_368 : decode cL_law 368 = .ok (.iload 5, 2) := by decide +kernel
theorem dL_law_370 : decode cL_law 370 = .ok (.iconst 1, 1) := by decide +kernel
theorem dL_law_371 : decode cL_law 371 = .ok (.iadd, 1) := by decide +kernel
theorem dL_law_372 : decode cL_law 372 = .ok (.iaload, 1) := by decide +kernel
theorem dL_law_373 : decode cL_law 373 = .ok (.aload_n 3, 1) := by decide +kernel
theorem dL_law_374 : decode cL_law 374 = .ok (.invokestatic 161, 3) := by decide +kernel
theorem dL_law_377 : decode cL_law 377 = .ok (.istore 6, 2) := by decide +kernel
theorem dL_law_379 : decode cL_law 379 = .ok (.aload_n 2, 1) := by decide +kernel
theorem dL_law_380 : decode cL_law 380 = .ok (.aload_n 0, 1) := by decide +kernel
theorem dL_law_381 : decode cL_law 381 = .ok (.iload 5, 2) := by decide +kernel
theorem dL_law_383 : decode cL_law 383 = .ok (.iconst 1, 1) := by decide +kernel
theorem dL_law_384 : decode cL_law 384 = .ok (.iadd, 1) := by decide +kernel
theorem dL_law_385 : decode cL_law 385 = .ok (.iaload, 1) := by decide +kernel
theorem dL_law_386 : decode cL_law 386 = .ok (.invokevirtual 164, 3) := by decide +kernel
theorem dL_law_389 : decode cL_law 389 = .ok (.istore 7, 2) := by decide +kernel
theorem dL_law_391 : decode cL_law 391 = .ok (.aload_n 2, 1) := by decide +kernel
theorem dL_law_392 : decode cL_law 392 = .ok (.invokevirtual 154, 3) := by decide +kernel
theorem dL_law_395 : decode cL_law 395 = .ok (.iload 6, 2) := by decide +kernel
theorem dL_law_397 : decode cL_law 397 = .ok (.if_icmp .eq 5, 3) := by decide +kernel
theorem dL_law_400 : decode cL_law 400 = .ok (.iconst 0, 1) := by decide +kernel
theorem dL_law_401 : decode cL_law 401 = .ok (.ireturn, 1) := by decide +kernel
theorem dL_law_402 : decode cL_law 402 = .ok (.iload 6, 2) := by decide +kernel
theorem dL_law_404 : decode cL_law 404 = .ok (.ifCond .ne 15, 3) := by decide +kernel
theorem dL_law_407 : decode cL_law 407 = .ok (.aload_n 3, 1) := by decide +kernel
theorem dL_law_408 : decode cL_law 408 = .ok (.iconst 0, 1) := by decide +kernel
theorem dL_law_409 : decode cL_law 409 = .ok (.laload, 1) := by decide +kernel
theorem dL_law_410 : decode cL_law 410 = .ok (.iload 7, 2) := by decide +kernel
theorem dL_law_412 : decode cL_law 412 = .ok (.i2l, 1) := by decide +kernel
theorem dL_law_413 : decode cL_law 413 = .ok (.lcmp, 1) := by decide +kernel
theorem dL_law_414 : decode cL_law 414 = .ok (.ifCond .eq 5, 3) := by decide +kernel
theorem dL_law_417 : decode cL_law 417 = .ok (.iconst 0, 1) := by decide +kernel
theorem dL_law_418 : decode cL_law 418 = .ok (.ireturn, 1) := by decide +kernel
theorem dL_law_419 : decode cL_law 419 = .ok (.goto 2264, 3) := by decide +kernel
theorem dL_law_422 : decode cL_law 422 = .ok (.aload_n 1, 1) := by decide +kernel
theorem dL_law_423 : decode cL_law 423 = .ok (.aload_n 0, 1) := by decide +kernel
theorem dL_law_424 : decode cL_law 424 = .ok (.iload 5, 2) := by decide +kernel
theorem dL_law_426 : decode cL_law 426 = .ok (.iconst 1, 1) := by decide +kernel
theorem dL_law_427 : decode cL_law 427 = .ok (.iadd, 1) := by decide +kernel
theorem dL_law_428 : decode cL_law 428 = .ok (.iaload, 1) := by decide +kernel
theorem dL_law_429 : decode cL_law 429 = .ok (.aload_n 3, 1) := by decide +kernel
theorem dL_law_430 : decode cL_law 430 = .ok (.invokestatic 165, 3) := by decide +kernel
theorem dL_law_433 : decode cL_law 433 = .ok (.istore 6, 2) := by decide +kernel
theorem dL_law_435 : decode cL_law 435 = .ok (.aload_n 2, 1) := by decide +kernel
theorem dL_law_436 : decode cL_law 436 = .ok (.aload_n 0, 1) := by decide +kernel
theorem dL_law_437 : decode cL_law 437 = .ok (.iload 5, 2) := by decide +kernel
theorem dL_law_439 : decode cL_law 439 = .ok (.iconst 1, 1) := by decide +kernel
theorem dL_law_440 : decode cL_law 440 = .ok (.iadd, 1) := by decide +kernel
theorem dL_law_441 : decode cL_law 441 = .ok (.iaload, 1) := by decide +kernel
theorem dL_law_442 : decode cL_law 442 = .ok (.invokevirtual 167, 3) := by decide +kernel
theorem dL_law_445 : decode cL_law 445 = .ok (.istore 7, 2) := by decide +kernel
theorem dL_law_447 : decode cL_law 447 = .ok (.aload_n 2, 1) := by decide +kernel
theorem dL_law_448 : decode cL_law 448 = .ok (.invokevirtual 154, 3) := by decide +kernel
theorem dL_law_451 : decode cL_law 451 = .ok (.iload 6, 2) := by decide +kernel
theorem dL_law_453 : decode cL_law 453 = .ok (.if_icmp .eq 5, 3) := by decide +kernel
theorem dL_law_456 : decode cL_law 456 = .ok (.iconst 0, 1) := by decide +kernel
theorem dL_law_457 : decode cL_law 457 = .ok (.ireturn, 1) := by decide +kernel
theorem dL_law_458 : decode cL_law 458 = .ok (.iload 6, 2) := by decide +kernel
theorem dL_law_460 : decode cL_law 460 = .ok (.ifCond .ne 15, 3) := by decide +kernel
theorem dL_law_463 : decode cL_law 463 = .ok (.aload_n 3, 1) := by decide +kernel
theorem dL_law_464 : decode cL_law 464 = .ok (.iconst 0, 1) := by decide +kernel
theorem dL_law_465 : decode cL_law 465 = .ok (.laload, 1) := by decide +kernel
theorem dL_law_466 : decode cL_law 466 = .ok (.iload 7, 2) := by decide +kernel
theorem dL_law_468 : decode cL_law 468 = .ok (.i2l, 1) := by decide +kernel
theorem dL_law_469 : decode cL_law 469 = .ok (.lcmp, 1) := by decide +kernel
theorem dL_law_470 : decode cL_law 470 = .ok (.ifCond .eq 5, 3) := by decide +kernel
theorem dL_law_473 : decode cL_law 473 = .ok (.iconst 0, 1) := by decide +kernel
theorem dL_law_474 : decode cL_law 474 = .ok (.ireturn, 1) := by decide +kernel
theorem dL_law_475 : decode cL_law 475 = .ok (.goto 2208, 3) := by decide +kernel
theorem dL_law_478 : decode cL_law 478 = .ok (.aload_n 1, 1) := by decide +kernel
theorem dL_law_479 : decode cL_law 479 = .ok (.aload_n 0, 1) := by decide +kernel
theorem dL_law_480 : decode cL_law 480 = .ok (.iload 5, 2) := by decide +kernel
theorem dL_law_482 : decode cL_law 482 = .ok (.iconst 1, 1) := by decide +kernel
theorem dL_law_483 : decode cL_law 483 = .ok (.iadd, 1) := by decide +kernel
theorem dL_law_484 : decode cL_law 484 = .ok (.iaload, 1) := by decide +kernel
theorem dL_law_485 : decode cL_law 485 = .ok (.aload_n 3, 1) := by decide +kernel
theorem dL_law_486 : decode cL_law 486 = .ok (.invokestatic 168, 3) := by decide +kernel
theorem dL_law_489 : decode cL_law 489 = .ok (.istore 6, 2) := by decide +kernel
theorem dL_law_491 : decode cL_law 491 = .ok (.aload_n 2, 1) := by decide +kernel
theorem dL_law_492 : decode cL_law 492 = .ok (.aload_n 0, 1) := by decide +kernel
theorem dL_law_493 : decode cL_law 493 = .ok (.iload 5, 2) := by decide +kernel
theorem dL_law_495 : decode cL_law 495 = .ok (.iconst 1, 1) := by decide +kernel
theorem dL_law_496 : decode cL_law 496 = .ok (.iadd, 1) := by decide +kernel
theorem dL_law_497 : decode cL_law 497 = .ok (.iaload, 1) := by decide +kernel
theorem dL_law_498 : decode cL_law 498 = .ok (.invokevirtual 170, 3) := by decide +kernel
theorem dL_law_501 : decode cL_law 501 = .ok (.istore 7, 2) := by decide +kernel
theorem dL_law_503 : decode cL_law 503 = .ok (.aload_n 2, 1) := by decide +kernel
theorem dL_law_504 : decode cL_law 504 = .ok (.invokevirtual 154, 3) := by decide +kernel
theorem dL_law_507 : decode cL_law 507 = .ok (.iload 6, 2) := by decide +kernel
theorem dL_law_509 : decode cL_law 509 = .ok (.if_icmp .eq 5, 3) := by decide +kernel
theorem dL_law_512 : decode cL_law 512 = .ok (.iconst 0, 1) := by decide +kernel
theorem dL_law_513 : decode cL_law 513 = .ok (.ireturn, 1) := by decide +kernel
theorem dL_law_514 : decode cL_law 514 = .ok (.iload 6, 2) := by decide +kernel
theorem dL_law_516 : decode cL_law 516 = .ok (.ifCond .ne 15, 3) := by decide +kernel
theorem dL_law_519 : decode cL_law 519 = .ok (.aload_n 3, 1) := by decide +kernel
theorem dL_law_520 : decode cL_law 520 = .ok (.iconst 0, 1) := by decide +kernel
theorem dL_law_521 : decode cL_law 521 = .ok (.laload, 1) := by decide +kernel
theorem dL_law_522 : decode cL_law 522 = .ok (.iload 7, 2) := by decide +kernel
theorem dL_law_524 : decode cL_law 524 = .ok (.i2l, 1) := by decide +kernel
theorem dL_law_525 : decode cL_law 525 = .ok (.lcmp, 1) := by decide +kernel
theorem dL_law_526 : decode cL_law 526 = .ok (.ifCond .eq 5, 3) := by decide +kernel
theorem dL_law_529 : decode cL_law 529 = .ok (.iconst 0, 1) := by decide +kernel
theorem dL_law_530 : decode cL_law 530 = .ok (.ireturn, 1) := by decide +kernel
theorem dL_law_531 : decode cL_law 531 = .ok (.goto 2152, 3) := by decide +kernel
theorem dL_law_534 : decode cL_law 534 = .ok (.aload_n 1, 1) := by decide +kernel
theorem dL_law_535 : decode cL_law 535 = .ok (.aload_n 0, 1) := by decide +kernel
theorem dL_law_536 : decode cL_law 536 = .ok (.iload 5, 2) := by decide +kernel
theorem dL_law_538 : decode cL_law 538 = .ok (.iconst 1, 1) := by decide +kernel
theorem dL_law_539 : decode cL_law 539 = .ok (.iadd, 1) := by decide +kernel
theorem dL_law_540 : decode cL_law 540 = .ok (.iaload, 1) := by decide +kernel
theorem dL_law_541 : decode cL_law 541 = .ok (.aload_n 0, 1) := by decide +kernel
theorem dL_law_542 : decode cL_law 542 = .ok (.iload 5, 2) := by decide +kernel
theorem dL_law_544 : decode cL_law 544 = .ok (.iconst 2, 1) := by decide +kernel
theorem dL_law_545 : decode cL_law 545 = .ok (.iadd, 1) := by decide +kernel
theorem dL_law_546 : decode cL_law 546 = .ok (.iaload, 1) := by decide +kernel
theorem dL_law_547 : decode cL_law 547 = .ok (.aload_n 3, 1) := by decide +kernel
theorem dL_law_548 : decode cL_law 548 = .ok (.invokestatic 171, 3) := by decide +kernel
theorem dL_law_551 : decode cL_law 551 = .ok (.istore 6, 2) := by decide +kernel
theorem dL_law_553 : decode cL_law 553 = .ok (.aload_n 2, 1) := by decide +kernel
theorem dL_law_554 : decode cL_law 554 = .ok (.aload_n 0, 1) := by decide +kernel
theorem dL_law_555 : decode cL_law 555 = .ok (.iload 5, 2) := by decide +kernel
theorem dL_law_557 : decode cL_law 557 = .ok (.iconst 1, 1) := by decide +kernel
theorem dL_law_558 : decode cL_law 558 = .ok (.iadd, 1) := by decide +kernel
theorem dL_law_559 : decode cL_law 559 = .ok (.iaload, 1) := by decide +kernel
theorem dL_law_560 : decode cL_law 560 = .ok (.aload_n 0, 1) := by decide +kernel
theorem dL_law_561 : decode cL_law 561 = .ok (.iload 5, 2) := by decide +kernel
theorem dL_law_563 : decode cL_law 563 = .ok (.iconst 2, 1) := by decide +kernel
theorem dL_law_564 : decode cL_law 564 = .ok (.iadd, 1) := by decide +kernel
theorem dL_law_565 : decode cL_law 565 = .ok (.iaload, 1) := by decide +kernel
theorem dL_law_566 : decode cL_law 566 = .ok (.invokevirtual 173, 3) := by decide +kernel
theorem dL_law_569 : decode cL_law 569 = .ok (.istore 7, 2) := by decide +kernel
theorem dL_law_571 : decode cL_law 571 = .ok (.aload_n 2, 1) := by decide +kernel
theorem dL_law_572 : decode cL_law 572 = .ok (.invokevirtual 154, 3) := by decide +kernel
theorem dL_law_575 : decode cL_law 575 = .ok (.iload 6, 2) := by decide +kernel
theorem dL_law_577 : decode cL_law 577 = .ok (.if_icmp .eq 5, 3) := by decide +kernel
theorem dL_law_580 : decode cL_law 580 = .ok (.iconst 0, 1) := by decide +kernel
theorem dL_law_581 : decode cL_law 581 = .ok (.ireturn, 1) := by decide +kernel
theorem dL_law_582 : decode cL_law 582 = .ok (.iload 6, 2) := by decide +kernel
theorem dL_law_584 : decode cL_law 584 = .ok (.ifCond .ne 15, 3) := by decide +kernel
theorem dL_law_587 : decode cL_law 587 = .ok (.aload_n 3, 1) := by decide +kernel
theorem dL_law_588 : decode cL_law 588 = .ok (.iconst 0, 1) := by decide +kernel
theorem dL_law_589 : decode cL_law 589 = .ok (.laload, 1) := by decide +kernel
theorem dL_law_590 : decode cL_law 590 = .ok (.iload 7, 2) := by decide +kernel
theorem dL_law_592 : decode cL_law 592 = .ok (.i2l, 1) := by decide +kernel
theorem dL_law_593 : decode cL_law 593 = .ok (.lcmp, 1) := by decide +kernel
theorem dL_law_594 : decode cL_law 594 = .ok (.ifCond .eq 5, 3) := by decide +kernel
theorem dL_law_597 : decode cL_law 597 = .ok (.iconst 0, 1) := by decide +kernel
theorem dL_law_598 : decode cL_law 598 = .ok (.ireturn, 1) := by decide +kernel
theorem dL_law_599 : decode cL_law 599 = .ok (.goto 2084, 3) := by decide +kernel
theorem dL_law_602 : decode cL_law 602 = .ok (.aload_n 1, 1) := by decide +kernel
theorem dL_law_603 : decode cL_law 603 = .ok (.aload_n 0, 1) := by decide +kernel
theorem dL_law_604 : decode cL_law 604 = .ok (.iload 5, 2) := by decide +kernel
theorem dL_law_606 : decode cL_law 606 = .ok (.iconst 1, 1) := by decide +kernel
theorem dL_law_607 : decode cL_law 607 = .ok (.iadd, 1) := by decide +kernel
theorem dL_law_608 : decode cL_law 608 = .ok (.iaload, 1) := by decide +kernel
theorem dL_law_609 : decode cL_law 609 = .ok (.aload_n 3, 1) := by decide +kernel
theorem dL_law_610 : decode cL_law 610 = .ok (.invokestatic 174, 3) := by decide +kernel
theorem dL_law_613 : decode cL_law 613 = .ok (.istore 6, 2) := by decide +kernel
theorem dL_law_615 : decode cL_law 615 = .ok (.aload_n 2, 1) := by decide +kernel
theorem dL_law_616 : decode cL_law 616 = .ok (.aload_n 0, 1) := by decide +kernel
theorem dL_law_617 : decode cL_law 617 = .ok (.iload 5, 2) := by decide +kernel
theorem dL_law_619 : decode cL_law 619 = .ok (.iconst 1, 1) := by decide +kernel
theorem dL_law_620 : decode cL_law 620 = .ok (.iadd, 1) := by decide +kernel
theorem dL_law_621 : decode cL_law 621 = .ok (.iaload, 1) := by decide +kernel
theorem dL_law_622 : decode cL_law 622 = .ok (.invokevirtual 176, 3) := by decide +kernel
theorem dL_law_625 : decode cL_law 625 = .ok (.istore 7, 2) := by decide +kernel
theorem dL_law_627 : decode cL_law 627 = .ok (.aload_n 2, 1) := by decide +kernel
theorem dL_law_628 : decode cL_law 628 = .ok (.invokevirtual 154, 3) := by decide +kernel
theorem dL_law_631 : decode cL_law 631 = .ok (.iload 6, 2) := by decide +kernel
theorem dL_law_633 : decode cL_law 633 = .ok (.if_icmp .eq 5, 3) := by decide +kernel
theorem dL_law_636 : decode cL_law 636 = .ok (.iconst 0, 1) := by decide +kernel
theorem dL_law_637 : decode cL_law 637 = .ok (.ireturn, 1) := by decide +kernel
theorem dL_law_638 : decode cL_law 638 = .ok (.iload 6, 2) := by decide +kernel
theorem dL_law_640 : decode cL_law 640 = .ok (.ifCond .ne 15, 3) := by decide +kernel
theorem dL_law_643 : decode cL_law 643 = .ok (.aload_n 3, 1) := by decide +kernel
theorem dL_law_644 : decode cL_law 644 = .ok (.iconst 0, 1) := by decide +kernel
theorem dL_law_645 : decode cL_law 645 = .ok (.laload, 1) := by decide +kernel
theorem dL_law_646 : decode cL_law 646 = .ok (.iload 7, 2) := by decide +kernel
theorem dL_law_648 : decode cL_law 648 = .ok (.i2l, 1) := by decide +kernel
theorem dL_law_649 : decode cL_law 649 = .ok (.lcmp, 1) := by decide +kernel
theorem dL_law_650 : decode cL_law 650 = .ok (.ifCond .eq 5, 3) := by decide +kernel
theorem dL_law_653 : decode cL_law 653 = .ok (.iconst 0, 1) := by decide +kernel
theorem dL_law_654 : decode cL_law 654 = .ok (.ireturn, 1) := by decide +kernel
theorem dL_law_655 : decode cL_law 655 = .ok (.goto 2028, 3) := by decide +kernel
theorem dL_law_658 : decode cL_law 658 = .ok (.aload_n 1, 1) := by decide +kernel
theorem dL_law_659 : decode cL_law 659 = .ok (.aload_n 0, 1) := by decide +kernel
theorem dL_law_660 : decode cL_law 660 = .ok (.iload 5, 2) := by decide +kernel
theorem dL_law_662 : decode cL_law 662 = .ok (.iconst 1, 1) := by decide +kernel
theorem dL_law_663 : decode cL_law 663 = .ok (.iadd, 1) := by decide +kernel
theorem dL_law_664 : decode cL_law 664 = .ok (.iaload, 1) := by decide +kernel
theorem dL_law_665 : decode cL_law 665 = .ok (.aload_n 0, 1) := by decide +kernel
theorem dL_law_666 : decode cL_law 666 = .ok (.iload 5, 2) := by decide +kernel
theorem dL_law_668 : decode cL_law 668 = .ok (.iconst 2, 1) := by decide +kernel
theorem dL_law_669 : decode cL_law 669 = .ok (.iadd, 1) := by decide +kernel
theorem dL_law_670 : decode cL_law 670 = .ok (.iaload, 1) := by decide +kernel
theorem dL_law_671 : decode cL_law 671 = .ok (.aload 4, 2) := by decide +kernel
theorem dL_law_673 : decode cL_law 673 = .ok (.invokestatic 177, 3) := by decide +kernel
theorem dL_law_676 : decode cL_law 676 = .ok (.istore 6, 2) := by decide +kernel
theorem dL_law_678 : decode cL_law 678 = .ok (.aload_n 2, 1) := by decide +kernel
theorem dL_law_679 : decode cL_law 679 = .ok (.aload_n 0, 1) := by decide +kernel
theorem dL_law_680 : decode cL_law 680 = .ok (.iload 5, 2) := by decide +kernel
theorem dL_law_682 : decode cL_law 682 = .ok (.iconst 1, 1) := by decide +kernel
theorem dL_law_683 : decode cL_law 683 = .ok (.iadd, 1) := by decide +kernel
theorem dL_law_684 : decode cL_law 684 = .ok (.iaload, 1) := by decide +kernel
theorem dL_law_685 : decode cL_law 685 = .ok (.aload_n 0, 1) := by decide +kernel
theorem dL_law_686 : decode cL_law 686 = .ok (.iload 5, 2) := by decide +kernel
theorem dL_law_688 : decode cL_law 688 = .ok (.iconst 2, 1) := by decide +kernel
theorem dL_law_689 : decode cL_law 689 = .ok (.iadd, 1) := by decide +kernel
theorem dL_law_690 : decode cL_law 690 = .ok (.iaload, 1) := by decide +kernel
theorem dL_law_691 : decode cL_law 691 = .ok (.invokevirtual 180, 3) := by decide +kernel
theorem dL_law_694 : decode cL_law 694 = .ok (.dstore 7, 2) := by decide +kernel
theorem dL_law_696 : decode cL_law 696 = .ok (.aload_n 2, 1) := by decide +kernel
theorem dL_law_697 : decode cL_law 697 = .ok (.invokevirtual 154, 3) := by decide +kernel
theorem dL_law_700 : decode cL_law 700 = .ok (.iload 6, 2) := by decide +kernel
theorem dL_law_702 : decode cL_law 702 = .ok (.if_icmp .eq 5, 3) := by decide +kernel
theorem dL_law_705 : decode cL_law 705 = .ok (.iconst 0, 1) := by decide +kernel
theorem dL_law_706 : decode cL_law 706 = .ok (.ireturn, 1) := by decide +kernel
theorem dL_law_707 : decode cL_law 707 = .ok (.iload 6, 2) := by decide +kernel
theorem dL_law_709 : decode cL_law 709 = .ok (.ifCond .ne 35, 3) := by decide +kernel
theorem dL_law_712 : decode cL_law 712 = .ok (.aload 4, 2) := by decide +kernel
theorem dL_law_714 : decode cL_law 714 = .ok (.iconst 0, 1) := by decide +kernel
theorem dL_law_715 : decode cL_law 715 = .ok (.daload, 1) := by decide +kernel
theorem dL_law_716 : decode cL_law 716 = .ok (.dload 7, 2) := by decide +kernel
theorem dL_law_718 : decode cL_law 718 = .ok (.dcmp .l, 1) := by decide +kernel
theorem dL_law_719 : decode cL_law 719 = .ok (.ifCond .eq 25, 3) := by decide +kernel
theorem dL_law_722 : decode cL_law 722 = .ok (.aload 4, 2) := by decide +kernel
theorem dL_law_724 : decode cL_law 724 = .ok (.iconst 0, 1) := by decide +kernel
theorem dL_law_725 : decode cL_law 725 = .ok (.daload, 1) := by decide +kernel
theorem dL_law_726 : decode cL_law 726 = .ok (.aload 4, 2) := by decide +kernel
theorem dL_law_728 : decode cL_law 728 = .ok (.iconst 0, 1) := by decide +kernel
theorem dL_law_729 : decode cL_law 729 = .ok (.daload, 1) := by decide +kernel
theorem dL_law_730 : decode cL_law 730 = .ok (.dcmp .l, 1) := by decide +kernel
theorem dL_law_731 : decode cL_law 731 = .ok (.ifCond .eq 11, 3) := by decide +kernel
theorem dL_law_734 : decode cL_law 734 = .ok (.dload 7, 2) := by decide +kernel
theorem dL_law_736 : decode cL_law 736 = .ok (.dload 7, 2) := by decide +kernel
theorem dL_law_738 : decode cL_law 738 = .ok (.dcmp .l, 1) := by decide +kernel
theorem dL_law_739 : decode cL_law 739 = .ok (.ifCond .ne 5, 3) := by decide +kernel
theorem dL_law_742 : decode cL_law 742 = .ok (.iconst 0, 1) := by decide +kernel
theorem dL_law_743 : decode cL_law 743 = .ok (.ireturn, 1) := by decide +kernel
theorem dL_law_744 : decode cL_law 744 = .ok (.goto 1939, 3) := by decide +kernel
theorem dL_law_747 : decode cL_law 747 = .ok (.aload_n 1, 1) := by decide +kernel
theorem dL_law_748 : decode cL_law 748 = .ok (.aload_n 0, 1) := by decide +kernel
theorem dL_law_749 : decode cL_law 749 = .ok (.iload 5, 2) := by decide +kernel
theorem dL_law_751 : decode cL_law 751 = .ok (.iconst 1, 1) := by decide +kernel
theorem dL_law_752 : decode cL_law 752 = .ok (.iadd, 1) := by decide +kernel
theorem dL_law_753 : decode cL_law 753 = .ok (.iaload, 1) := by decide +kernel
theorem dL_law_754 : decode cL_law 754 = .ok (.aload_n 0, 1) := by decide +kernel
theorem dL_law_755 : decode cL_law 755 = .ok (.iload 5, 2) := by decide +kernel
theorem dL_law_757 : decode cL_law 757 = .ok (.iconst 2, 1) := by decide +kernel
theorem dL_law_758 : decode cL_law 758 = .ok (.iadd, 1) := by decide +kernel
theorem dL_law_759 : decode cL_law 759 = .ok (.iaload, 1) := by decide +kernel
theorem dL_law_760 : decode cL_law 760 = .ok (.aload 4, 2) := by decide +kernel
theorem dL_law_762 : decode cL_law 762 = .ok (.invokestatic 181, 3) := by decide +kernel
theorem dL_law_765 : decode cL_law 765 = .ok (.istore 6, 2) := by decide +kernel
theorem dL_law_767 : decode cL_law 767 = .ok (.aload_n 2, 1) := by decide +kernel
theorem dL_law_768 : decode cL_law 768 = .ok (.aload_n 0, 1) := by decide +kernel
theorem dL_law_769 : decode cL_law 769 = .ok (.iload 5, 2) := by decide +kernel
theorem dL_law_771 : decode cL_law 771 = .ok (.iconst 1, 1) := by decide +kernel
theorem dL_law_772 : decode cL_law 772 = .ok (.iadd, 1) := by decide +kernel
theorem dL_law_773 : decode cL_law 773 = .ok (.iaload, 1) := by decide +kernel
theorem dL_law_774 : decode cL_law 774 = .ok (.aload_n 0, 1) := by decide +kernel
theorem dL_law_775 : decode cL_law 775 = .ok (.iload 5, 2) := by decide +kernel
theorem dL_law_777 : decode cL_law 777 = .ok (.iconst 2, 1) := by decide +kernel
theorem dL_law_778 : decode cL_law 778 = .ok (.iadd, 1) := by decide +kernel
theorem dL_law_779 : decode cL_law 779 = .ok (.iaload, 1) := by decide +kernel
theorem dL_law_780 : decode cL_law 780 = .ok (.invokevirtual 183, 3) := by decide +kernel
theorem dL_law_783 : decode cL_law 783 = .ok (.dstore 7, 2) := by decide +kernel
theorem dL_law_785 : decode cL_law 785 = .ok (.aload_n 2, 1) := by decide +kernel
theorem dL_law_786 : decode cL_law 786 = .ok (.invokevirtual 154, 3) := by decide +kernel
theorem dL_law_789 : decode cL_law 789 = .ok (.iload 6, 2) := by decide +kernel
theorem dL_law_791 : decode cL_law 791 = .ok (.if_icmp .eq 5, 3) := by decide +kernel
theorem dL_law_794 : decode cL_law 794 = .ok (.iconst 0, 1) := by decide +kernel
theorem dL_law_795 : decode cL_law 795 = .ok (.ireturn, 1) := by decide +kernel
theorem dL_law_796 : decode cL_law 796 = .ok (.iload 6, 2) := by decide +kernel
theorem dL_law_798 : decode cL_law 798 = .ok (.ifCond .ne 35, 3) := by decide +kernel
theorem dL_law_801 : decode cL_law 801 = .ok (.aload 4, 2) := by decide +kernel
theorem dL_law_803 : decode cL_law 803 = .ok (.iconst 0, 1) := by decide +kernel
theorem dL_law_804 : decode cL_law 804 = .ok (.daload, 1) := by decide +kernel
theorem dL_law_805 : decode cL_law 805 = .ok (.dload 7, 2) := by decide +kernel
theorem dL_law_807 : decode cL_law 807 = .ok (.dcmp .l, 1) := by decide +kernel
theorem dL_law_808 : decode cL_law 808 = .ok (.ifCond .eq 25, 3) := by decide +kernel
theorem dL_law_811 : decode cL_law 811 = .ok (.aload 4, 2) := by decide +kernel
theorem dL_law_813 : decode cL_law 813 = .ok (.iconst 0, 1) := by decide +kernel
theorem dL_law_814 : decode cL_law 814 = .ok (.daload, 1) := by decide +kernel
theorem dL_law_815 : decode cL_law 815 = .ok (.aload 4, 2) := by decide +kernel
theorem dL_law_817 : decode cL_law 817 = .ok (.iconst 0, 1) := by decide +kernel
theorem dL_law_818 : decode cL_law 818 = .ok (.daload, 1) := by decide +kernel
theorem dL_law_819 : decode cL_law 819 = .ok (.dcmp .l, 1) := by decide +kernel
theorem dL_law_820 : decode cL_law 820 = .ok (.ifCond .eq 11, 3) := by decide +kernel
theorem dL_law_823 : decode cL_law 823 = .ok (.dload 7, 2) := by decide +kernel
theorem dL_law_825 : decode cL_law 825 = .ok (.dload 7, 2) := by decide +kernel
theorem dL_law_827 : decode cL_law 827 = .ok (.dcmp .l, 1) := by decide +kernel
theorem dL_law_828 : decode cL_law 828 = .ok (.ifCond .ne 5, 3) := by decide +kernel
theorem dL_law_831 : decode cL_law 831 = .ok (.iconst 0, 1) := by decide +kernel
theorem dL_law_832 : decode cL_law 832 = .ok (.ireturn, 1) := by decide +kernel
theorem dL_law_833 : decode cL_law 833 = .ok (.goto 1850, 3) := by decide +kernel
theorem dL_law_836 : decode cL_law 836 = .ok (.aload_n 1, 1) := by decide +kernel
theorem dL_law_837 : decode cL_law 837 = .ok (.aload_n 0, 1) := by decide +kernel
theorem dL_law_838 : decode cL_law 838 = .ok (.iload 5, 2) := by decide +kernel
theorem dL_law_840 : decode cL_law 840 = .ok (.iconst 1, 1) := by decide +kernel
theorem dL_law_841 : decode cL_law 841 = .ok (.iadd, 1) := by decide +kernel
theorem dL_law_842 : decode cL_law 842 = .ok (.iaload, 1) := by decide +kernel
theorem dL_law_843 : decode cL_law 843 = .ok (.aload_n 0, 1) := by decide +kernel
theorem dL_law_844 : decode cL_law 844 = .ok (.iload 5, 2) := by decide +kernel
theorem dL_law_846 : decode cL_law 846 = .ok (.iconst 2, 1) := by decide +kernel
theorem dL_law_847 : decode cL_law 847 = .ok (.iadd, 1) := by decide +kernel
theorem dL_law_848 : decode cL_law 848 = .ok (.iaload, 1) := by decide +kernel
theorem dL_law_849 : decode cL_law 849 = .ok (.aload_n 3, 1) := by decide +kernel
theorem dL_law_850 : decode cL_law 850 = .ok (.invokestatic 184, 3) := by decide +kernel
theorem dL_law_853 : decode cL_law 853 = .ok (.istore 6, 2) := by decide +kernel
theorem dL_law_855 : decode cL_law 855 = .ok (.aload_n 2, 1) := by decide +kernel
theorem dL_law_856 : decode cL_law 856 = .ok (.aload_n 0, 1) := by decide +kernel
theorem dL_law_857 : decode cL_law 857 = .ok (.iload 5, 2) := by decide +kernel
theorem dL_law_859 : decode cL_law 859 = .ok (.iconst 1, 1) := by decide +kernel
theorem dL_law_860 : decode cL_law 860 = .ok (.iadd, 1) := by decide +kernel
theorem dL_law_861 : decode cL_law 861 = .ok (.iaload, 1) := by decide +kernel
theorem dL_law_862 : decode cL_law 862 = .ok (.aload_n 0, 1) := by decide +kernel
theorem dL_law_863 : decode cL_law 863 = .ok (.iload 5, 2) := by decide +kernel
theorem dL_law_865 : decode cL_law 865 = .ok (.iconst 2, 1) := by decide +kernel
theorem dL_law_866 : decode cL_law 866 = .ok (.iadd, 1) := by decide +kernel
theorem dL_law_867 : decode cL_law 867 = .ok (.iaload, 1) := by decide +kernel
theorem dL_law_868 : decode cL_law 868 = .ok (.invokevirtual 186, 3) := by decide +kernel
theorem dL_law_871 : decode cL_law 871 = .ok (.istore 7, 2) := by decide +kernel
theorem dL_law_873 : decode cL_law 873 = .ok (.aload_n 2, 1) := by decide +kernel
theorem dL_law_874 : decode cL_law 874 = .ok (.invokevirtual 154, 3) := by decide +kernel
theorem dL_law_877 : decode cL_law 877 = .ok (.iload 6, 2) := by decide +kernel
theorem dL_law_879 : decode cL_law 879 = .ok (.if_icmp .eq 5, 3) := by decide +kernel
theorem dL_law_882 : decode cL_law 882 = .ok (.iconst 0, 1) := by decide +kernel
theorem dL_law_883 : decode cL_law 883 = .ok (.ireturn, 1) := by decide +kernel
theorem dL_law_884 : decode cL_law 884 = .ok (.iload 6, 2) := by decide +kernel
theorem dL_law_886 : decode cL_law 886 = .ok (.ifCond .ne 15, 3) := by decide +kernel
theorem dL_law_889 : decode cL_law 889 = .ok (.aload_n 3, 1) := by decide +kernel
theorem dL_law_890 : decode cL_law 890 = .ok (.iconst 0, 1) := by decide +kernel
theorem dL_law_891 : decode cL_law 891 = .ok (.laload, 1) := by decide +kernel
theorem dL_law_892 : decode cL_law 892 = .ok (.iload 7, 2) := by decide +kernel
theorem dL_law_894 : decode cL_law 894 = .ok (.i2l, 1) := by decide +kernel
theorem dL_law_895 : decode cL_law 895 = .ok (.lcmp, 1) := by decide +kernel
theorem dL_law_896 : decode cL_law 896 = .ok (.ifCond .eq 5, 3) := by decide +kernel
theorem dL_law_899 : decode cL_law 899 = .ok (.iconst 0, 1) := by decide +kernel
theorem dL_law_900 : decode cL_law 900 = .ok (.ireturn, 1) := by decide +kernel
theorem dL_law_901 : decode cL_law 901 = .ok (.goto 1782, 3) := by decide +kernel
theorem dL_law_904 : decode cL_law 904 = .ok (.aload_n 1, 1) := by decide +kernel
theorem dL_law_905 : decode cL_law 905 = .ok (.aload_n 0, 1) := by decide +kernel
theorem dL_law_906 : decode cL_law 906 = .ok (.iload 5, 2) := by decide +kernel
theorem dL_law_908 : decode cL_law 908 = .ok (.iconst 1, 1) := by decide +kernel
theorem dL_law_909 : decode cL_law 909 = .ok (.iadd, 1) := by decide +kernel
theorem dL_law_910 : decode cL_law 910 = .ok (.iaload, 1) := by decide +kernel
theorem dL_law_911 : decode cL_law 911 = .ok (.aload_n 0, 1) := by decide +kernel
theorem dL_law_912 : decode cL_law 912 = .ok (.iload 5, 2) := by decide +kernel
theorem dL_law_914 : decode cL_law 914 = .ok (.iconst 2, 1) := by decide +kernel
theorem dL_law_915 : decode cL_law 915 = .ok (.iadd, 1) := by decide +kernel
theorem dL_law_916 : decode cL_law 916 = .ok (.iaload, 1) := by decide +kernel
theorem dL_law_917 : decode cL_law 917 = .ok (.aload_n 3, 1) := by decide +kernel
theorem dL_law_918 : decode cL_law 918 = .ok (.invokestatic 187, 3) := by decide +kernel
theorem dL_law_921 : decode cL_law 921 = .ok (.istore 6, 2) := by decide +kernel
theorem dL_law_923 : decode cL_law 923 = .ok (.aload_n 2, 1) := by decide +kernel
theorem dL_law_924 : decode cL_law 924 = .ok (.aload_n 0, 1) := by decide +kernel
theorem dL_law_925 : decode cL_law 925 = .ok (.iload 5, 2) := by decide +kernel
theorem dL_law_927 : decode cL_law 927 = .ok (.iconst 1, 1) := by decide +kernel
theorem dL_law_928 : decode cL_law 928 = .ok (.iadd, 1) := by decide +kernel
theorem dL_law_929 : decode cL_law 929 = .ok (.iaload, 1) := by decide +kernel
theorem dL_law_930 : decode cL_law 930 = .ok (.aload_n 0, 1) := by decide +kernel
theorem dL_law_931 : decode cL_law 931 = .ok (.iload 5, 2) := by decide +kernel
theorem dL_law_933 : decode cL_law 933 = .ok (.iconst 2, 1) := by decide +kernel
theorem dL_law_934 : decode cL_law 934 = .ok (.iadd, 1) := by decide +kernel
theorem dL_law_935 : decode cL_law 935 = .ok (.iaload, 1) := by decide +kernel
theorem dL_law_936 : decode cL_law 936 = .ok (.invokevirtual 189, 3) := by decide +kernel
theorem dL_law_939 : decode cL_law 939 = .ok (.istore 7, 2) := by decide +kernel
theorem dL_law_941 : decode cL_law 941 = .ok (.aload_n 2, 1) := by decide +kernel
theorem dL_law_942 : decode cL_law 942 = .ok (.invokevirtual 154, 3) := by decide +kernel
theorem dL_law_945 : decode cL_law 945 = .ok (.iload 6, 2) := by decide +kernel
theorem dL_law_947 : decode cL_law 947 = .ok (.if_icmp .eq 5, 3) := by decide +kernel
theorem dL_law_950 : decode cL_law 950 = .ok (.iconst 0, 1) := by decide +kernel
theorem dL_law_951 : decode cL_law 951 = .ok (.ireturn, 1) := by decide +kernel
theorem dL_law_952 : decode cL_law 952 = .ok (.iload 6, 2) := by decide +kernel
theorem dL_law_954 : decode cL_law 954 = .ok (.ifCond .ne 15, 3) := by decide +kernel
theorem dL_law_957 : decode cL_law 957 = .ok (.aload_n 3, 1) := by decide +kernel
theorem dL_law_958 : decode cL_law 958 = .ok (.iconst 0, 1) := by decide +kernel
theorem dL_law_959 : decode cL_law 959 = .ok (.laload, 1) := by decide +kernel
theorem dL_law_960 : decode cL_law 960 = .ok (.iload 7, 2) := by decide +kernel
theorem dL_law_962 : decode cL_law 962 = .ok (.i2l, 1) := by decide +kernel
theorem dL_law_963 : decode cL_law 963 = .ok (.lcmp, 1) := by decide +kernel
theorem dL_law_964 : decode cL_law 964 = .ok (.ifCond .eq 5, 3) := by decide +kernel
theorem dL_law_967 : decode cL_law 967 = .ok (.iconst 0, 1) := by decide +kernel
theorem dL_law_968 : decode cL_law 968 = .ok (.ireturn, 1) := by decide +kernel
theorem dL_law_969 : decode cL_law 969 = .ok (.goto 1714, 3) := by decide +kernel
theorem dL_law_972 : decode cL_law 972 = .ok (.aload_n 1, 1) := by decide +kernel
theorem dL_law_973 : decode cL_law 973 = .ok (.aload_n 0, 1) := by decide +kernel
theorem dL_law_974 : decode cL_law 974 = .ok (.iload 5, 2) := by decide +kernel
theorem dL_law_976 : decode cL_law 976 = .ok (.iconst 1, 1) := by decide +kernel
theorem dL_law_977 : decode cL_law 977 = .ok (.iadd, 1) := by decide +kernel
theorem dL_law_978 : decode cL_law 978 = .ok (.iaload, 1) := by decide +kernel
theorem dL_law_979 : decode cL_law 979 = .ok (.aload_n 0, 1) := by decide +kernel
theorem dL_law_980 : decode cL_law 980 = .ok (.iload 5, 2) := by decide +kernel
theorem dL_law_982 : decode cL_law 982 = .ok (.iconst 2, 1) := by decide +kernel
theorem dL_law_983 : decode cL_law 983 = .ok (.iadd, 1) := by decide +kernel
theorem dL_law_984 : decode cL_law 984 = .ok (.iaload, 1) := by decide +kernel
theorem dL_law_985 : decode cL_law 985 = .ok (.aload 4, 2) := by decide +kernel
theorem dL_law_987 : decode cL_law 987 = .ok (.invokestatic 190, 3) := by decide +kernel
theorem dL_law_990 : decode cL_law 990 = .ok (.istore 6, 2) := by decide +kernel
theorem dL_law_992 : decode cL_law 992 = .ok (.aload_n 2, 1) := by decide +kernel
theorem dL_law_993 : decode cL_law 993 = .ok (.aload_n 0, 1) := by decide +kernel
theorem dL_law_994 : decode cL_law 994 = .ok (.iload 5, 2) := by decide +kernel
theorem dL_law_996 : decode cL_law 996 = .ok (.iconst 1, 1) := by decide +kernel
theorem dL_law_997 : decode cL_law 997 = .ok (.iadd, 1) := by decide +kernel
theorem dL_law_998 : decode cL_law 998 = .ok (.iaload, 1) := by decide +kernel
theorem dL_law_999 : decode cL_law 999 = .ok (.aload_n 0, 1) := by decide +kernel
theorem dL_law_1000 : decode cL_law 1000 = .ok (.iload 5, 2) := by decide +kernel
theorem dL_law_1002 : decode cL_law 1002 = .ok (.iconst 2, 1) := by decide +kernel
theorem dL_law_1003 : decode cL_law 1003 = .ok (.iadd, 1) := by decide +kernel
theorem dL_law_1004 : decode cL_law 1004 = .ok (.iaload, 1) := by decide +kernel
theorem dL_law_1005 : decode cL_law 1005 = .ok (.invokevirtual 192, 3) := by decide +kernel
theorem dL_law_1008 : decode cL_law 1008 = .ok (.dstore 7, 2) := by decide +kernel
theorem dL_law_1010 : decode cL_law 1010 = .ok (.aload_n 2, 1) := by decide +kernel
theorem dL_law_1011 : decode cL_law 1011 = .ok (.invokevirtual 154, 3) := by decide +kernel
theorem dL_law_1014 : decode cL_law 1014 = .ok (.iload 6, 2) := by decide +kernel
theorem dL_law_1016 : decode cL_law 1016 = .ok (.if_icmp .eq 5, 3) := by decide +kernel
theorem dL_law_1019 : decode cL_law 1019 = .ok (.iconst 0, 1) := by decide +kernel
theorem dL_law_1020 : decode cL_law 1020 = .ok (.ireturn, 1) := by decide +kernel
theorem dL_law_1021 : decode cL_law 1021 = .ok (.iload 6, 2) := by decide +kernel
theorem dL_law_1023 : decode cL_law 1023 = .ok (.ifCond .ne 35, 3) := by decide +kernel
theorem dL_law_1026 : decode cL_law 1026 = .ok (.aload 4, 2) := by decide +kernel
theorem dL_law_1028 : decode cL_law 1028 = .ok (.iconst 0, 1) := by decide +kernel
theorem dL_law_1029 : decode cL_law 1029 = .ok (.daload, 1) := by decide +kernel
theorem dL_law_1030 : decode cL_law 1030 = .ok (.dload 7, 2) := by decide +kernel
theorem dL_law_1032 : decode cL_law 1032 = .ok (.dcmp .l, 1) := by decide +kernel
theorem dL_law_1033 : decode cL_law 1033 = .ok (.ifCond .eq 25, 3) := by decide +kernel
theorem dL_law_1036 : decode cL_law 1036 = .ok (.aload 4, 2) := by decide +kernel
theorem dL_law_1038 : decode cL_law 1038 = .ok (.iconst 0, 1) := by decide +kernel
theorem dL_law_1039 : decode cL_law 1039 = .ok (.daload, 1) := by decide +kernel
theorem dL_law_1040 : decode cL_law 1040 = .ok (.aload 4, 2) := by decide +kernel
theorem dL_law_1042 : decode cL_law 1042 = .ok (.iconst 0, 1) := by decide +kernel
theorem dL_law_1043 : decode cL_law 1043 = .ok (.daload, 1) := by decide +kernel
theorem dL_law_1044 : decode cL_law 1044 = .ok (.dcmp .l, 1) := by decide +kernel
theorem dL_law_1045 : decode cL_law 1045 = .ok (.ifCond .eq 11, 3) := by decide +kernel
theorem dL_law_1048 : decode cL_law 1048 = .ok (.dload 7, 2) := by decide +kernel
theorem dL_law_1050 : decode cL_law 1050 = .ok (.dload 7, 2) := by decide +kernel
theorem dL_law_1052 : decode cL_law 1052 = .ok (.dcmp .l, 1) := by decide +kernel
theorem dL_law_1053 : decode cL_law 1053 = .ok (.ifCond .ne 5, 3) := by decide +kernel
theorem dL_law_1056 : decode cL_law 1056 = .ok (.iconst 0, 1) := by decide +kernel
theorem dL_law_1057 : decode cL_law 1057 = .ok (.ireturn, 1) := by decide +kernel
theorem dL_law_1058 : decode cL_law 1058 = .ok (.goto 1625, 3) := by decide +kernel
theorem dL_law_1061 : decode cL_law 1061 = .ok (.aload_n 1, 1) := by decide +kernel
theorem dL_law_1062 : decode cL_law 1062 = .ok (.aload_n 0, 1) := by decide +kernel
theorem dL_law_1063 : decode cL_law 1063 = .ok (.iload 5, 2) := by decide +kernel
theorem dL_law_1065 : decode cL_law 1065 = .ok (.iconst 1, 1) := by decide +kernel
theorem dL_law_1066 : decode cL_law 1066 = .ok (.iadd, 1) := by decide +kernel
theorem dL_law_1067 : decode cL_law 1067 = .ok (.iaload, 1) := by decide +kernel
theorem dL_law_1068 : decode cL_law 1068 = .ok (.aload_n 0, 1) := by decide +kernel
theorem dL_law_1069 : decode cL_law 1069 = .ok (.iload 5, 2) := by decide +kernel
theorem dL_law_1071 : decode cL_law 1071 = .ok (.iconst 2, 1) := by decide +kernel
theorem dL_law_1072 : decode cL_law 1072 = .ok (.iadd, 1) := by decide +kernel
theorem dL_law_1073 : decode cL_law 1073 = .ok (.iaload, 1) := by decide +kernel
theorem dL_law_1074 : decode cL_law 1074 = .ok (.aload_n 3, 1) := by decide +kernel
theorem dL_law_1075 : decode cL_law 1075 = .ok (.invokestatic 193, 3) := by decide +kernel
theorem dL_law_1078 : decode cL_law 1078 = .ok (.istore 6, 2) := by decide +kernel
theorem dL_law_1080 : decode cL_law 1080 = .ok (.aload_n 2, 1) := by decide +kernel
theorem dL_law_1081 : decode cL_law 1081 = .ok (.aload_n 0, 1) := by decide +kernel
theorem dL_law_1082 : decode cL_law 1082 = .ok (.iload 5, 2) := by decide +kernel
theorem dL_law_1084 : decode cL_law 1084 = .ok (.iconst 1, 1) := by decide +kernel
theorem dL_law_1085 : decode cL_law 1085 = .ok (.iadd, 1) := by decide +kernel
theorem dL_law_1086 : decode cL_law 1086 = .ok (.iaload, 1) := by decide +kernel
theorem dL_law_1087 : decode cL_law 1087 = .ok (.aload_n 0, 1) := by decide +kernel
theorem dL_law_1088 : decode cL_law 1088 = .ok (.iload 5, 2) := by decide +kernel
theorem dL_law_1090 : decode cL_law 1090 = .ok (.iconst 2, 1) := by decide +kernel
theorem dL_law_1091 : decode cL_law 1091 = .ok (.iadd, 1) := by decide +kernel
theorem dL_law_1092 : decode cL_law 1092 = .ok (.iaload, 1) := by decide +kernel
theorem dL_law_1093 : decode cL_law 1093 = .ok (.invokevirtual 195, 3) := by decide +kernel
theorem dL_law_1096 : decode cL_law 1096 = .ok (.istore 7, 2) := by decide +kernel
theorem dL_law_1098 : decode cL_law 1098 = .ok (.aload_n 2, 1) := by decide +kernel
theorem dL_law_1099 : decode cL_law 1099 = .ok (.invokevirtual 154, 3) := by decide +kernel
theorem dL_law_1102 : decode cL_law 1102 = .ok (.iload 6, 2) := by decide +kernel
theorem dL_law_1104 : decode cL_law 1104 = .ok (.if_icmp .eq 5, 3) := by decide +kernel
theorem dL_law_1107 : decode cL_law 1107 = .ok (.iconst 0, 1) := by decide +kernel
theorem dL_law_1108 : decode cL_law 1108 = .ok (.ireturn, 1) := by decide +kernel
theorem dL_law_1109 : decode cL_law 1109 = .ok (.iload 6, 2) := by decide +kernel
theorem dL_law_1111 : decode cL_law 1111 = .ok (.ifCond .ne 22, 3) := by decide +kernel
theorem dL_law_1114 : decode cL_law 1114 = .ok (.aload_n 3, 1) := by decide +kernel
theorem dL_law_1115 : decode cL_law 1115 = .ok (.iconst 0, 1) := by decide +kernel
theorem dL_law_1116 : decode cL_law 1116 = .ok (.laload, 1) := by decide +kernel
theorem dL_law_1117 : decode cL_law 1117 = .ok (.iload 7, 2) := by decide +kernel
theorem dL_law_1119 : decode cL_law 1119 = .ok (.ifCond .eq 7, 3) := by decide +kernel
theorem dL_law_1122 : decode cL_law 1122 = .ok (.lconst 1, 1) := by decide +kernel
theorem dL_law_1123 : decode cL_law 1123 = .ok (.goto 4, 3) := by decide +kernel
theorem dL_law_1126 : decode cL_law 1126 = .ok (.lconst 0, 1) := by decide +kernel
theorem dL_law_1127 : decode cL_law 1127 = .ok (.lcmp, 1) := by decide +kernel
theorem dL_law_1128 : decode cL_law 1128 = .ok (.ifCond .eq 5, 3) := by decide +kernel
theorem dL_law_1131 : decode cL_law 1131 = .ok (.iconst 0, 1) := by decide +kernel
theorem dL_law_1132 : decode cL_law 1132 = .ok (.ireturn, 1) := by decide +kernel
theorem dL_law_1133 : decode cL_law 1133 = .ok (.goto 1550, 3) := by decide +kernel
theorem dL_law_1136 : decode cL_law 1136 = .ok (.aload_n 1, 1) := by decide +kernel
theorem dL_law_1137 : decode cL_law 1137 = .ok (.aload_n 0, 1) := by decide +kernel
theorem dL_law_1138 : decode cL_law 1138 = .ok (.iload 5, 2) := by decide +kernel
theorem dL_law_1140 : decode cL_law 1140 = .ok (.iconst 1, 1) := by decide +kernel
theorem dL_law_1141 : decode cL_law 1141 = .ok (.iadd, 1) := by decide +kernel
theorem dL_law_1142 : decode cL_law 1142 = .ok (.iaload, 1) := by decide +kernel
theorem dL_law_1143 : decode cL_law 1143 = .ok (.aload_n 3, 1) := by decide +kernel
theorem dL_law_1144 : decode cL_law 1144 = .ok (.invokestatic 196, 3) := by decide +kernel
theorem dL_law_1147 : decode cL_law 1147 = .ok (.istore 6, 2) := by decide +kernel
theorem dL_law_1149 : decode cL_law 1149 = .ok (.aload_n 2, 1) := by decide +kernel
theorem dL_law_1150 : decode cL_law 1150 = .ok (.aload_n 0, 1) := by decide +kernel
theorem dL_law_1151 : decode cL_law 1151 = .ok (.iload 5, 2) := by decide +kernel
theorem dL_law_1153 : decode cL_law 1153 = .ok (.iconst 1, 1) := by decide +kernel
theorem dL_law_1154 : decode cL_law 1154 = .ok (.iadd, 1) := by decide +kernel
theorem dL_law_1155 : decode cL_law 1155 = .ok (.iaload, 1) := by decide +kernel
theorem dL_law_1156 : decode cL_law 1156 = .ok (.invokevirtual 198, 3) := by decide +kernel
theorem dL_law_1159 : decode cL_law 1159 = .ok (.istore 7, 2) := by decide +kernel
theorem dL_law_1161 : decode cL_law 1161 = .ok (.aload_n 2, 1) := by decide +kernel
theorem dL_law_1162 : decode cL_law 1162 = .ok (.invokevirtual 154, 3) := by decide +kernel
theorem dL_law_1165 : decode cL_law 1165 = .ok (.iload 6, 2) := by decide +kernel
theorem dL_law_1167 : decode cL_law 1167 = .ok (.if_icmp .eq 5, 3) := by decide +kernel
theorem dL_law_1170 : decode cL_law 1170 = .ok (.iconst 0, 1) := by decide +kernel
theorem dL_law_1171 : decode cL_law 1171 = .ok (.ireturn, 1) := by decide +kernel
theorem dL_law_1172 : decode cL_law 1172 = .ok (.iload 6, 2) := by decide +kernel
theorem dL_law_1174 : decode cL_law 1174 = .ok (.ifCond .ne 15, 3) := by decide +kernel
theorem dL_law_1177 : decode cL_law 1177 = .ok (.aload_n 3, 1) := by decide +kernel
theorem dL_law_1178 : decode cL_law 1178 = .ok (.iconst 0, 1) := by decide +kernel
theorem dL_law_1179 : decode cL_law 1179 = .ok (.laload, 1) := by decide +kernel
theorem dL_law_1180 : decode cL_law 1180 = .ok (.iload 7, 2) := by decide +kernel
theorem dL_law_1182 : decode cL_law 1182 = .ok (.i2l, 1) := by decide +kernel
theorem dL_law_1183 : decode cL_law 1183 = .ok (.lcmp, 1) := by decide +kernel
theorem dL_law_1184 : decode cL_law 1184 = .ok (.ifCond .eq 5, 3) := by decide +kernel
theorem dL_law_1187 : decode cL_law 1187 = .ok (.iconst 0, 1) := by decide +kernel
theorem dL_law_1188 : decode cL_law 1188 = .ok (.ireturn, 1) := by decide +kernel
theorem dL_law_1189 : decode cL_law 1189 = .ok (.goto 1494, 3) := by decide +kernel
theorem dL_law_1192 : decode cL_law 1192 = .ok (.aload_n 1, 1) := by decide +kernel
theorem dL_law_1193 : decode cL_law 1193 = .ok (.aload_n 0, 1) := by decide +kernel
theorem dL_law_1194 : decode cL_law 1194 = .ok (.iload 5, 2) := by decide +kernel
theorem dL_law_1196 : decode cL_law 1196 = .ok (.iconst 1, 1) := by decide +kernel
theorem dL_law_1197 : decode cL_law 1197 = .ok (.iadd, 1) := by decide +kernel
theorem dL_law_1198 : decode cL_law 1198 = .ok (.iaload, 1) := by decide +kernel
theorem dL_law_1199 : decode cL_law 1199 = .ok (.aload_n 3, 1) := by decide +kernel
theorem dL_law_1200 : decode cL_law 1200 = .ok (.invokestatic 199, 3) := by decide +kernel
theorem dL_law_1203 : decode cL_law 1203 = .ok (.istore 6, 2) := by decide +kernel
theorem dL_law_1205 : decode cL_law 1205 = .ok (.aload_n 2, 1) := by decide +kernel
theorem dL_law_1206 : decode cL_law 1206 = .ok (.aload_n 0, 1) := by decide +kernel
theorem dL_law_1207 : decode cL_law 1207 = .ok (.iload 5, 2) := by decide +kernel
theorem dL_law_1209 : decode cL_law 1209 = .ok (.iconst 1, 1) := by decide +kernel
theorem dL_law_1210 : decode cL_law 1210 = .ok (.iadd, 1) := by decide +kernel
theorem dL_law_1211 : decode cL_law 1211 = .ok (.iaload, 1) := by decide +kernel
theorem dL_law_1212 : decode cL_law 1212 = .ok (.invokevirtual 201, 3) := by decide +kernel
theorem dL_law_1215 : decode cL_law 1215 = .ok (.istore 7, 2) := by decide +kernel
theorem dL_law_1217 : decode cL_law 1217 = .ok (.aload_n 2, 1) := by decide +kernel
theorem dL_law_1218 : decode cL_law 1218 = .ok (.invokevirtual 154, 3) := by decide +kernel
theorem dL_law_1221 : decode cL_law 1221 = .ok (.iload 6, 2) := by decide +kernel
theorem dL_law_1223 : decode cL_law 1223 = .ok (.if_icmp .eq 5, 3) := by decide +kernel
theorem dL_law_1226 : decode cL_law 1226 = .ok (.iconst 0, 1) := by decide +kernel
theorem dL_law_1227 : decode cL_law 1227 = .ok (.ireturn, 1) := by decide +kernel
theorem dL_law_1228 : decode cL_law 1228 = .ok (.iload 6, 2) := by decide +kernel
theorem dL_law_1230 : decode cL_law 1230 = .ok (.ifCond .ne 15, 3) := by decide +kernel
theorem dL_law_1233 : decode cL_law 1233 = .ok (.aload_n 3, 1) := by decide +kernel
theorem dL_law_1234 : decode cL_law 1234 = .ok (.iconst 0, 1) := by decide +kernel
theorem dL_law_1235 : decode cL_law 1235 = .ok (.laload, 1) := by decide +kernel
theorem dL_law_1236 : decode cL_law 1236 = .ok (.iload 7, 2) := by decide +kernel
theorem dL_law_1238 : decode cL_law 1238 = .ok (.i2l, 1) := by decide +kernel
theorem dL_law_1239 : decode cL_law 1239 = .ok (.lcmp, 1) := by decide +kernel
theorem dL_law_1240 : decode cL_law 1240 = .ok (.ifCond .eq 5, 3) := by decide +kernel
theorem dL_law_1243 : decode cL_law 1243 = .ok (.iconst 0, 1) := by decide +kernel
theorem dL_law_1244 : decode cL_law 1244 = .ok (.ireturn, 1) := by decide +kernel
theorem dL_law_1245 : decode cL_law 1245 = .ok (.goto 1438, 3) := by decide +kernel
theorem dL_law_1248 : decode cL_law 1248 = .ok (.aload_n 1, 1) := by decide +kernel
theorem dL_law_1249 : decode cL_law 1249 = .ok (.aload_n 0, 1) := by decide +kernel
theorem dL_law_1250 : decode cL_law 1250 = .ok (.iload 5, 2) := by decide +kernel
theorem dL_law_1252 : decode cL_law 1252 = .ok (.iconst 1, 1) := by decide +kernel
theorem dL_law_1253 : decode cL_law 1253 = .ok (.iadd, 1) := by decide +kernel
theorem dL_law_1254 : decode cL_law 1254 = .ok (.iaload, 1) := by decide +kernel
theorem dL_law_1255 : decode cL_law 1255 = .ok (.aload_n 0, 1) := by decide +kernel
theorem dL_law_1256 : decode cL_law 1256 = .ok (.iload 5, 2) := by decide +kernel
theorem dL_law_1258 : decode cL_law 1258 = .ok (.iconst 2, 1) := by decide +kernel
theorem dL_law_1259 : decode cL_law 1259 = .ok (.iadd, 1) := by decide +kernel
theorem dL_law_1260 : decode cL_law 1260 = .ok (.iaload, 1) := by decide +kernel
theorem dL_law_1261 : decode cL_law 1261 = .ok (.aload_n 0, 1) := by decide +kernel
theorem dL_law_1262 : decode cL_law 1262 = .ok (.iload 5, 2) := by decide +kernel
theorem dL_law_1264 : decode cL_law 1264 = .ok (.iconst 3, 1) := by decide +kernel
theorem dL_law_1265 : decode cL_law 1265 = .ok (.iadd, 1) := by decide +kernel
theorem dL_law_1266 : decode cL_law 1266 = .ok (.iaload, 1) := by decide +kernel
theorem dL_law_1267 : decode cL_law 1267 = .ok (.aload_n 3, 1) := by decide +kernel
theorem dL_law_1268 : decode cL_law 1268 = .ok (.invokestatic 202, 3) := by decide +kernel
theorem dL_law_1271 : decode cL_law 1271 = .ok (.istore 6, 2) := by decide +kernel
theorem dL_law_1273 : decode cL_law 1273 = .ok (.aload_n 2, 1) := by decide +kernel
theorem dL_law_1274 : decode cL_law 1274 = .ok (.aload_n 0, 1) := by decide +kernel
theorem dL_law_1275 : decode cL_law 1275 = .ok (.iload 5, 2) := by decide +kernel
theorem dL_law_1277 : decode cL_law 1277 = .ok (.iconst 1, 1) := by decide +kernel
theorem dL_law_1278 : decode cL_law 1278 = .ok (.iadd, 1) := by decide +kernel
theorem dL_law_1279 : decode cL_law 1279 = .ok (.iaload, 1) := by decide +kernel
theorem dL_law_1280 : decode cL_law 1280 = .ok (.aload_n 0, 1) := by decide +kernel
theorem dL_law_1281 : decode cL_law 1281 = .ok (.iload 5, 2) := by decide +kernel
theorem dL_law_1283 : decode cL_law 1283 = .ok (.iconst 2, 1) := by decide +kernel
theorem dL_law_1284 : decode cL_law 1284 = .ok (.iadd, 1) := by decide +kernel
theorem dL_law_1285 : decode cL_law 1285 = .ok (.iaload, 1) := by decide +kernel
theorem dL_law_1286 : decode cL_law 1286 = .ok (.aload_n 0, 1) := by decide +kernel
theorem dL_law_1287 : decode cL_law 1287 = .ok (.iload 5, 2) := by decide +kernel
theorem dL_law_1289 : decode cL_law 1289 = .ok (.iconst 3, 1) := by decide +kernel
theorem dL_law_1290 : decode cL_law 1290 = .ok (.iadd, 1) := by decide +kernel
theorem dL_law_1291 : decode cL_law 1291 = .ok (.iaload, 1) := by decide +kernel
theorem dL_law_1292 : decode cL_law 1292 = .ok (.invokevirtual 205, 3) := by decide +kernel
theorem dL_law_1295 : decode cL_law 1295 = .ok (.istore 7, 2) := by decide +kernel
theorem dL_law_1297 : decode cL_law 1297 = .ok (.aload_n 2, 1) := by decide +kernel
theorem dL_law_1298 : decode cL_law 1298 = .ok (.invokevirtual 154, 3) := by decide +kernel
theorem dL_law_1301 : decode cL_law 1301 = .ok (.iload 6, 2) := by decide +kernel
theorem dL_law_1303 : decode cL_law 1303 = .ok (.if_icmp .eq 5, 3) := by decide +kernel
theorem dL_law_1306 : decode cL_law 1306 = .ok (.iconst 0, 1) := by decide +kernel
theorem dL_law_1307 : decode cL_law 1307 = .ok (.ireturn, 1) := by decide +kernel
theorem dL_law_1308 : decode cL_law 1308 = .ok (.iload 6, 2) := by decide +kernel
theorem dL_law_1310 : decode cL_law 1310 = .ok (.ifCond .ne 15, 3) := by decide +kernel
theorem dL_law_1313 : decode cL_law 1313 = .ok (.aload_n 3, 1) := by decide +kernel
theorem dL_law_1314 : decode cL_law 1314 = .ok (.iconst 0, 1) := by decide +kernel
theorem dL_law_1315 : decode cL_law 1315 = .ok (.laload, 1) := by decide +kernel
theorem dL_law_1316 : decode cL_law 1316 = .ok (.iload 7, 2) := by decide +kernel
theorem dL_law_1318 : decode cL_law 1318 = .ok (.i2l, 1) := by decide +kernel
theorem dL_law_1319 : decode cL_law 1319 = .ok (.lcmp, 1) := by decide +kernel
theorem dL_law_1320 : decode cL_law 1320 = .ok (.ifCond .eq 5, 3) := by decide +kernel
theorem dL_law_1323 : decode cL_law 1323 = .ok (.iconst 0, 1) := by decide +kernel
theorem dL_law_1324 : decode cL_law 1324 = .ok (.ireturn, 1) := by decide +kernel
theorem dL_law_1325 : decode cL_law 1325 = .ok (.goto 1358, 3) := by decide +kernel
theorem dL_law_1328 : decode cL_law 1328 = .ok (.aload_n 1, 1) := by decide +kernel
theorem dL_law_1329 : decode cL_law 1329 = .ok (.invokevirtual 206, 3) := by decide +kernel
theorem dL_law_1332 : decode cL_law 1332 = .ok (.aload_n 2, 1) := by decide +kernel
theorem dL_law_1333 : decode cL_law 1333 = .ok (.invokevirtual 209, 3) := by decide +kernel
theorem dL_law_1336 : decode cL_law 1336 = .ok (.if_icmp .eq 1347, 3) := by decide +kernel
theorem dL_law_1339 : decode cL_law 1339 = .ok (.iconst 0, 1) := by decide +kernel
theorem dL_law_1340 : decode cL_law 1340 = .ok (.ireturn, 1) := by decide +kernel
theorem dL_law_1341 : decode cL_law 1341 = .ok (.aload_n 1, 1) := by decide +kernel
theorem dL_law_1342 : decode cL_law 1342 = .ok (.invokevirtual 210, 3) := by decide +kernel
theorem dL_law_1345 : decode cL_law 1345 = .ok (.aload_n 2, 1) := by decide +kernel
theorem dL_law_1346 : decode cL_law 1346 = .ok (.invokevirtual 213, 3) := by decide +kernel
theorem dL_law_1349 : decode cL_law 1349 = .ok (.if_icmp .eq 1334, 3) := by decide +kernel
theorem dL_law_1352 : decode cL_law 1352 = .ok (.iconst 0, 1) := by decide +kernel
theorem dL_law_1353 : decode cL_law 1353 = .ok (.ireturn, 1) := by decide +kernel
theorem dL_law_1354 : decode cL_law 1354 = .ok (.aload_n 1, 1) := by decide +kernel
theorem dL_law_1355 : decode cL_law 1355 = .ok (.aload_n 0, 1) := by decide +kernel
theorem dL_law_1356 : decode cL_law 1356 = .ok (.iload 5, 2) := by decide +kernel
theorem dL_law_1358 : decode cL_law 1358 = .ok (.iconst 1, 1) := by decide +kernel
theorem dL_law_1359 : decode cL_law 1359 = .ok (.iadd, 1) := by decide +kernel
theorem dL_law_1360 : decode cL_law 1360 = .ok (.iaload, 1) := by decide +kernel
theorem dL_law_1361 : decode cL_law 1361 = .ok (.aload_n 3, 1) := by decide +kernel
theorem dL_law_1362 : decode cL_law 1362 = .ok (.invokestatic 214, 3) := by decide +kernel
theorem dL_law_1365 : decode cL_law 1365 = .ok (.istore 6, 2) := by decide +kernel
theorem dL_law_1367 : decode cL_law 1367 = .ok (.aload_n 2, 1) := by decide +kernel
theorem dL_law_1368 : decode cL_law 1368 = .ok (.aload_n 0, 1) := by decide +kernel
theorem dL_law_1369 : decode cL_law 1369 = .ok (.iload 5, 2) := by decide +kernel
theorem dL_law_1371 : decode cL_law 1371 = .ok (.iconst 1, 1) := by decide +kernel
theorem dL_law_1372 : decode cL_law 1372 = .ok (.iadd, 1) := by decide +kernel
theorem dL_law_1373 : decode cL_law 1373 = .ok (.iaload, 1) := by decide +kernel
theorem dL_law_1374 : decode cL_law 1374 = .ok (.invokevirtual 216, 3) := by decide +kernel
theorem dL_law_1377 : decode cL_law 1377 = .ok (.istore 7, 2) := by decide +kernel
theorem dL_law_1379 : decode cL_law 1379 = .ok (.aload_n 2, 1) := by decide +kernel
theorem dL_law_1380 : decode cL_law 1380 = .ok (.invokevirtual 154, 3) := by decide +kernel
theorem dL_law_1383 : decode cL_law 1383 = .ok (.iload 6, 2) := by decide +kernel
theorem dL_law_1385 : decode cL_law 1385 = .ok (.if_icmp .eq 5, 3) := by decide +kernel
theorem dL_law_1388 : decode cL_law 1388 = .ok (.iconst 0, 1) := by decide +kernel
theorem dL_law_1389 : decode cL_law 1389 = .ok (.ireturn, 1) := by decide +kernel
theorem dL_law_1390 : decode cL_law 1390 = .ok (.iload 6, 2) := by decide +kernel
theorem dL_law_1392 : decode cL_law 1392 = .ok (.ifCond .ne 15, 3) := by decide +kernel
theorem dL_law_1395 : decode cL_law 1395 = .ok (.aload_n 3, 1) := by decide +kernel
theorem dL_law_1396 : decode cL_law 1396 = .ok (.iconst 0, 1) := by decide +kernel
theorem dL_law_1397 : decode cL_law 1397 = .ok (.laload, 1) := by decide +kernel
theorem dL_law_1398 : decode cL_law 1398 = .ok (.iload 7, 2) := by decide +kernel
theorem dL_law_1400 : decode cL_law 1400 = .ok (.i2l, 1) := by decide +kernel
theorem dL_law_1401 : decode cL_law 1401 = .ok (.lcmp, 1) := by decide +kernel
theorem dL_law_1402 : decode cL_law 1402 = .ok (.ifCond .eq 5, 3) := by decide +kernel
theorem dL_law_1405 : decode cL_law 1405 = .ok (.iconst 0, 1) := by decide +kernel
theorem dL_law_1406 : decode cL_law 1406 = .ok (.ireturn, 1) := by decide +kernel
theorem dL_law_1407 : decode cL_law 1407 = .ok (.goto 1276, 3) := by decide +kernel
theorem dL_law_1410 : decode cL_law 1410 = .ok (.aload_n 1, 1) := by decide +kernel
theorem dL_law_1411 : decode cL_law 1411 = .ok (.aload_n 0, 1) := by decide +kernel
theorem dL_law_1412 : decode cL_law 1412 = .ok (.iload 5, 2) := by decide +kernel
theorem dL_law_1414 : decode cL_law 1414 = .ok (.iconst 1, 1) := by decide +kernel
theorem dL_law_1415 : decode cL_law 1415 = .ok (.iadd, 1) := by decide +kernel
theorem dL_law_1416 : decode cL_law 1416 = .ok (.iaload, 1) := by decide +kernel
theorem dL_law_1417 : decode cL_law 1417 = .ok (.aload_n 3, 1) := by decide +kernel
theorem dL_law_1418 : decode cL_law 1418 = .ok (.invokestatic 217, 3) := by decide +kernel
theorem dL_law_1421 : decode cL_law 1421 = .ok (.istore 6, 2) := by decide +kernel
theorem dL_law_1423 : decode cL_law 1423 = .ok (.aload_n 2, 1) := by decide +kernel
theorem dL_law_1424 : decode cL_law 1424 = .ok (.aload_n 0, 1) := by decide +kernel
theorem dL_law_1425 : decode cL_law 1425 = .ok (.iload 5, 2) := by decide +kernel
theorem dL_law_1427 : decode cL_law 1427 = .ok (.iconst 1, 1) := by decide +kernel
theorem dL_law_1428 : decode cL_law 1428 = .ok (.iadd, 1) := by decide +kernel
theorem dL_law_1429 : decode cL_law 1429 = .ok (.iaload, 1) := by decide +kernel
theorem dL_law_1430 : decode cL_law 1430 = .ok (.invokevirtual 219, 3) := by decide +kernel
theorem dL_law_1433 : decode cL_law 1433 = .ok (.istore 7, 2) := by decide +kernel
theorem dL_law_1435 : decode cL_law 1435 = .ok (.aload_n 2, 1) := by decide +kernel
theorem dL_law_1436 : decode cL_law 1436 = .ok (.invokevirtual 154, 3) := by decide +kernel
theorem dL_law_1439 : decode cL_law 1439 = .ok (.iload 6, 2) := by decide +kernel
theorem dL_law_1441 : decode cL_law 1441 = .ok (.if_icmp .eq 5, 3) := by decide +kernel
theorem dL_law_1444 : decode cL_law 1444 = .ok (.iconst 0, 1) := by decide +kernel
theorem dL_law_1445 : decode cL_law 1445 = .ok (.ireturn, 1) := by decide +kernel
theorem dL_law_1446 : decode cL_law 1446 = .ok (.iload 6, 2) := by decide +kernel
theorem dL_law_1448 : decode cL_law 1448 = .ok (.ifCond .ne 15, 3) := by decide +kernel
theorem dL_law_1451 : decode cL_law 1451 = .ok (.aload_n 3, 1) := by decide +kernel
theorem dL_law_1452 : decode cL_law 1452 = .ok (.iconst 0, 1) := by decide +kernel
theorem dL_law_1453 : decode cL_law 1453 = .ok (.laload, 1) := by decide +kernel
theorem dL_law_1454 : decode cL_law 1454 = .ok (.iload 7, 2) := by decide +kernel
theorem dL_law_1456 : decode cL_law 1456 = .ok (.i2l, 1) := by decide +kernel
theorem dL_law_1457 : decode cL_law 1457 = .ok (.lcmp, 1) := by decide +kernel
theorem dL_law_1458 : decode cL_law 1458 = .ok (.ifCond .eq 5, 3) := by decide +kernel
theorem dL_law_1461 : decode cL_law 1461 = .ok (.iconst 0, 1) := by decide +kernel
theorem dL_law_1462 : decode cL_law 1462 = .ok (.ireturn, 1) := by decide +kernel
theorem dL_law_1463 : decode cL_law 1463 = .ok (.goto 1220, 3) := by decide +kernel
theorem dL_law_1466 : decode cL_law 1466 = .ok (.aload_n 1, 1) := by decide +kernel
theorem dL_law_1467 : decode cL_law 1467 = .ok (.aload_n 0, 1) := by decide +kernel
theorem dL_law_1468 : decode cL_law 1468 = .ok (.iload 5, 2) := by decide +kernel
theorem dL_law_1470 : decode cL_law 1470 = .ok (.iconst 1, 1) := by decide +kernel
theorem dL_law_1471 : decode cL_law 1471 = .ok (.iadd, 1) := by decide +kernel
theorem dL_law_1472 : decode cL_law 1472 = .ok (.iaload, 1) := by decide +kernel
theorem dL_law_1473 : decode cL_law 1473 = .ok (.aload_n 0, 1) := by decide +kernel
theorem dL_law_1474 : decode cL_law 1474 = .ok (.iload 5, 2) := by decide +kernel
theorem dL_law_1476 : decode cL_law 1476 = .ok (.iconst 2, 1) := by decide +kernel
theorem dL_law_1477 : decode cL_law 1477 = .ok (.iadd, 1) := by decide +kernel
theorem dL_law_1478 : decode cL_law 1478 = .ok (.iaload, 1) := by decide +kernel
theorem dL_law_1479 : decode cL_law 1479 = .ok (.aload_n 3, 1) := by decide +kernel
theorem dL_law_1480 : decode cL_law 1480 = .ok (.invokestatic 220, 3) := by decide +kernel
theorem dL_law_1483 : decode cL_law 1483 = .ok (.istore 6, 2) := by decide +kernel
theorem dL_law_1485 : decode cL_law 1485 = .ok (.aload_n 2, 1) := by decide +kernel
theorem dL_law_1486 : decode cL_law 1486 = .ok (.aload_n 0, 1) := by decide +kernel
theorem dL_law_1487 : decode cL_law 1487 = .ok (.iload 5, 2) := by decide +kernel
theorem dL_law_1489 : decode cL_law 1489 = .ok (.iconst 1, 1) := by decide +kernel
theorem dL_law_1490 : decode cL_law 1490 = .ok (.iadd, 1) := by decide +kernel
theorem dL_law_1491 : decode cL_law 1491 = .ok (.iaload, 1) := by decide +kernel
theorem dL_law_1492 : decode cL_law 1492 = .ok (.aload_n 0, 1) := by decide +kernel
theorem dL_law_1493 : decode cL_law 1493 = .ok (.iload 5, 2) := by decide +kernel
theorem dL_law_1495 : decode cL_law 1495 = .ok (.iconst 2, 1) := by decide +kernel
theorem dL_law_1496 : decode cL_law 1496 = .ok (.iadd, 1) := by decide +kernel
theorem dL_law_1497 : decode cL_law 1497 = .ok (.iaload, 1) := by decide +kernel
theorem dL_law_1498 : decode cL_law 1498 = .ok (.invokevirtual 222, 3) := by decide +kernel
theorem dL_law_1501 : decode cL_law 1501 = .ok (.istore 7, 2) := by decide +kernel
theorem dL_law_1503 : decode cL_law 1503 = .ok (.aload_n 2, 1) := by decide +kernel
theorem dL_law_1504 : decode cL_law 1504 = .ok (.invokevirtual 154, 3) := by decide +kernel
theorem dL_law_1507 : decode cL_law 1507 = .ok (.iload 6, 2) := by decide +kernel
theorem dL_law_1509 : decode cL_law 1509 = .ok (.if_icmp .eq 5, 3) := by decide +kernel
theorem dL_law_1512 : decode cL_law 1512 = .ok (.iconst 0, 1) := by decide +kernel
theorem dL_law_1513 : decode cL_law 1513 = .ok (.ireturn, 1) := by decide +kernel
theorem dL_law_1514 : decode cL_law 1514 = .ok (.iload 6, 2) := by decide +kernel
theorem dL_law_1516 : decode cL_law 1516 = .ok (.ifCond .ne 22, 3) := by decide +kernel
theorem dL_law_1519 : decode cL_law 1519 = .ok (.aload_n 3, 1) := by decide +kernel
theorem dL_law_1520 : decode cL_law 1520 = .ok (.iconst 0, 1) := by decide +kernel
theorem dL_law_1521 : decode cL_law 1521 = .ok (.laload, 1) := by decide +kernel
theorem dL_law_1522 : decode cL_law 1522 = .ok (.iload 7, 2) := by decide +kernel
theorem dL_law_1524 : decode cL_law 1524 = .ok (.ifCond .eq 7, 3) := by decide +kernel
theorem dL_law_1527 : decode cL_law 1527 = .ok (.lconst 1, 1) := by decide +kernel
theorem dL_law_1528 : decode cL_law 1528 = .ok (.goto 4, 3) := by decide +kernel
theorem dL_law_1531 : decode cL_law 1531 = .ok (.lconst 0, 1) := by decide +kernel
theorem dL_law_1532 : decode cL_law 1532 = .ok (.lcmp, 1) := by decide +kernel
theorem dL_law_1533 : decode cL_law 1533 = .ok (.ifCond .eq 5, 3) := by decide +kernel
theorem dL_law_1536 : decode cL_law 1536 = .ok (.iconst 0, 1) := by decide +kernel
theorem dL_law_1537 : decode cL_law 1537 = .ok (.ireturn, 1) := by decide +kernel
theorem dL_law_1538 : decode cL_law 1538 = .ok (.goto 1145, 3) := by decide +kernel
theorem dL_law_1541 : decode cL_law 1541 = .ok (.aload_n 1, 1) := by decide +kernel
theorem dL_law_1542 : decode cL_law 1542 = .ok (.aload_n 0, 1) := by decide +kernel
theorem dL_law_1543 : decode cL_law 1543 = .ok (.iload 5, 2) := by decide +kernel
theorem dL_law_1545 : decode cL_law 1545 = .ok (.iconst 1, 1) := by decide +kernel
theorem dL_law_1546 : decode cL_law 1546 = .ok (.iadd, 1) := by decide +kernel
theorem dL_law_1547 : decode cL_law 1547 = .ok (.iaload, 1) := by decide +kernel
theorem dL_law_1548 : decode cL_law 1548 = .ok (.aload_n 0, 1) := by decide +kernel
theorem dL_law_1549 : decode cL_law 1549 = .ok (.iload 5, 2) := by decide +kernel
theorem dL_law_1551 : decode cL_law 1551 = .ok (.iconst 2, 1) := by decide +kernel
theorem dL_law_1552 : decode cL_law 1552 = .ok (.iadd, 1) := by decide +kernel
theorem dL_law_1553 : decode cL_law 1553 = .ok (.iaload, 1) := by decide +kernel
theorem dL_law_1554 : decode cL_law 1554 = .ok (.aload 4, 2) := by decide +kernel
theorem dL_law_1556 : decode cL_law 1556 = .ok (.invokestatic 223, 3) := by decide +kernel
theorem dL_law_1559 : decode cL_law 1559 = .ok (.istore 6, 2) := by decide +kernel
theorem dL_law_1561 : decode cL_law 1561 = .ok (.aload_n 2, 1) := by decide +kernel
theorem dL_law_1562 : decode cL_law 1562 = .ok (.aload_n 0, 1) := by decide +kernel
theorem dL_law_1563 : decode cL_law 1563 = .ok (.iload 5, 2) := by decide +kernel
theorem dL_law_1565 : decode cL_law 1565 = .ok (.iconst 1, 1) := by decide +kernel
theorem dL_law_1566 : decode cL_law 1566 = .ok (.iadd, 1) := by decide +kernel
theorem dL_law_1567 : decode cL_law 1567 = .ok (.iaload, 1) := by decide +kernel
theorem dL_law_1568 : decode cL_law 1568 = .ok (.aload_n 0, 1) := by decide +kernel
theorem dL_law_1569 : decode cL_law 1569 = .ok (.iload 5, 2) := by decide +kernel
theorem dL_law_1571 : decode cL_law 1571 = .ok (.iconst 2, 1) := by decide +kernel
theorem dL_law_1572 : decode cL_law 1572 = .ok (.iadd, 1) := by decide +kernel
theorem dL_law_1573 : decode cL_law 1573 = .ok (.iaload, 1) := by decide +kernel
theorem dL_law_1574 : decode cL_law 1574 = .ok (.invokevirtual 225, 3) := by decide +kernel
theorem dL_law_1577 : decode cL_law 1577 = .ok (.dstore 7, 2) := by decide +kernel
theorem dL_law_1579 : decode cL_law 1579 = .ok (.aload_n 2, 1) := by decide +kernel
theorem dL_law_1580 : decode cL_law 1580 = .ok (.invokevirtual 154, 3) := by decide +kernel
theorem dL_law_1583 : decode cL_law 1583 = .ok (.iload 6, 2) := by decide +kernel
theorem dL_law_1585 : decode cL_law 1585 = .ok (.if_icmp .eq 5, 3) := by decide +kernel
theorem dL_law_1588 : decode cL_law 1588 = .ok (.iconst 0, 1) := by decide +kernel
theorem dL_law_1589 : decode cL_law 1589 = .ok (.ireturn, 1) := by decide +kernel
theorem dL_law_1590 : decode cL_law 1590 = .ok (.iload 6, 2) := by decide +kernel
theorem dL_law_1592 : decode cL_law 1592 = .ok (.ifCond .ne 35, 3) := by decide +kernel
theorem dL_law_1595 : decode cL_law 1595 = .ok (.aload 4, 2) := by decide +kernel
theorem dL_law_1597 : decode cL_law 1597 = .ok (.iconst 0, 1) := by decide +kernel
theorem dL_law_1598 : decode cL_law 1598 = .ok (.daload, 1) := by decide +kernel
theorem dL_law_1599 : decode cL_law 1599 = .ok (.dload 7, 2) := by decide +kernel
theorem dL_law_1601 : decode cL_law 1601 = .ok (.dcmp .l, 1) := by decide +kernel
theorem dL_law_1602 : decode cL_law 1602 = .ok (.ifCond .eq 25, 3) := by decide +kernel
theorem dL_law_1605 : decode cL_law 1605 = .ok (.aload 4, 2) := by decide +kernel
theorem dL_law_1607 : decode cL_law 1607 = .ok (.iconst 0, 1) := by decide +kernel
theorem dL_law_1608 : decode cL_law 1608 = .ok (.daload, 1) := by decide +kernel
theorem dL_law_1609 : decode cL_law 1609 = .ok (.aload 4, 2) := by decide +kernel
theorem dL_law_1611 : decode cL_law 1611 = .ok (.iconst 0, 1) := by decide +kernel
theorem dL_law_1612 : decode cL_law 1612 = .ok (.daload, 1) := by decide +kernel
theorem dL_law_1613 : decode cL_law 1613 = .ok (.dcmp .l, 1) := by decide +kernel
theorem dL_law_1614 : decode cL_law 1614 = .ok (.ifCond .eq 11, 3) := by decide +kernel
theorem dL_law_1617 : decode cL_law 1617 = .ok (.dload 7, 2) := by decide +kernel
theorem dL_law_1619 : decode cL_law 1619 = .ok (.dload 7, 2) := by decide +kernel
theorem dL_law_1621 : decode cL_law 1621 = .ok (.dcmp .l, 1) := by decide +kernel
theorem dL_law_1622 : decode cL_law 1622 = .ok (.ifCond .ne 5, 3) := by decide +kernel
theorem dL_law_1625 : decode cL_law 1625 = .ok (.iconst 0, 1) := by decide +kernel
theorem dL_law_1626 : decode cL_law 1626 = .ok (.ireturn, 1) := by decide +kernel
theorem dL_law_1627 : decode cL_law 1627 = .ok (.goto 1056, 3) := by decide +kernel
theorem dL_law_1630 : decode cL_law 1630 = .ok (.aload_n 1, 1) := by decide +kernel
theorem dL_law_1631 : decode cL_law 1631 = .ok (.aload_n 0, 1) := by decide +kernel
theorem dL_law_1632 : decode cL_law 1632 = .ok (.iload 5, 2) := by decide +kernel
theorem dL_law_1634 : decode cL_law 1634 = .ok (.iconst 1, 1) := by decide +kernel
theorem dL_law_1635 : decode cL_law 1635 = .ok (.iadd, 1) := by decide +kernel
theorem dL_law_1636 : decode cL_law 1636 = .ok (.iaload, 1) := by decide +kernel
theorem dL_law_1637 : decode cL_law 1637 = .ok (.aload_n 0, 1) := by decide +kernel
theorem dL_law_1638 : decode cL_law 1638 = .ok (.iload 5, 2) := by decide +kernel
theorem dL_law_1640 : decode cL_law 1640 = .ok (.iconst 2, 1) := by decide +kernel
theorem dL_law_1641 : decode cL_law 1641 = .ok (.iadd, 1) := by decide +kernel
theorem dL_law_1642 : decode cL_law 1642 = .ok (.iaload, 1) := by decide +kernel
theorem dL_law_1643 : decode cL_law 1643 = .ok (.aload_n 3, 1) := by decide +kernel
theorem dL_law_1644 : decode cL_law 1644 = .ok (.invokestatic 226, 3) := by decide +kernel
theorem dL_law_1647 : decode cL_law 1647 = .ok (.istore 6, 2) := by decide +kernel
theorem dL_law_1649 : decode cL_law 1649 = .ok (.aload_n 2, 1) := by decide +kernel
theorem dL_law_1650 : decode cL_law 1650 = .ok (.aload_n 0, 1) := by decide +kernel
theorem dL_law_1651 : decode cL_law 1651 = .ok (.iload 5, 2) := by decide +kernel
theorem dL_law_1653 : decode cL_law 1653 = .ok (.iconst 1, 1) := by decide +kernel
theorem dL_law_1654 : decode cL_law 1654 = .ok (.iadd, 1) := by decide +kernel
theorem dL_law_1655 : decode cL_law 1655 = .ok (.iaload, 1) := by decide +kernel
theorem dL_law_1656 : decode cL_law 1656 = .ok (.aload_n 0, 1) := by decide +kernel
theorem dL_law_1657 : decode cL_law 1657 = .ok (.iload 5, 2) := by decide +kernel
theorem dL_law_1659 : decode cL_law 1659 = .ok (.iconst 2, 1) := by decide +kernel
theorem dL_law_1660 : decode cL_law 1660 = .ok (.iadd, 1) := by decide +kernel
theorem dL_law_1661 : decode cL_law 1661 = .ok (.iaload, 1) := by decide +kernel
theorem dL_law_1662 : decode cL_law 1662 = .ok (.invokevirtual 228, 3) := by decide +kernel
theorem dL_law_1665 : decode cL_law 1665 = .ok (.lstore 7, 2) := by decide +kernel
theorem dL_law_1667 : decode cL_law 1667 = .ok (.aload_n 2, 1) := by decide +kernel
theorem dL_law_1668 : decode cL_law 1668 = .ok (.invokevirtual 154, 3) := by decide +kernel
theorem dL_law_1671 : decode cL_law 1671 = .ok (.iload 6, 2) := by decide +kernel
theorem dL_law_1673 : decode cL_law 1673 = .ok (.if_icmp .eq 5, 3) := by decide +kernel
theorem dL_law_1676 : decode cL_law 1676 = .ok (.iconst 0, 1) := by decide +kernel
theorem dL_law_1677 : decode cL_law 1677 = .ok (.ireturn, 1) := by decide +kernel
theorem dL_law_1678 : decode cL_law 1678 = .ok (.iload 6, 2) := by decide +kernel
theorem dL_law_1680 : decode cL_law 1680 = .ok (.ifCond .ne 14, 3) := by decide +kernel
theorem dL_law_1683 : decode cL_law 1683 = .ok (.aload_n 3, 1) := by decide +kernel
theorem dL_law_1684 : decode cL_law 1684 = .ok (.iconst 0, 1) := by decide +kernel
theorem dL_law_1685 : decode cL_law 1685 = .ok (.laload, 1) := by decide +kernel
theorem dL_law_1686 : decode cL_law 1686 = .ok (.lload 7, 2) := by decide +kernel
theorem dL_law_1688 : decode cL_law 1688 = .ok (.lcmp, 1) := by decide +kernel
theorem dL_law_1689 : decode cL_law 1689 = .ok (.ifCond .eq 5, 3) := by decide +kernel
theorem dL_law_1692 : decode cL_law 1692 = .ok (.iconst 0, 1) := by decide +kernel
theorem dL_law_1693 : decode cL_law 1693 = .ok (.ireturn, 1) := by decide +kernel
theorem dL_law_1694 : decode cL_law 1694 = .ok (.goto 989, 3) := by decide +kernel
theorem dL_law_1697 : decode cL_law 1697 = .ok (.aload_n 1, 1) := by decide +kernel
theorem dL_law_1698 : decode cL_law 1698 = .ok (.aload_n 0, 1) := by decide +kernel
theorem dL_law_1699 : decode cL_law 1699 = .ok (.iload 5, 2) := by decide +kernel
theorem dL_law_1701 : decode cL_law 1701 = .ok (.iconst 1, 1) := by decide +kernel
theorem dL_law_1702 : decode cL_law 1702 = .ok (.iadd, 1) := by decide +kernel
theorem dL_law_1703 : decode cL_law 1703 = .ok (.iaload, 1) := by decide +kernel
theorem dL_law_1704 : decode cL_law 1704 = .ok (.aload_n 0, 1) := by decide +kernel
theorem dL_law_1705 : decode cL_law 1705 = .ok (.iload 5, 2) := by decide +kernel
theorem dL_law_1707 : decode cL_law 1707 = .ok (.iconst 2, 1) := by decide +kernel
theorem dL_law_1708 : decode cL_law 1708 = .ok (.iadd, 1) := by decide +kernel
theorem dL_law_1709 : decode cL_law 1709 = .ok (.iaload, 1) := by decide +kernel
theorem dL_law_1710 : decode cL_law 1710 = .ok (.aload_n 3, 1) := by decide +kernel
theorem dL_law_1711 : decode cL_law 1711 = .ok (.invokestatic 229, 3) := by decide +kernel
theorem dL_law_1714 : decode cL_law 1714 = .ok (.istore 6, 2) := by decide +kernel
theorem dL_law_1716 : decode cL_law 1716 = .ok (.aload_n 2, 1) := by decide +kernel
theorem dL_law_1717 : decode cL_law 1717 = .ok (.aload_n 0, 1) := by decide +kernel
theorem dL_law_1718 : decode cL_law 1718 = .ok (.iload 5, 2) := by decide +kernel
theorem dL_law_1720 : decode cL_law 1720 = .ok (.iconst 1, 1) := by decide +kernel
theorem dL_law_1721 : decode cL_law 1721 = .ok (.iadd, 1) := by decide +kernel
theorem dL_law_1722 : decode cL_law 1722 = .ok (.iaload, 1) := by decide +kernel
theorem dL_law_1723 : decode cL_law 1723 = .ok (.aload_n 0, 1) := by decide +kernel
theorem dL_law_1724 : decode cL_law 1724 = .ok (.iload 5, 2) := by decide +kernel
theorem dL_law_1726 : decode cL_law 1726 = .ok (.iconst 2, 1) := by decide +kernel
theorem dL_law_1727 : decode cL_law 1727 = .ok (.iadd, 1) := by decide +kernel
end
section
/-! THE SYSTEM'S LAYOUT: every cell has a number (id); ad gives its address. States 0..10 (0 now, 1 kept, 2..10 past) lie at 55*i; 605 lab, 606 past, 607 its row, 608 program, 609..613 its rows, 614 line, 615 signs, 616 model, 617..628 its rows, 629 out, 630 outD. I: ints (fields and rows), D: doubles, J: longs, X: scratch rows. -/
abbrev fo_Mi : Type := Nat → Nat → Int32
abbrev fo_Md : Type := Nat → Nat → UInt64
abbrev fo_Mj : Type := Nat → Nat → Int64
abbrev fo_Lt : Type := va_G × (Nat → ClassId) × (Nat → Nat) × Nat
abbrev fo_A (Λ : fo_Lt) : Nat → Prop := fun q => Λ.2.2.2 ≤ q
def fo_kt : List Nat := [8, 3, 27, 4, 23, 23, 20, 20, 20, 2, 23, 9, 20, 20, 20, 20, 21, 20, 20, 20, 20, 20, 20, 20, 24, 22]
def fo_nt : List Nat := [0, 0, 9, 0, 60, 60, 60, 60, 60, 0, 152, 0, 150, 150, 150, 1200, 30, 160, 60, 32, 32, 32, 32, 60, 1, 1]
/-- kind of a cell: 2..9 an object of that class of vwCl, 20 ints, 21 scratch ints, 22 doubles, 23 chars, 24 longs, 25..27 rows of references -/
def fo_k (id : Nat) : Nat := if id < 605 then (if id % 55 = 0 then 7 else if id % 55 = 1 then 25 else if id % 55 = 2 then 26 else if id % 55 < 23 then (if (id % 55 - 3) % 5 = 0 then 6 else if (id % 55 - 3) % 5 = 1 then 20 else 21) else (if (id % 55 - 23) % 4 = 0 then 5 else if (id % 55 - 23) % 4 = 2 then 22 else 20)) else fo_kt.getD (id - 605) 99
/-- length of a row -/
def fo_n (id : Nat) : Nat := if id < 605 then (if id % 55 = 1 then 4 else if id % 55 = 2 then 8 else if id % 55 < 23 then (if (id % 55 - 3) % 5 = 1 then 30 else if (id % 55 - 3) % 5 = 2 then 30 else if (id % 55 - 3) % 5 = 3 then 5 else 31) else 4) else fo_nt.getD (id - 605) 0
/-- an object's fields -/
def fo_f (ad : Nat → Nat) (r : Nat → Int32) (k id : Nat) : List Value := match k with
  | 7 => [.ref (ad (id + 1)), .ref (ad (id + 2)), .int (r 2), .int (r 3)]
  | 6 => [.ref (ad (id + 1)), .int (r 1), .ref (ad (id + 2)), .ref (ad (id + 3)), .ref (ad (id + 4))]
  | 5 => [.int (r 0), .int (r 1), .ref (ad (id + 1)), .ref (ad (id + 2)), .ref (ad (id + 3))]
  | 8 => [.ref (ad 0), .ref (ad 55), .ref (ad 606), .ref (ad 608), .ref (ad 614), .int (r 5), .int (r 6), .int (r 7)]
  | 3 => [.ref (ad 607), .int (r 1), .int (r 2)]
  | 4 => [.ref (ad 609), .int (r 1), .int (r 2), .int (r 3), .ref (ad 610), .ref (ad 611), .ref (ad 612), .ref (ad 613), .int (r 8)]
  | 2 => [.ref (ad 615), .int (r 1)]
  | 9 => [.ref (ad 617), .ref (ad 618), .ref (ad 619), .ref (ad 620), .ref (ad 621), .int (r 5), .int (r 6), .int (r 7), .int (r 8), .int (r 9), .ref (ad 622), .int (r 11), .ref (ad 623), .ref (ad 624), .ref (ad 625), .ref (ad 626), .ref (ad 627), .ref (ad 628), .int (r 18), .int (r 19), .int (r 20), .int (r 21), .int (r 22), .int (r 23)]
  | _ => []
/-- a cell -/
def fo_c (Λ : fo_Lt) (k id : Nat) (ri : Nat → Int32) (rd : Nat → UInt64) (rj : Nat → Int64) (rx : Nat → Int32) : va_E := match k with
  | 20 => .inl (Λ.2.1 2, fo_n id, .inl ri)
  | 21 => .inl (Λ.2.1 2, fo_n id, .inl rx)
  | 22 => .inl (Λ.2.1 1, fo_n id, .inr (.inr (.inr (.inl rd))))
  | 23 => .inl (Λ.2.1 0, fo_n id, .inl ri)
  | 24 => .inl (Λ.2.1 3, fo_n id, .inr (.inl rj))
  | 25 => .inl (Λ.2.1 4, fo_n id, .inr (.inr (.inr (.inr (fun j => some (Λ.2.2.1 (id + 2 + 5 * j)))))))
  | 26 => .inl (Λ.2.1 5, fo_n id, .inr (.inr (.inr (.inr (fun j => some (Λ.2.2.1 (id + 21 + 4 * j)))))))
  | 27 => .inl (Λ.2.1 6, fo_n id, .inr (.inr (.inr (.inr (fun j => some (Λ.2.2.1 (110 + 55 * j)))))))
  | k => .inr (k, fo_f Λ.2.2.1 ri k id)
def fo_w (Λ : fo_Lt) (I : fo_Mi) (D : fo_Md) (J : fo_Mj) (X : fo_Mi) : va_W := (List.range 631).map (fun id => (Λ.2.2.1 id, fo_c Λ (fo_k id) id (I id) (D id) (J id) (X id)))
abbrev fo_t (Λ : fo_Lt) : List (ClassId × FieldType) := [(Λ.2.1 0, .char), (Λ.2.1 1, .double), (Λ.2.1 2, .int), (Λ.2.1 3, .long), (Λ.2.1 4, .object "ForecastLab$Series"), (Λ.2.1 5, .object "ForecastLab$Prophet"), (Λ.2.1 6, .object "ForecastLab$State")]
/-- the addresses are apart, and from z on -/
def fo_O (Λ : fo_Lt) : Prop := (∀ i j, i < 631 → j < 631 → Λ.2.2.1 i = Λ.2.2.1 j → i = j) ∧ ∀ i, i < 631 → Λ.2.2.2 ≤ Λ.2.2.1 i
/-- a row put in another's place -/
def fo_r {α : Type} (M : Nat → Nat → α) (a : Nat) (f : Nat → α) : Nat → Nat → α := fun b => if b = a then f else M b
theorem fo_rs {α : Type} (M : Nat → Nat → α) (a : Nat) (f : Nat → α) : fo_r M a f a = f := if_pos rfl
theorem fo_rn {α : Type} (M : Nat → Nat → α) {a b : Nat} (f : Nat → α) (h : b ≠ a) : fo_r M a f b = M b := if_neg h
theorem fo_rr {α : Type} (M : Nat → Nat → α) (a : Nat) (f g : Nat → α) : fo_r (fo_r M a f) a g = fo_r M a g := by
  funext b
  by_cases h : b = a
  · subst h; rw [fo_rs, fo_rs]
  · rw [fo_rn _ _ h, fo_rn _ _ h, fo_rn _ _ h]
theorem fo_rc {α : Type} (M : Nat → Nat → α) {a b : Nat} (f g : Nat → α) (h : a ≠ b) : fo_r (fo_r M a f) b g = fo_r (fo_r M b g) a f := by
  funext x
  by_cases h1 : x = a
  · subst h1; rw [fo_rn _ _ h, fo_rs, fo_rs]
  · by_cases h2 : x = b
    · subst h2; rw [fo_rs, fo_rn _ _ h1, fo_rs]
    · rw [fo_rn _ _ h2, fo_rn _ _ h1, fo_rn _ _ h1, fo_rn _ _ h2]
theorem fo_rme {α : Type} (M : Nat → Nat → α) (a : Nat) : fo_r M a (M a) = M := by
  funext b
  by_cases h : b = a
  · subst h; rw [fo_rs]
  · rw [fo_rn _ _ h]
theorem fo_lt {id k : Nat} (h : fo_k id = k) (hk : k < 50) : id < 631 := by
  rcases Nat.lt_or_ge id 631 with q | q
  · exact q
  · exfalso
    have : fo_k id = 99 := by
      unfold fo_k
      rw [if_neg (by omega), List.getD_eq_getElem?_getD, List.getElem?_eq_none (by show 26 ≤ id - 605; omega)]
      rfl
    omega
theorem fo_wat {Λ : fo_Lt} {I : fo_Mi} {D : fo_Md} {J : fo_Mj} {X : fo_Mi} {id k : Nat} (h : fo_k id = k) (hk : k < 50) : (fo_w Λ I D J X)[id]? = some (Λ.2.2.1 id, fo_c Λ k id (I id) (D id) (J id) (X id)) := by
  have hl := fo_lt h hk
  unfold fo_w
  rw [List.getElem?_map, List.getElem?_range hl, ← h]
  rfl
theorem fo_wset {Λ : fo_Lt} {I I' : fo_Mi} {D D' : fo_Md} {J J' : fo_Mj} {X X' : fo_Mi} {id : Nat} {e : va_E} (hl : id < 631) (hc : fo_c Λ (fo_k id) id (I' id) (D' id) (J' id) (X' id) = e) (ho : ∀ j, j ≠ id → I' j = I j ∧ D' j = D j ∧ J' j = J j ∧ X' j = X j) : (fo_w Λ I D J X).set id (Λ.2.2.1 id, e) = fo_w Λ I' D' J' X' := by
  apply List.ext_getElem?
  intro k
  unfold fo_w
  by_cases hk : k = id
  · subst hk
    rw [List.getElem?_set_self (by rw [List.length_map, List.length_range]; exact hl), List.getElem?_map, List.getElem?_range hl, ← hc]
    rfl
  · rw [List.getElem?_set_ne (Ne.symm hk), List.getElem?_map, List.getElem?_map]
    obtain ⟨h1, h2, h3, h4⟩ := ho k hk
    cases hr : (List.range 631)[k]? with
    | none => rfl
    | some q =>
      have hq : q = k := by
        have hlt : k < 631 := by
          have := (List.getElem?_eq_some_iff.mp hr).1
          rwa [List.length_range] at this
        rw [List.getElem?_range hlt] at hr
        exact (Option.some.inj hr).symm
      subst hq
      show some _ = some _
      dsimp only
      rw [h1, h2, h3, h4]
theorem fo_wD {Λ : fo_Lt} (h : fo_O Λ) (I : fo_Mi) (D : fo_Md) (J : fo_Mj) (X : fo_Mi) : va_D (fo_A Λ) (fo_w Λ I D J X) := by
  have key : ∀ (i : Nat) (p : Nat × va_E), (fo_w Λ I D J X)[i]? = some p → i < 631 ∧ p.1 = Λ.2.2.1 i := by
    intro i p hp
    have hl : i < 631 := by
      have := (List.getElem?_eq_some_iff.mp hp).1
      rwa [fo_w, List.length_map, List.length_range] at this
    unfold fo_w at hp
    rw [List.getElem?_map, List.getElem?_range hl] at hp
    cases hp
    exact ⟨hl, rfl⟩
  refine ⟨fun i j p q hi hj hpq => ?_, fun k q hk => ?_⟩
  · obtain ⟨a1, a2⟩ := key i p hi
    obtain ⟨b1, b2⟩ := key j q hj
    exact h.1 i j a1 b1 (by rw [← a2, ← b2, hpq])
  · obtain ⟨a1, a2⟩ := key k q hk
    show Λ.2.2.2 ≤ q.1
    rw [a2]
    exact h.2 k a1
/-- the tables' words that hold in every state of a run -/
def fo_W0 : List Cond := lw_tbl.filter goodWord
/-! THE JUDGEMENT: the machine at pc with these locals, this stack and this memory comes to its end -/
abbrev fo_K : Type := Program × Env × State × MethodId × Array Value × List Frame × Method × Code × Nat × (State → Prop)
def fo_G (l : Launch) (Λ : fo_Lt) (R : Room) (K : fo_K) (cs ss pc : Nat) (lv : List (Nat × Value)) (st : List Value) (I : fo_Mi) (D : fo_Md) (J : fo_Mj) (X : fo_Mi) : Prop :=
  ∀ (H : Heap) (locs : List Loc) (ls : Array Slot), va_P Λ.1 vwCl (fo_w Λ I D J X) H → va_S (fo_A Λ) K.2.2.1.heap H locs → lv_has ls K.2.2.2.2.2.2.2.2.1 lv → W K.1 l K.2.1 R K.2.2.1 K.2.2.2.1 K.2.2.2.2.1 K.2.2.2.2.2.1 K.2.2.2.2.2.2.1 K.2.2.2.2.2.2.2.1 H locs cs ss K.2.2.2.2.2.2.2.2.2 (F0 K.2.2.2.1 pc ls st)
/-- the exceptions that the class throws -/
def fo_xs : List String := ["java/lang/IllegalArgumentException", "java/lang/IllegalStateException", "java/lang/IndexOutOfBoundsException", "java/util/NoSuchElementException", "java/lang/ArithmeticException", "java/lang/UnsupportedOperationException"]
/-- calls of private members of a nest mate -/
def fo_nn : List (String × Nat × MethodName) := [(RX5, 27, yX4_init), (RX5, 28, yX3_init), (RX6, 28, yX2_init), (RX6, 35, yX0_init), (RX5, 90, yX6_isOneToNine), (RX5, 97, yX6_isKind)]
def fo_ds : List MethodName := [⟨"java/lang/RuntimeException", "<init>", "()V"⟩, ⟨"java/lang/Exception", "<init>", "()V"⟩, ⟨"java/lang/Throwable", "<init>", "()V"⟩]
/-- what throws need: two statics of Throwable; words that aren't kept by every state of a run but by every warmed one -/
def fo_Z (Λ : fo_Lt) (U : State) : Prop := vx_Zq Bundle.tN "UNASSIGNED_STACK" Bundle.steD (fo_A Λ) U U.heap ∧ vx_Zq Bundle.tN "SUPPRESSED_SENTINEL" Bundle.listD (fo_A Λ) U U.heap ∧ Λ.2.2.2 ≤ U.heap.size ∧ (∀ E ∈ fo_xs, va_Nw (.castable E E) U) ∧ (∀ q ∈ fo_nn, va_Nw (.methodLinkNest q.1 q.2.1 q.2.2 RX6) U) ∧ (∀ E ∈ fo_xs, ∀ F ∈ fo_xs, E ≠ F → va_Nc E F U) ∧ (∀ q ∈ fo_ds, va_Nw (.declares q) U)
def fo_C (Λ : fo_Lt) (K : fo_K) (cc : ByteArray) (own : String) (nL : Nat) : Prop :=
  K.1.tables.exec = Jvm.exec ∧ K.2.2.2.2.2.2.2.1.code = cc ∧ K.2.2.2.2.2.2.2.1.maxLocals = nL ∧ K.2.2.1.vm.findClass own = some K.2.2.2.1.cls ∧ (∀ w ∈ fo_W0, w.before K.2.2.2.2.1 K.2.2.1 = true) ∧ va_K Λ.1 vwCl (fo_t Λ) K.2.2.1 ∧ fo_O Λ ∧ fo_Z Λ K.2.2.1 ∧ K.2.2.2.2.2.2.2.2.1 = nL
theorem fo_C.fix {Λ : fo_Lt} {K : fo_K} {cc : ByteArray} {own : String} {nL : Nat} (C : fo_C Λ K cc own nL) : CallFix K.1 K.2.2.2.1 K.2.2.2.2.2.2.2.1 cc nL K.2.2.1 K.2.2.2.2.1 fo_W0 own := ⟨C.1, C.2.1, C.2.2.1, C.2.2.2.1, C.2.2.2.2.1⟩
theorem fo_C.vk {Λ : fo_Lt} {K : fo_K} {cc : ByteArray} {own : String} {nL : Nat} (C : fo_C Λ K cc own nL) : va_K Λ.1 vwCl (fo_t Λ) K.2.2.1 := C.2.2.2.2.2.1
theorem fo_C.ok {Λ : fo_Lt} {K : fo_K} {cc : ByteArray} {own : String} {nL : Nat} (C : fo_C Λ K cc own nL) : fo_O Λ := C.2.2.2.2.2.2.1
theorem fo_C.zz {Λ : fo_Lt} {K : fo_K} {cc : ByteArray} {own : String} {nL : Nat} (C : fo_C Λ K cc own nL) : fo_Z Λ K.2.2.1 := C.2.2.2.2.2.2.2.1
theorem fo_C.nl {Λ : fo_Lt} {K : fo_K} {cc : ByteArray} {own : String} {nL : Nat} (C : fo_C Λ K cc own nL) : K.2.2.2.2.2.2.2.2.1 = nL := C.2.2.2.2.2.2.2.2
theorem fo_Z.kept {Λ : fo_Lt} {s U : State} {locs : List Loc} (h : fo_Z Λ s) (hS : va_S (fo_A Λ) s.heap U.heap locs) (hW : s.WarmedH U.vm) : fo_Z Λ U :=
  ⟨(h.1.moved hW.alike).kept (fun a h1 h2 => hS.2.1 a h1 h2), (h.2.1.moved hW.alike).kept (fun a h1 h2 => hS.2.1 a h1 h2), Nat.le_trans h.2.2.1 hS.1, fun E hE => va_Nw.warmC hW (h.2.2.2.1 E hE), fun q hq => va_Nw.warmM hW (h.2.2.2.2.1 q hq), fun E hE F hF n => (h.2.2.2.2.2.1 E hE F hF n).moved hW.alike, fun q hq => va_Nw.warmD hW (h.2.2.2.2.2.2 q hq)⟩
theorem fo_Z.calling {Λ : fo_Lt} {U : State} (h : fo_Z Λ U) (g : JFrame) (mk : MethodId) (a : Array Value) : fo_Z Λ (U.calling g mk a) :=
  ⟨h.1.moved (u := U) (U := U.calling g mk a) (Vm.Alike.refl U.vm), h.2.1.moved (u := U) (U := U.calling g mk a) (Vm.Alike.refl U.vm), h.2.2.1, fun E hE => va_Nw.same rfl rfl (h.2.2.2.1 E hE), fun q hq => va_Nw.same rfl rfl (h.2.2.2.2.1 q hq), fun E hE F hF n => (h.2.2.2.2.2.1 E hE F hF n).moved (u := U) (U := U.calling g mk a) (Vm.Alike.refl U.vm), fun q hq => va_Nw.same rfl rfl (h.2.2.2.2.2.2 q hq)⟩
/-! rows -/
section FOR
variable {l : Launch} {Λ : fo_Lt} {R : Room} {K : fo_K} {cc : ByteArray} {own : String} {nL cs ss pc : Nat} {lv : List (Nat × Value)} {st : List Value} {I : fo_Mi} {D : fo_Md} {J : fo_Mj} {X : fo_Mi}
theorem fo_iconst (C : fo_C Λ K cc own nL) {n : Int} (d : decode cc pc = .ok (.iconst n, 1)) (v : Int32) (hv : Int32.ofInt n = v) (n' : Nat) (hn : pc + 1 = n') (k : fo_G l Λ R K cs ss n' lv (.int v :: st) I D J X) : fo_G l Λ R K cs ss pc lv st I D J X := by
  intro H locs ls hP hS hl
  subst hn
  exact lv_iconst C.1 C.2.1 d hv (k H locs ls hP hS hl)
theorem fo_bipush (C : fo_C Λ K cc own nL) {n : Int} (d : decode cc pc = .ok (.bipush n, 2)) (v : Int32) (hv : (Int8.ofInt n).toInt32 = v) (n' : Nat) (hn : pc + 2 = n') (k : fo_G l Λ R K cs ss n' lv (.int v :: st) I D J X) : fo_G l Λ R K cs ss pc lv st I D J X := by
  intro H locs ls hP hS hl
  subst hn
  exact lv_bipush C.1 C.2.1 d hv (k H locs ls hP hS hl)
theorem fo_sipush (C : fo_C Λ K cc own nL) {n : Int} (d : decode cc pc = .ok (.sipush n, 3)) (v : Int32) (hv : (Int16.ofInt n).toInt32 = v) (n' : Nat) (hn : pc + 3 = n') (k : fo_G l Λ R K cs ss n' lv (.int v :: st) I D J X) : fo_G l Λ R K cs ss pc lv st I D J X := by
  intro H locs ls hP hS hl
  subst hn
  exact lv_sipush C.1 C.2.1 d hv (k H locs ls hP hS hl)
theorem fo_lconst (C : fo_C Λ K cc own nL) {n : Fin 2} (d : decode cc pc = .ok (.lconst n, 1)) (v : Int64) (hv : Int64.ofNat (n : Nat) = v) (n' : Nat) (hn : pc + 1 = n') (k : fo_G l Λ R K cs ss n' lv (.long v :: st) I D J X) : fo_G l Λ R K cs ss pc lv st I D J X := by
  intro H locs ls hP hS hl
  subst hn
  exact lv_lconst C.1 C.2.1 d hv (k H locs ls hP hS hl)
theorem fo_dconst0 (C : fo_C Λ K cc own nL)  (d : decode cc pc = .ok (.dconst 0, 1)) (n' : Nat) (hn : pc + 1 = n') (k : fo_G l Λ R K cs ss n' lv (.double FP.dconst0 :: st) I D J X) : fo_G l Λ R K cs ss pc lv st I D J X := by
  intro H locs ls hP hS hl
  subst hn
  exact lv_dconst0 C.1 C.2.1 d (k H locs ls hP hS hl)
theorem fo_dconst1 (C : fo_C Λ K cc own nL)  (d : decode cc pc = .ok (.dconst 1, 1)) (n' : Nat) (hn : pc + 1 = n') (k : fo_G l Λ R K cs ss n' lv (.double FP.dconst1 :: st) I D J X) : fo_G l Λ R K cs ss pc lv st I D J X := by
  intro H locs ls hP hS hl
  subst hn
  exact lv_dconst1 C.1 C.2.1 d (k H locs ls hP hS hl)
theorem fo_fconst0 (C : fo_C Λ K cc own nL)  (d : decode cc pc = .ok (.fconst 0, 1)) (n' : Nat) (hn : pc + 1 = n') (k : fo_G l Λ R K cs ss n' lv (.float FP.fconst0 :: st) I D J X) : fo_G l Λ R K cs ss pc lv st I D J X := by
  intro H locs ls hP hS hl
  subst hn
  exact lv_fconst0 C.1 C.2.1 d (k H locs ls hP hS hl)
theorem fo_iload_n (C : fo_C Λ K cc own nL) {q : Fin 4} {i : Nat} {x : Int32} (d : decode cc pc = .ok (.iload_n q, 1)) (j : Nat) (hj : lv[j]? = some (i, .int x)) (hi : (q : Nat) = i) (n' : Nat) (hn : pc + 1 = n') (k : fo_G l Λ R K cs ss n' lv (.int x :: st) I D J X) : fo_G l Λ R K cs ss pc lv st I D J X := by
  intro H locs ls hP hS hl
  subst hn
  exact lv_iload_n C.1 C.2.1 d hi (lv_at hl j hj) (k H locs ls hP hS hl)
theorem fo_iload (C : fo_C Λ K cc own nL) {i : Nat} {x : Int32} (d : decode cc pc = .ok (.iload i, 2)) (j : Nat) (hj : lv[j]? = some (i, .int x)) (n' : Nat) (hn : pc + 2 = n') (k : fo_G l Λ R K cs ss n' lv (.int x :: st) I D J X) : fo_G l Λ R K cs ss pc lv st I D J X := by
  intro H locs ls hP hS hl
  subst hn
  exact lv_iload C.1 C.2.1 d (lv_at hl j hj) (k H locs ls hP hS hl)
theorem fo_lload_n (C : fo_C Λ K cc own nL) {q : Fin 4} {i : Nat} {x : Int64} (d : decode cc pc = .ok (.lload_n q, 1)) (j : Nat) (hj : lv[j]? = some (i, .long x)) (hi : (q : Nat) = i) (n' : Nat) (hn : pc + 1 = n') (k : fo_G l Λ R K cs ss n' lv (.long x :: st) I D J X) : fo_G l Λ R K cs ss pc lv st I D J X := by
  intro H locs ls hP hS hl
  subst hn
  exact lv_lload_n C.1 C.2.1 d hi (lv_at hl j hj) (k H locs ls hP hS hl)
theorem fo_lload (C : fo_C Λ K cc own nL) {i : Nat} {x : Int64} (d : decode cc pc = .ok (.lload i, 2)) (j : Nat) (hj : lv[j]? = some (i, .long x)) (n' : Nat) (hn : pc + 2 = n') (k : fo_G l Λ R K cs ss n' lv (.long x :: st) I D J X) : fo_G l Λ R K cs ss pc lv st I D J X := by
  intro H locs ls hP hS hl
  subst hn
  exact lv_lload C.1 C.2.1 d (lv_at hl j hj) (k H locs ls hP hS hl)
theorem fo_dload_n (C : fo_C Λ K cc own nL) {q : Fin 4} {i : Nat} {x : UInt64} (d : decode cc pc = .ok (.dload_n q, 1)) (j : Nat) (hj : lv[j]? = some (i, .double x)) (hi : (q : Nat) = i) (n' : Nat) (hn : pc + 1 = n') (k : fo_G l Λ R K cs ss n' lv (.double x :: st) I D J X) : fo_G l Λ R K cs ss pc lv st I D J X := by
  intro H locs ls hP hS hl
  subst hn
  exact lv_dload_n C.1 C.2.1 d hi (lv_at hl j hj) (k H locs ls hP hS hl)
theorem fo_dload (C : fo_C Λ K cc own nL) {i : Nat} {x : UInt64} (d : decode cc pc = .ok (.dload i, 2)) (j : Nat) (hj : lv[j]? = some (i, .double x)) (n' : Nat) (hn : pc + 2 = n') (k : fo_G l Λ R K cs ss n' lv (.double x :: st) I D J X) : fo_G l Λ R K cs ss pc lv st I D J X := by
  intro H locs ls hP hS hl
  subst hn
  exact lv_dload C.1 C.2.1 d (lv_at hl j hj) (k H locs ls hP hS hl)
theorem fo_fload_n (C : fo_C Λ K cc own nL) {q : Fin 4} {i : Nat} {x : UInt32} (d : decode cc pc = .ok (.fload_n q, 1)) (j : Nat) (hj : lv[j]? = some (i, .float x)) (hi : (q : Nat) = i) (n' : Nat) (hn : pc + 1 = n') (k : fo_G l Λ R K cs ss n' lv (.float x :: st) I D J X) : fo_G l Λ R K cs ss pc lv st I D J X := by
  intro H locs ls hP hS hl
  subst hn
  exact lv_fload_n C.1 C.2.1 d hi (lv_at hl j hj) (k H locs ls hP hS hl)
theorem fo_fload (C : fo_C Λ K cc own nL) {i : Nat} {x : UInt32} (d : decode cc pc = .ok (.fload i, 2)) (j : Nat) (hj : lv[j]? = some (i, .float x)) (n' : Nat) (hn : pc + 2 = n') (k : fo_G l Λ R K cs ss n' lv (.float x :: st) I D J X) : fo_G l Λ R K cs ss pc lv st I D J X := by
  intro H locs ls hP hS hl
  subst hn
  exact lv_fload C.1 C.2.1 d (lv_at hl j hj) (k H locs ls hP hS hl)
theorem fo_aload_n (C : fo_C Λ K cc own nL) {q : Fin 4} {i : Nat} {x : Nat} (d : decode cc pc = .ok (.aload_n q, 1)) (j : Nat) (hj : lv[j]? = some (i, .ref x)) (hi : (q : Nat) = i) (n' : Nat) (hn : pc + 1 = n') (k : fo_G l Λ R K cs ss n' lv (.ref x :: st) I D J X) : fo_G l Λ R K cs ss pc lv st I D J X := by
  intro H locs ls hP hS hl
  subst hn
  exact lv_aload_n C.1 C.2.1 d hi (lv_at hl j hj) (k H locs ls hP hS hl)
theorem fo_aload (C : fo_C Λ K cc own nL) {i : Nat} {x : Nat} (d : decode cc pc = .ok (.aload i, 2)) (j : Nat) (hj : lv[j]? = some (i, .ref x)) (n' : Nat) (hn : pc + 2 = n') (k : fo_G l Λ R K cs ss n' lv (.ref x :: st) I D J X) : fo_G l Λ R K cs ss pc lv st I D J X := by
  intro H locs ls hP hS hl
  subst hn
  exact lv_aload C.1 C.2.1 d (lv_at hl j hj) (k H locs ls hP hS hl)
theorem fo_istore_n (C : fo_C Λ K cc own nL) {q : Fin 4} {x : Int32} {i : Nat} (d : decode cc pc = .ok (.istore_n q, 1)) (hi : (q : Nat) = i) (lv' : List (Nat × Value)) (hl' : (i, Value.int x) :: lv.filter (fun q => !(q.1 == i) && !(q.1 + 1 == i && q.2.category == 2)) = lv') (hb : i < nL) (n' : Nat) (hn : pc + 1 = n') (k : fo_G l Λ R K cs ss n' lv' st I D J X) : fo_G l Λ R K cs ss pc lv (Value.int x :: st) I D J X := by
  intro H locs ls hP hS hl
  subst hn
  exact lv_istore_n C.1 C.2.1 d hi hl (by rw [C.nl]; exact hb) hl' (fun ls' h' => k H locs ls' hP hS h')
theorem fo_istore (C : fo_C Λ K cc own nL) {x : Int32} {i : Nat} (d : decode cc pc = .ok (.istore i, 2)) (lv' : List (Nat × Value)) (hl' : (i, Value.int x) :: lv.filter (fun q => !(q.1 == i) && !(q.1 + 1 == i && q.2.category == 2)) = lv') (hb : i < nL) (n' : Nat) (hn : pc + 2 = n') (k : fo_G l Λ R K cs ss n' lv' st I D J X) : fo_G l Λ R K cs ss pc lv (Value.int x :: st) I D J X := by
  intro H locs ls hP hS hl
  subst hn
  exact lv_istore C.1 C.2.1 d hl (by rw [C.nl]; exact hb) hl' (fun ls' h' => k H locs ls' hP hS h')
theorem fo_lstore_n (C : fo_C Λ K cc own nL) {q : Fin 4} {x : Int64} {i : Nat} (d : decode cc pc = .ok (.lstore_n q, 1)) (hi : (q : Nat) = i) (lv' : List (Nat × Value)) (hl' : (i, Value.long x) :: lv.filter (fun q => !(q.1 == i) && (!(q.1 == i + 1) && !(q.1 + 1 == i && q.2.category == 2))) = lv') (hb : i + 1 < nL) (n' : Nat) (hn : pc + 1 = n') (k : fo_G l Λ R K cs ss n' lv' st I D J X) : fo_G l Λ R K cs ss pc lv (Value.long x :: st) I D J X := by
  intro H locs ls hP hS hl
  subst hn
  exact lv_lstore_n C.1 C.2.1 d hi hl (by rw [C.nl]; exact hb) hl' (fun ls' h' => k H locs ls' hP hS h')
theorem fo_lstore (C : fo_C Λ K cc own nL) {x : Int64} {i : Nat} (d : decode cc pc = .ok (.lstore i, 2)) (lv' : List (Nat × Value)) (hl' : (i, Value.long x) :: lv.filter (fun q => !(q.1 == i) && (!(q.1 == i + 1) && !(q.1 + 1 == i && q.2.category == 2))) = lv') (hb : i + 1 < nL) (n' : Nat) (hn : pc + 2 = n') (k : fo_G l Λ R K cs ss n' lv' st I D J X) : fo_G l Λ R K cs ss pc lv (Value.long x :: st) I D J X := by
  intro H locs ls hP hS hl
  subst hn
  exact lv_lstore C.1 C.2.1 d hl (by rw [C.nl]; exact hb) hl' (fun ls' h' => k H locs ls' hP hS h')
theorem fo_dstore_n (C : fo_C Λ K cc own nL) {q : Fin 4} {x : UInt64} {i : Nat} (d : decode cc pc = .ok (.dstore_n q, 1)) (hi : (q : Nat) = i) (lv' : List (Nat × Value)) (hl' : (i, Value.double x) :: lv.filter (fun q => !(q.1 == i) && (!(q.1 == i + 1) && !(q.1 + 1 == i && q.2.category == 2))) = lv') (hb : i + 1 < nL) (n' : Nat) (hn : pc + 1 = n') (k : fo_G l Λ R K cs ss n' lv' st I D J X) : fo_G l Λ R K cs ss pc lv (Value.double x :: st) I D J X := by
  intro H locs ls hP hS hl
  subst hn
  exact lv_dstore_n C.1 C.2.1 d hi hl (by rw [C.nl]; exact hb) hl' (fun ls' h' => k H locs ls' hP hS h')
theorem fo_dstore (C : fo_C Λ K cc own nL) {x : UInt64} {i : Nat} (d : decode cc pc = .ok (.dstore i, 2)) (lv' : List (Nat × Value)) (hl' : (i, Value.double x) :: lv.filter (fun q => !(q.1 == i) && (!(q.1 == i + 1) && !(q.1 + 1 == i && q.2.category == 2))) = lv') (hb : i + 1 < nL) (n' : Nat) (hn : pc + 2 = n') (k : fo_G l Λ R K cs ss n' lv' st I D J X) : fo_G l Λ R K cs ss pc lv (Value.double x :: st) I D J X := by
  intro H locs ls hP hS hl
  subst hn
  exact lv_dstore C.1 C.2.1 d hl (by rw [C.nl]; exact hb) hl' (fun ls' h' => k H locs ls' hP hS h')
theorem fo_fstore_n (C : fo_C Λ K cc own nL) {q : Fin 4} {x : UInt32} {i : Nat} (d : decode cc pc = .ok (.fstore_n q, 1)) (hi : (q : Nat) = i) (lv' : List (Nat × Value)) (hl' : (i, Value.float x) :: lv.filter (fun q => !(q.1 == i) && !(q.1 + 1 == i && q.2.category == 2)) = lv') (hb : i < nL) (n' : Nat) (hn : pc + 1 = n') (k : fo_G l Λ R K cs ss n' lv' st I D J X) : fo_G l Λ R K cs ss pc lv (Value.float x :: st) I D J X := by
  intro H locs ls hP hS hl
  subst hn
  exact lv_fstore_n C.1 C.2.1 d hi hl (by rw [C.nl]; exact hb) hl' (fun ls' h' => k H locs ls' hP hS h')
theorem fo_fstore (C : fo_C Λ K cc own nL) {x : UInt32} {i : Nat} (d : decode cc pc = .ok (.fstore i, 2)) (lv' : List (Nat × Value)) (hl' : (i, Value.float x) :: lv.filter (fun q => !(q.1 == i) && !(q.1 + 1 == i && q.2.category == 2)) = lv') (hb : i < nL) (n' : Nat) (hn : pc + 2 = n') (k : fo_G l Λ R K cs ss n' lv' st I D J X) : fo_G l Λ R K cs ss pc lv (Value.float x :: st) I D J X := by
  intro H locs ls hP hS hl
  subst hn
  exact lv_fstore C.1 C.2.1 d hl (by rw [C.nl]; exact hb) hl' (fun ls' h' => k H locs ls' hP hS h')
theorem fo_astore_n (C : fo_C Λ K cc own nL) {q : Fin 4} {x : Nat} {i : Nat} (d : decode cc pc = .ok (.astore_n q, 1)) (hi : (q : Nat) = i) (lv' : List (Nat × Value)) (hl' : (i, Value.ref x) :: lv.filter (fun q => !(q.1 == i) && !(q.1 + 1 == i && q.2.category == 2)) = lv') (hb : i < nL) (n' : Nat) (hn : pc + 1 = n') (k : fo_G l Λ R K cs ss n' lv' st I D J X) : fo_G l Λ R K cs ss pc lv (Value.ref x :: st) I D J X := by
  intro H locs ls hP hS hl
  subst hn
  exact lv_astore_n C.1 C.2.1 d hi hl (by rw [C.nl]; exact hb) hl' (fun ls' h' => k H locs ls' hP hS h')
theorem fo_astore (C : fo_C Λ K cc own nL) {x : Nat} {i : Nat} (d : decode cc pc = .ok (.astore i, 2)) (lv' : List (Nat × Value)) (hl' : (i, Value.ref x) :: lv.filter (fun q => !(q.1 == i) && !(q.1 + 1 == i && q.2.category == 2)) = lv') (hb : i < nL) (n' : Nat) (hn : pc + 2 = n') (k : fo_G l Λ R K cs ss n' lv' st I D J X) : fo_G l Λ R K cs ss pc lv (Value.ref x :: st) I D J X := by
  intro H locs ls hP hS hl
  subst hn
  exact lv_astore C.1 C.2.1 d hl (by rw [C.nl]; exact hb) hl' (fun ls' h' => k H locs ls' hP hS h')
theorem fo_iinc (C : fo_C Λ K cc own nL) {i : Nat} {n : Int} {x : Int32} (d : decode cc pc = .ok (.iinc i n, 3)) (j : Nat) (hj : lv[j]? = some (i, .int x)) (v : Int32) (hv : x + Int32.ofInt n = v) (lv' : List (Nat × Value)) (hl' : (i, Value.int v) :: lv.filter (fun q => !(q.1 == i) && !(q.1 + 1 == i && q.2.category == 2)) = lv') (hb : i < nL) (n' : Nat) (hn : pc + 3 = n') (k : fo_G l Λ R K cs ss n' lv' st I D J X) : fo_G l Λ R K cs ss pc lv st I D J X := by
  intro H locs ls hP hS hl
  subst hn
  exact lv_iinc C.1 C.2.1 d hl hj hv (by rw [C.nl]; exact hb) hl' (fun ls' h' => k H locs ls' hP hS h')
theorem fo_iadd (C : fo_C Λ K cc own nL) {x y : Int32} (d : decode cc pc = .ok (.iadd, 1)) (v : Int32) (hv : x + y = v) (n' : Nat) (hn : pc + 1 = n') (k : fo_G l Λ R K cs ss n' lv (.int v :: st) I D J X) : fo_G l Λ R K cs ss pc lv (.int y :: .int x :: st) I D J X := by
  intro H locs ls hP hS hl
  subst hn
  subst hv
  exact lv_iadd C.1 C.2.1 d (k H locs ls hP hS hl)
theorem fo_isub (C : fo_C Λ K cc own nL) {x y : Int32} (d : decode cc pc = .ok (.isub, 1)) (v : Int32) (hv : x - y = v) (n' : Nat) (hn : pc + 1 = n') (k : fo_G l Λ R K cs ss n' lv (.int v :: st) I D J X) : fo_G l Λ R K cs ss pc lv (.int y :: .int x :: st) I D J X := by
  intro H locs ls hP hS hl
  subst hn
  subst hv
  exact lv_isub C.1 C.2.1 d (k H locs ls hP hS hl)
theorem fo_imul (C : fo_C Λ K cc own nL) {x y : Int32} (d : decode cc pc = .ok (.imul, 1)) (v : Int32) (hv : x * y = v) (n' : Nat) (hn : pc + 1 = n') (k : fo_G l Λ R K cs ss n' lv (.int v :: st) I D J X) : fo_G l Λ R K cs ss pc lv (.int y :: .int x :: st) I D J X := by
  intro H locs ls hP hS hl
  subst hn
  subst hv
  exact lv_imul C.1 C.2.1 d (k H locs ls hP hS hl)
theorem fo_iand (C : fo_C Λ K cc own nL) {x y : Int32} (d : decode cc pc = .ok (.iand, 1)) (v : Int32) (hv : x &&& y = v) (n' : Nat) (hn : pc + 1 = n') (k : fo_G l Λ R K cs ss n' lv (.int v :: st) I D J X) : fo_G l Λ R K cs ss pc lv (.int y :: .int x :: st) I D J X := by
  intro H locs ls hP hS hl
  subst hn
  subst hv
  exact lv_iand C.1 C.2.1 d (k H locs ls hP hS hl)
theorem fo_ior (C : fo_C Λ K cc own nL) {x y : Int32} (d : decode cc pc = .ok (.ior, 1)) (v : Int32) (hv : x ||| y = v) (n' : Nat) (hn : pc + 1 = n') (k : fo_G l Λ R K cs ss n' lv (.int v :: st) I D J X) : fo_G l Λ R K cs ss pc lv (.int y :: .int x :: st) I D J X := by
  intro H locs ls hP hS hl
  subst hn
  subst hv
  exact lv_ior C.1 C.2.1 d (k H locs ls hP hS hl)
theorem fo_idiv (C : fo_C Λ K cc own nL) {x y : Int32} (d : decode cc pc = .ok (.idiv, 1)) (hne : ¬ y = 0) (v : Int32) (hv : x / y = v) (n' : Nat) (hn : pc + 1 = n') (k : fo_G l Λ R K cs ss n' lv (.int v :: st) I D J X) : fo_G l Λ R K cs ss pc lv (.int y :: .int x :: st) I D J X := by
  intro H locs ls hP hS hl
  subst hn
  subst hv
  exact lv_idiv C.1 C.2.1 d hne (k H locs ls hP hS hl)
theorem fo_irem (C : fo_C Λ K cc own nL) {x y : Int32} (d : decode cc pc = .ok (.irem, 1)) (hne : ¬ y = 0) (v : Int32) (hv : x - x / y * y = v) (n' : Nat) (hn : pc + 1 = n') (k : fo_G l Λ R K cs ss n' lv (.int v :: st) I D J X) : fo_G l Λ R K cs ss pc lv (.int y :: .int x :: st) I D J X := by
  intro H locs ls hP hS hl
  subst hn
  subst hv
  exact lv_irem C.1 C.2.1 d hne (k H locs ls hP hS hl)
theorem fo_ineg (C : fo_C Λ K cc own nL) {x : Int32} (d : decode cc pc = .ok (.ineg, 1)) (v : Int32) (hv : -x = v) (n' : Nat) (hn : pc + 1 = n') (k : fo_G l Λ R K cs ss n' lv (.int v :: st) I D J X) : fo_G l Λ R K cs ss pc lv (.int x :: st) I D J X := by
  intro H locs ls hP hS hl
  subst hn
  subst hv
  exact lv_ineg C.1 C.2.1 d (k H locs ls hP hS hl)
theorem fo_i2l (C : fo_C Λ K cc own nL) {x : Int32} (d : decode cc pc = .ok (.i2l, 1)) (v : Int64) (hv : x.toInt64 = v) (n' : Nat) (hn : pc + 1 = n') (k : fo_G l Λ R K cs ss n' lv (.long v :: st) I D J X) : fo_G l Λ R K cs ss pc lv (.int x :: st) I D J X := by
  intro H locs ls hP hS hl
  subst hn
  exact lv_i2l C.1 C.2.1 d hv (k H locs ls hP hS hl)
theorem fo_i2c (C : fo_C Λ K cc own nL) {x : Int32} (d : decode cc pc = .ok (.i2c, 1)) (v : Int32) (hv : (x.toUInt32 % 65536).toInt32 = v) (n' : Nat) (hn : pc + 1 = n') (k : fo_G l Λ R K cs ss n' lv (.int v :: st) I D J X) : fo_G l Λ R K cs ss pc lv (.int x :: st) I D J X := by
  intro H locs ls hP hS hl
  subst hn
  exact lv_i2c C.1 C.2.1 d hv (k H locs ls hP hS hl)
theorem fo_i2d (C : fo_C Λ K cc own nL) {x : Int32} (d : decode cc pc = .ok (.i2d, 1)) (n' : Nat) (hn : pc + 1 = n') (k : fo_G l Λ R K cs ss n' lv (.double (FP.i2d x) :: st) I D J X) : fo_G l Λ R K cs ss pc lv (.int x :: st) I D J X := by
  intro H locs ls hP hS hl
  subst hn
  exact lv_i2d C.1 C.2.1 d (k H locs ls hP hS hl)
theorem fo_i2f (C : fo_C Λ K cc own nL) {x : Int32} (d : decode cc pc = .ok (.i2f, 1)) (n' : Nat) (hn : pc + 1 = n') (k : fo_G l Λ R K cs ss n' lv (.float (FP.i2f x) :: st) I D J X) : fo_G l Λ R K cs ss pc lv (.int x :: st) I D J X := by
  intro H locs ls hP hS hl
  subst hn
  exact lv_i2f C.1 C.2.1 d (k H locs ls hP hS hl)
theorem fo_d2l (C : fo_C Λ K cc own nL) {x : UInt64} (d : decode cc pc = .ok (.d2l, 1)) (n' : Nat) (hn : pc + 1 = n') (k : fo_G l Λ R K cs ss n' lv (.long (FP.d2l x) :: st) I D J X) : fo_G l Λ R K cs ss pc lv (.double x :: st) I D J X := by
  intro H locs ls hP hS hl
  subst hn
  exact lv_d2l C.1 C.2.1 d (k H locs ls hP hS hl)
theorem fo_dadd (C : fo_C Λ K cc own nL) {x y : UInt64} (d : decode cc pc = .ok (.dadd, 1)) (h : vf_n64 (FP.dadd x y)) (n' : Nat) (hn : pc + 1 = n') (k : fo_G l Λ R K cs ss n' lv (.double (FP.dadd x y) :: st) I D J X) : fo_G l Λ R K cs ss pc lv (.double y :: .double x :: st) I D J X := by
  intro H locs ls hP hS hl
  subst hn
  exact lv_dadd C.1 C.2.1 d h (k H locs ls hP hS hl)
theorem fo_dsub (C : fo_C Λ K cc own nL) {x y : UInt64} (d : decode cc pc = .ok (.dsub, 1)) (h : vf_n64 (FP.dsub x y)) (n' : Nat) (hn : pc + 1 = n') (k : fo_G l Λ R K cs ss n' lv (.double (FP.dsub x y) :: st) I D J X) : fo_G l Λ R K cs ss pc lv (.double y :: .double x :: st) I D J X := by
  intro H locs ls hP hS hl
  subst hn
  exact lv_dsub C.1 C.2.1 d h (k H locs ls hP hS hl)
theorem fo_dmul (C : fo_C Λ K cc own nL) {x y : UInt64} (d : decode cc pc = .ok (.dmul, 1)) (h : vf_n64 (FP.dmul x y)) (n' : Nat) (hn : pc + 1 = n') (k : fo_G l Λ R K cs ss n' lv (.double (FP.dmul x y) :: st) I D J X) : fo_G l Λ R K cs ss pc lv (.double y :: .double x :: st) I D J X := by
  intro H locs ls hP hS hl
  subst hn
  exact lv_dmul C.1 C.2.1 d h (k H locs ls hP hS hl)
theorem fo_ddiv (C : fo_C Λ K cc own nL) {x y : UInt64} (d : decode cc pc = .ok (.ddiv, 1)) (h : vf_n64 (FP.ddiv x y)) (n' : Nat) (hn : pc + 1 = n') (k : fo_G l Λ R K cs ss n' lv (.double (FP.ddiv x y) :: st) I D J X) : fo_G l Λ R K cs ss pc lv (.double y :: .double x :: st) I D J X := by
  intro H locs ls hP hS hl
  subst hn
  exact lv_ddiv C.1 C.2.1 d h (k H locs ls hP hS hl)
theorem fo_fdiv (C : fo_C Λ K cc own nL) {x y : UInt32} (d : decode cc pc = .ok (.fdiv, 1)) (h : vf_n32 (FP.fdiv x y)) (n' : Nat) (hn : pc + 1 = n') (k : fo_G l Λ R K cs ss n' lv (.float (FP.fdiv x y) :: st) I D J X) : fo_G l Λ R K cs ss pc lv (.float y :: .float x :: st) I D J X := by
  intro H locs ls hP hS hl
  subst hn
  exact lv_fdiv C.1 C.2.1 d h (k H locs ls hP hS hl)
theorem fo_f2d (C : fo_C Λ K cc own nL) {x : UInt32} (d : decode cc pc = .ok (.f2d, 1)) (h : vf_n64 (FP.f2d x)) (n' : Nat) (hn : pc + 1 = n') (k : fo_G l Λ R K cs ss n' lv (.double (FP.f2d x) :: st) I D J X) : fo_G l Λ R K cs ss pc lv (.float x :: st) I D J X := by
  intro H locs ls hP hS hl
  subst hn
  exact lv_f2d C.1 C.2.1 d h (k H locs ls hP hS hl)
theorem fo_dneg (C : fo_C Λ K cc own nL) {x : UInt64} (d : decode cc pc = .ok (.dneg, 1)) (n' : Nat) (hn : pc + 1 = n') (k : fo_G l Λ R K cs ss n' lv (.double (FP.dneg x) :: st) I D J X) : fo_G l Λ R K cs ss pc lv (.double x :: st) I D J X := by
  intro H locs ls hP hS hl
  subst hn
  exact lv_dneg C.1 C.2.1 d (k H locs ls hP hS hl)
theorem fo_dcmp (C : fo_C Λ K cc own nL) {x y : UInt64} {op : CmpOp} (d : decode cc pc = .ok (.dcmp op, 1)) (n' : Nat) (hn : pc + 1 = n') (k : fo_G l Λ R K cs ss n' lv (.int (Op.cmpValue (FP.dcmp x y) op) :: st) I D J X) : fo_G l Λ R K cs ss pc lv (.double y :: .double x :: st) I D J X := by
  intro H locs ls hP hS hl
  subst hn
  exact lv_dcmp C.1 C.2.1 d (k H locs ls hP hS hl)
theorem fo_fcmp (C : fo_C Λ K cc own nL) {x y : UInt32} {op : CmpOp} (d : decode cc pc = .ok (.fcmp op, 1)) (n' : Nat) (hn : pc + 1 = n') (k : fo_G l Λ R K cs ss n' lv (.int (Op.cmpValue (FP.fcmp x y) op) :: st) I D J X) : fo_G l Λ R K cs ss pc lv (.float y :: .float x :: st) I D J X := by
  intro H locs ls hP hS hl
  subst hn
  exact lv_fcmp C.1 C.2.1 d (k H locs ls hP hS hl)
theorem fo_lor (C : fo_C Λ K cc own nL) {x y : Int64} (d : decode cc pc = .ok (.lor, 1)) (v : Int64) (hv : x ||| y = v) (n' : Nat) (hn : pc + 1 = n') (k : fo_G l Λ R K cs ss n' lv (.long v :: st) I D J X) : fo_G l Λ R K cs ss pc lv (.long y :: .long x :: st) I D J X := by
  intro H locs ls hP hS hl
  subst hn
  subst hv
  exact lv_lor C.1 C.2.1 d (k H locs ls hP hS hl)
theorem fo_ladd (C : fo_C Λ K cc own nL) {x y : Int64} (d : decode cc pc = .ok (.ladd, 1)) (v : Int64) (hv : x + y = v) (n' : Nat) (hn : pc + 1 = n') (k : fo_G l Λ R K cs ss n' lv (.long v :: st) I D J X) : fo_G l Λ R K cs ss pc lv (.long y :: .long x :: st) I D J X := by
  intro H locs ls hP hS hl
  subst hn
  subst hv
  exact lv_ladd C.1 C.2.1 d (k H locs ls hP hS hl)
theorem fo_lsub (C : fo_C Λ K cc own nL) {x y : Int64} (d : decode cc pc = .ok (.lsub, 1)) (v : Int64) (hv : x - y = v) (n' : Nat) (hn : pc + 1 = n') (k : fo_G l Λ R K cs ss n' lv (.long v :: st) I D J X) : fo_G l Λ R K cs ss pc lv (.long y :: .long x :: st) I D J X := by
  intro H locs ls hP hS hl
  subst hn
  subst hv
  exact lv_lsub C.1 C.2.1 d (k H locs ls hP hS hl)
theorem fo_lshl (C : fo_C Λ K cc own nL) {x : Int64} {y : Int32} (d : decode cc pc = .ok (.lshl, 1)) (v : Int64) (hv : x <<< (y.toInt64 &&& 63) = v) (n' : Nat) (hn : pc + 1 = n') (k : fo_G l Λ R K cs ss n' lv (.long v :: st) I D J X) : fo_G l Λ R K cs ss pc lv (.int y :: .long x :: st) I D J X := by
  intro H locs ls hP hS hl
  subst hn
  exact lv_lshl C.1 C.2.1 d hv (k H locs ls hP hS hl)
theorem fo_dup (C : fo_C Λ K cc own nL) {va : Value} (d : decode cc pc = .ok (.dup, 1)) (hva : va.category = 1) (n' : Nat) (hn : pc + 1 = n') (k : fo_G l Λ R K cs ss n' lv (va :: va :: st) I D J X) : fo_G l Λ R K cs ss pc lv (va :: st) I D J X := by
  intro H locs ls hP hS hl
  subst hn
  exact lv_dup C.1 C.2.1 d hva (k H locs ls hP hS hl)
theorem fo_pop (C : fo_C Λ K cc own nL) {va : Value} (d : decode cc pc = .ok (.pop, 1)) (hva : va.category = 1) (n' : Nat) (hn : pc + 1 = n') (k : fo_G l Λ R K cs ss n' lv st I D J X) : fo_G l Λ R K cs ss pc lv (va :: st) I D J X := by
  intro H locs ls hP hS hl
  subst hn
  exact lv_pop C.1 C.2.1 d hva (k H locs ls hP hS hl)
theorem fo_dup2 (C : fo_C Λ K cc own nL) {va vb : Value} (d : decode cc pc = .ok (.dup2, 1)) (hva : va.category = 1) (hvb : vb.category = 1) (n' : Nat) (hn : pc + 1 = n') (k : fo_G l Λ R K cs ss n' lv (va :: vb :: va :: vb :: st) I D J X) : fo_G l Λ R K cs ss pc lv (va :: vb :: st) I D J X := by
  intro H locs ls hP hS hl
  subst hn
  exact lv_dup2_11 C.1 C.2.1 d hva hvb (k H locs ls hP hS hl)
theorem fo_goto (C : fo_C Λ K cc own nL) {off : Int} (d : decode cc pc = .ok (.goto off, 3)) (n' : Nat) (hn : (pc : Int) + off = (n' : Int)) (k : fo_G l Λ R K cs ss n' lv st I D J X) : fo_G l Λ R K cs ss pc lv st I D J X := by
  intro H locs ls hP hS hl
  exact lv_goto C.1 C.2.1 d hn (k H locs ls hP hS hl)
theorem fo_icmp_eq (C : fo_C Λ K cc own nL) {x y : Int32} {off : Int} (d : decode cc pc = .ok (.if_icmp .eq off, 3)) (m' : Nat) (hm : (pc : Int) + off = (m' : Int)) (n' : Nat) (hn : pc + 3 = n') (kt : x = y → fo_G l Λ R K cs ss m' lv st I D J X) (kf : ¬ x = y → fo_G l Λ R K cs ss n' lv st I D J X) : fo_G l Λ R K cs ss pc lv (.int y :: .int x :: st) I D J X := by
  intro H locs ls hP hS hl
  subst hn
  exact lv_icmp_eq C.1 C.2.1 d hm (fun h => kt h H locs ls hP hS hl) (fun h => kf h H locs ls hP hS hl)
theorem fo_if_eq (C : fo_C Λ K cc own nL) {x : Int32} {off : Int} (d : decode cc pc = .ok (.ifCond .eq off, 3)) (m' : Nat) (hm : (pc : Int) + off = (m' : Int)) (n' : Nat) (hn : pc + 3 = n') (kt : x = 0 → fo_G l Λ R K cs ss m' lv st I D J X) (kf : ¬ x = 0 → fo_G l Λ R K cs ss n' lv st I D J X) : fo_G l Λ R K cs ss pc lv (.int x :: st) I D J X := by
  intro H locs ls hP hS hl
  subst hn
  exact lv_if_eq C.1 C.2.1 d hm (fun h => kt h H locs ls hP hS hl) (fun h => kf h H locs ls hP hS hl)
theorem fo_ncmp_eq (C : fo_C Λ K cc own nL) {a b : Nat} (ha : a < 2 ^ 31) (hb : b < 2 ^ 31) {off : Int} (d : decode cc pc = .ok (.if_icmp .eq off, 3)) (m' : Nat) (hm : (pc : Int) + off = (m' : Int)) (n' : Nat) (hn : pc + 3 = n') (kt : a = b → fo_G l Λ R K cs ss m' lv st I D J X) (kf : a ≠ b → fo_G l Λ R K cs ss n' lv st I D J X) : fo_G l Λ R K cs ss pc lv (.int (nI b) :: .int (nI a) :: st) I D J X := by
  exact fo_icmp_eq C d m' hm n' hn (fun h => kt ((nI_eq ha hb).mp h)) (fun h => kf (fun q => h ((nI_eq ha hb).mpr q)))
theorem fo_nif_eq (C : fo_C Λ K cc own nL) {a : Nat} (ha : a < 2 ^ 31) {off : Int} (d : decode cc pc = .ok (.ifCond .eq off, 3)) (m' : Nat) (hm : (pc : Int) + off = (m' : Int)) (n' : Nat) (hn : pc + 3 = n') (kt : a = 0 → fo_G l Λ R K cs ss m' lv st I D J X) (kf : 0 < a → fo_G l Λ R K cs ss n' lv st I D J X) : fo_G l Λ R K cs ss pc lv (.int (nI a) :: st) I D J X := by
  exact fo_if_eq C d m' hm n' hn (fun h => kt (by rcases Nat.eq_zero_or_pos a with q | q; exact q; exact absurd h (nI_ne0 q ha))) (fun h => kf (by rcases Nat.eq_zero_or_pos a with q | q; exact absurd (by rw [q]; rfl) h; exact q))
theorem fo_icmp_ne (C : fo_C Λ K cc own nL) {x y : Int32} {off : Int} (d : decode cc pc = .ok (.if_icmp .ne off, 3)) (m' : Nat) (hm : (pc : Int) + off = (m' : Int)) (n' : Nat) (hn : pc + 3 = n') (kt : ¬ x = y → fo_G l Λ R K cs ss m' lv st I D J X) (kf : x = y → fo_G l Λ R K cs ss n' lv st I D J X) : fo_G l Λ R K cs ss pc lv (.int y :: .int x :: st) I D J X := by
  intro H locs ls hP hS hl
  subst hn
  exact lv_icmp_ne C.1 C.2.1 d hm (fun h => kt h H locs ls hP hS hl) (fun h => kf h H locs ls hP hS hl)
theorem fo_if_ne (C : fo_C Λ K cc own nL) {x : Int32} {off : Int} (d : decode cc pc = .ok (.ifCond .ne off, 3)) (m' : Nat) (hm : (pc : Int) + off = (m' : Int)) (n' : Nat) (hn : pc + 3 = n') (kt : ¬ x = 0 → fo_G l Λ R K cs ss m' lv st I D J X) (kf : x = 0 → fo_G l Λ R K cs ss n' lv st I D J X) : fo_G l Λ R K cs ss pc lv (.int x :: st) I D J X := by
  intro H locs ls hP hS hl
  subst hn
  exact lv_if_ne C.1 C.2.1 d hm (fun h => kt h H locs ls hP hS hl) (fun h => kf h H locs ls hP hS hl)
theorem fo_ncmp_ne (C : fo_C Λ K cc own nL) {a b : Nat} (ha : a < 2 ^ 31) (hb : b < 2 ^ 31) {off : Int} (d : decode cc pc = .ok (.if_icmp .ne off, 3)) (m' : Nat) (hm : (pc : Int) + off = (m' : Int)) (n' : Nat) (hn : pc + 3 = n') (kt : a ≠ b → fo_G l Λ R K cs ss m' lv st I D J X) (kf : a = b → fo_G l Λ R K cs ss n' lv st I D J X) : fo_G l Λ R K cs ss pc lv (.int (nI b) :: .int (nI a) :: st) I D J X := by
  exact fo_icmp_ne C d m' hm n' hn (fun h => kt (fun q => h ((nI_eq ha hb).mpr q))) (fun h => kf ((nI_eq ha hb).mp h))
theorem fo_nif_ne (C : fo_C Λ K cc own nL) {a : Nat} (ha : a < 2 ^ 31) {off : Int} (d : decode cc pc = .ok (.ifCond .ne off, 3)) (m' : Nat) (hm : (pc : Int) + off = (m' : Int)) (n' : Nat) (hn : pc + 3 = n') (kt : 0 < a → fo_G l Λ R K cs ss m' lv st I D J X) (kf : a = 0 → fo_G l Λ R K cs ss n' lv st I D J X) : fo_G l Λ R K cs ss pc lv (.int (nI a) :: st) I D J X := by
  exact fo_if_ne C d m' hm n' hn (fun h => kt (by rcases Nat.eq_zero_or_pos a with q | q; exact absurd (by rw [q]; rfl) h; exact q)) (fun h => kf (by rcases Nat.eq_zero_or_pos a with q | q; exact q; exact absurd h (nI_ne0 q ha)))
theorem fo_icmp_lt (C : fo_C Λ K cc own nL) {x y : Int32} {off : Int} (d : decode cc pc = .ok (.if_icmp .lt off, 3)) (m' : Nat) (hm : (pc : Int) + off = (m' : Int)) (n' : Nat) (hn : pc + 3 = n') (kt : x < y → fo_G l Λ R K cs ss m' lv st I D J X) (kf : ¬ x < y → fo_G l Λ R K cs ss n' lv st I D J X) : fo_G l Λ R K cs ss pc lv (.int y :: .int x :: st) I D J X := by
  intro H locs ls hP hS hl
  subst hn
  exact lv_icmp_lt C.1 C.2.1 d hm (fun h => kt h H locs ls hP hS hl) (fun h => kf h H locs ls hP hS hl)
theorem fo_if_lt (C : fo_C Λ K cc own nL) {x : Int32} {off : Int} (d : decode cc pc = .ok (.ifCond .lt off, 3)) (m' : Nat) (hm : (pc : Int) + off = (m' : Int)) (n' : Nat) (hn : pc + 3 = n') (kt : x < 0 → fo_G l Λ R K cs ss m' lv st I D J X) (kf : ¬ x < 0 → fo_G l Λ R K cs ss n' lv st I D J X) : fo_G l Λ R K cs ss pc lv (.int x :: st) I D J X := by
  intro H locs ls hP hS hl
  subst hn
  exact lv_if_lt C.1 C.2.1 d hm (fun h => kt h H locs ls hP hS hl) (fun h => kf h H locs ls hP hS hl)
theorem fo_ncmp_lt (C : fo_C Λ K cc own nL) {a b : Nat} (ha : a < 2 ^ 31) (hb : b < 2 ^ 31) {off : Int} (d : decode cc pc = .ok (.if_icmp .lt off, 3)) (m' : Nat) (hm : (pc : Int) + off = (m' : Int)) (n' : Nat) (hn : pc + 3 = n') (kt : a < b → fo_G l Λ R K cs ss m' lv st I D J X) (kf : b ≤ a → fo_G l Λ R K cs ss n' lv st I D J X) : fo_G l Λ R K cs ss pc lv (.int (nI b) :: .int (nI a) :: st) I D J X := by
  exact fo_icmp_lt C d m' hm n' hn (fun h => kt ((nI_ltI ha hb).mp h)) (fun h => kf (Nat.not_lt.mp (fun q => h ((nI_ltI ha hb).mpr q))))
theorem fo_nif_lt (C : fo_C Λ K cc own nL) {a : Nat} (ha : a < 2 ^ 31) {off : Int} (d : decode cc pc = .ok (.ifCond .lt off, 3)) (n' : Nat) (hn : pc + 3 = n') (m' : Nat) (hm : (pc : Int) + off = (m' : Int)) (kf : fo_G l Λ R K cs ss n' lv st I D J X) : fo_G l Λ R K cs ss pc lv (.int (nI a) :: st) I D J X := by
  exact fo_if_lt C d m' hm n' hn (fun h => absurd h (nI_pos ha)) (fun _ => kf)
theorem fo_icmp_ge (C : fo_C Λ K cc own nL) {x y : Int32} {off : Int} (d : decode cc pc = .ok (.if_icmp .ge off, 3)) (m' : Nat) (hm : (pc : Int) + off = (m' : Int)) (n' : Nat) (hn : pc + 3 = n') (kt : y ≤ x → fo_G l Λ R K cs ss m' lv st I D J X) (kf : ¬ y ≤ x → fo_G l Λ R K cs ss n' lv st I D J X) : fo_G l Λ R K cs ss pc lv (.int y :: .int x :: st) I D J X := by
  intro H locs ls hP hS hl
  subst hn
  exact lv_icmp_ge C.1 C.2.1 d hm (fun h => kt h H locs ls hP hS hl) (fun h => kf h H locs ls hP hS hl)
theorem fo_if_ge (C : fo_C Λ K cc own nL) {x : Int32} {off : Int} (d : decode cc pc = .ok (.ifCond .ge off, 3)) (m' : Nat) (hm : (pc : Int) + off = (m' : Int)) (n' : Nat) (hn : pc + 3 = n') (kt : 0 ≤ x → fo_G l Λ R K cs ss m' lv st I D J X) (kf : ¬ 0 ≤ x → fo_G l Λ R K cs ss n' lv st I D J X) : fo_G l Λ R K cs ss pc lv (.int x :: st) I D J X := by
  intro H locs ls hP hS hl
  subst hn
  exact lv_if_ge C.1 C.2.1 d hm (fun h => kt h H locs ls hP hS hl) (fun h => kf h H locs ls hP hS hl)
theorem fo_ncmp_ge (C : fo_C Λ K cc own nL) {a b : Nat} (ha : a < 2 ^ 31) (hb : b < 2 ^ 31) {off : Int} (d : decode cc pc = .ok (.if_icmp .ge off, 3)) (m' : Nat) (hm : (pc : Int) + off = (m' : Int)) (n' : Nat) (hn : pc + 3 = n') (kt : b ≤ a → fo_G l Λ R K cs ss m' lv st I D J X) (kf : a < b → fo_G l Λ R K cs ss n' lv st I D J X) : fo_G l Λ R K cs ss pc lv (.int (nI b) :: .int (nI a) :: st) I D J X := by
  exact fo_icmp_ge C d m' hm n' hn (fun h => kt ((nI_leI hb ha).mp h)) (fun h => kf (Nat.not_le.mp (fun q => h ((nI_leI hb ha).mpr q))))
theorem fo_nif_ge (C : fo_C Λ K cc own nL) {a : Nat} (ha : a < 2 ^ 31) {off : Int} (d : decode cc pc = .ok (.ifCond .ge off, 3)) (n' : Nat) (hn : pc + 3 = n') (m' : Nat) (hm : (pc : Int) + off = (m' : Int)) (kt : fo_G l Λ R K cs ss m' lv st I D J X) : fo_G l Λ R K cs ss pc lv (.int (nI a) :: st) I D J X := by
  exact fo_if_ge C d m' hm n' hn (fun _ => kt) (fun h => absurd (nI_pos' ha) h)
theorem fo_icmp_gt (C : fo_C Λ K cc own nL) {x y : Int32} {off : Int} (d : decode cc pc = .ok (.if_icmp .gt off, 3)) (m' : Nat) (hm : (pc : Int) + off = (m' : Int)) (n' : Nat) (hn : pc + 3 = n') (kt : y < x → fo_G l Λ R K cs ss m' lv st I D J X) (kf : ¬ y < x → fo_G l Λ R K cs ss n' lv st I D J X) : fo_G l Λ R K cs ss pc lv (.int y :: .int x :: st) I D J X := by
  intro H locs ls hP hS hl
  subst hn
  exact lv_icmp_gt C.1 C.2.1 d hm (fun h => kt h H locs ls hP hS hl) (fun h => kf h H locs ls hP hS hl)
theorem fo_if_gt (C : fo_C Λ K cc own nL) {x : Int32} {off : Int} (d : decode cc pc = .ok (.ifCond .gt off, 3)) (m' : Nat) (hm : (pc : Int) + off = (m' : Int)) (n' : Nat) (hn : pc + 3 = n') (kt : 0 < x → fo_G l Λ R K cs ss m' lv st I D J X) (kf : ¬ 0 < x → fo_G l Λ R K cs ss n' lv st I D J X) : fo_G l Λ R K cs ss pc lv (.int x :: st) I D J X := by
  intro H locs ls hP hS hl
  subst hn
  exact lv_if_gt C.1 C.2.1 d hm (fun h => kt h H locs ls hP hS hl) (fun h => kf h H locs ls hP hS hl)
theorem fo_ncmp_gt (C : fo_C Λ K cc own nL) {a b : Nat} (ha : a < 2 ^ 31) (hb : b < 2 ^ 31) {off : Int} (d : decode cc pc = .ok (.if_icmp .gt off, 3)) (m' : Nat) (hm : (pc : Int) + off = (m' : Int)) (n' : Nat) (hn : pc + 3 = n') (kt : b < a → fo_G l Λ R K cs ss m' lv st I D J X) (kf : a ≤ b → fo_G l Λ R K cs ss n' lv st I D J X) : fo_G l Λ R K cs ss pc lv (.int (nI b) :: .int (nI a) :: st) I D J X := by
  exact fo_icmp_gt C d m' hm n' hn (fun h => kt ((nI_ltI hb ha).mp h)) (fun h => kf (Nat.not_lt.mp (fun q => h ((nI_ltI hb ha).mpr q))))
theorem fo_nif_gt (C : fo_C Λ K cc own nL) {a : Nat} (ha : a < 2 ^ 31) {off : Int} (d : decode cc pc = .ok (.ifCond .gt off, 3)) (m' : Nat) (hm : (pc : Int) + off = (m' : Int)) (n' : Nat) (hn : pc + 3 = n') (kt : 0 < a → fo_G l Λ R K cs ss m' lv st I D J X) (kf : a = 0 → fo_G l Λ R K cs ss n' lv st I D J X) : fo_G l Λ R K cs ss pc lv (.int (nI a) :: st) I D J X := by
  exact fo_if_gt C d m' hm n' hn (fun h => kt (by rcases Nat.eq_zero_or_pos a with q | q; (exact absurd h (by rw [q]; decide)); exact q)) (fun h => kf (by rcases Nat.eq_zero_or_pos a with q | q; exact q; exact absurd ((nI_ltI (a := 0) (b := a) (by decide) ha).mpr q) h))
theorem fo_icmp_le (C : fo_C Λ K cc own nL) {x y : Int32} {off : Int} (d : decode cc pc = .ok (.if_icmp .le off, 3)) (m' : Nat) (hm : (pc : Int) + off = (m' : Int)) (n' : Nat) (hn : pc + 3 = n') (kt : x ≤ y → fo_G l Λ R K cs ss m' lv st I D J X) (kf : ¬ x ≤ y → fo_G l Λ R K cs ss n' lv st I D J X) : fo_G l Λ R K cs ss pc lv (.int y :: .int x :: st) I D J X := by
  intro H locs ls hP hS hl
  subst hn
  exact lv_icmp_le C.1 C.2.1 d hm (fun h => kt h H locs ls hP hS hl) (fun h => kf h H locs ls hP hS hl)
theorem fo_if_le (C : fo_C Λ K cc own nL) {x : Int32} {off : Int} (d : decode cc pc = .ok (.ifCond .le off, 3)) (m' : Nat) (hm : (pc : Int) + off = (m' : Int)) (n' : Nat) (hn : pc + 3 = n') (kt : x ≤ 0 → fo_G l Λ R K cs ss m' lv st I D J X) (kf : ¬ x ≤ 0 → fo_G l Λ R K cs ss n' lv st I D J X) : fo_G l Λ R K cs ss pc lv (.int x :: st) I D J X := by
  intro H locs ls hP hS hl
  subst hn
  exact lv_if_le C.1 C.2.1 d hm (fun h => kt h H locs ls hP hS hl) (fun h => kf h H locs ls hP hS hl)
theorem fo_ncmp_le (C : fo_C Λ K cc own nL) {a b : Nat} (ha : a < 2 ^ 31) (hb : b < 2 ^ 31) {off : Int} (d : decode cc pc = .ok (.if_icmp .le off, 3)) (m' : Nat) (hm : (pc : Int) + off = (m' : Int)) (n' : Nat) (hn : pc + 3 = n') (kt : a ≤ b → fo_G l Λ R K cs ss m' lv st I D J X) (kf : b < a → fo_G l Λ R K cs ss n' lv st I D J X) : fo_G l Λ R K cs ss pc lv (.int (nI b) :: .int (nI a) :: st) I D J X := by
  exact fo_icmp_le C d m' hm n' hn (fun h => kt ((nI_leI ha hb).mp h)) (fun h => kf (Nat.not_le.mp (fun q => h ((nI_leI ha hb).mpr q))))
theorem fo_nif_le (C : fo_C Λ K cc own nL) {a : Nat} (ha : a < 2 ^ 31) {off : Int} (d : decode cc pc = .ok (.ifCond .le off, 3)) (m' : Nat) (hm : (pc : Int) + off = (m' : Int)) (n' : Nat) (hn : pc + 3 = n') (kt : a = 0 → fo_G l Λ R K cs ss m' lv st I D J X) (kf : 0 < a → fo_G l Λ R K cs ss n' lv st I D J X) : fo_G l Λ R K cs ss pc lv (.int (nI a) :: st) I D J X := by
  exact fo_if_le C d m' hm n' hn (fun h => kt (by rcases Nat.eq_zero_or_pos a with q | q; exact q; exact absurd h (nI_nle q ha))) (fun h => kf (by rcases Nat.eq_zero_or_pos a with q | q; (exact absurd (by rw [q]; decide) h); exact q))
/-- a truth value as the machine has it -/
def fo_b (c : Bool) : Int32 := if c then 1 else 0
theorem fo_b_0 {c : Bool} : fo_b c = 0 ↔ c = false := by cases c <;> decide
theorem fo_b_n {c : Bool} : ¬ fo_b c = 0 ↔ c = true := by cases c <;> decide
theorem fo_bif_eq (C : fo_C Λ K cc own nL) {c : Bool} {off : Int} (d : decode cc pc = .ok (.ifCond .eq off, 3)) (m' : Nat) (hm : (pc : Int) + off = (m' : Int)) (n' : Nat) (hn : pc + 3 = n') (kt : c = false → fo_G l Λ R K cs ss m' lv st I D J X) (kf : c = true → fo_G l Λ R K cs ss n' lv st I D J X) : fo_G l Λ R K cs ss pc lv (.int (fo_b c) :: st) I D J X := by
  exact fo_if_eq C d m' hm n' hn (fun h => kt (fo_b_0.mp h)) (fun h => kf (fo_b_n.mp h))
theorem fo_bif_ne (C : fo_C Λ K cc own nL) {c : Bool} {off : Int} (d : decode cc pc = .ok (.ifCond .ne off, 3)) (m' : Nat) (hm : (pc : Int) + off = (m' : Int)) (n' : Nat) (hn : pc + 3 = n') (kt : c = true → fo_G l Λ R K cs ss m' lv st I D J X) (kf : c = false → fo_G l Λ R K cs ss n' lv st I D J X) : fo_G l Λ R K cs ss pc lv (.int (fo_b c) :: st) I D J X := by
  exact fo_if_ne C d m' hm n' hn (fun h => kt (fo_b_n.mp h)) (fun h => kf (fo_b_0.mp h))
end FOR
end
section
/-! CONTRACTS: a method's start, its end, its calls, its throws -/
abbrev fo_U : Type := fo_Mi × fo_Md × fo_Mj × fo_Mi
def fo_P (Λ : fo_Lt) (av : List Value) (I : fo_Mi) (D : fo_Md) (J : fo_Mj) (X : fo_Mi) : Array Value → State → Prop := va_Pc av (fun U => va_P Λ.1 vwCl (fo_w Λ I D J X) U.heap ∧ va_K Λ.1 vwCl (fo_t Λ) U ∧ fo_O Λ ∧ fo_Z Λ U)
def fo_B (Λ : fo_Lt) : fo_U → State → Prop := fun u t => va_P Λ.1 vwCl (fo_w Λ u.1 u.2.1 u.2.2.1 u.2.2.2) t.heap
theorem fo_PB {Λ : fo_Lt} {av : List Value} {I : fo_Mi} {D : fo_Md} {J : fo_Mj} {X : fo_Mi} : FrameBlind (fo_P Λ av I D J X) := fun a U g mk h =>
  ⟨h.1, h.2.1, va_K.moved (u := U) (U := U.calling g mk a) (Vm.Alike.refl U.vm) h.2.2.1, h.2.2.2.1, h.2.2.2.2.calling g mk a⟩
theorem fo_co {Λ : fo_Lt} {k id : Nat} {ri : Nat → Int32} {rd : Nat → UInt64} {rj : Nat → Int64} {rx : Nat → Int32} (h : k < 20) : fo_c Λ k id ri rd rj rx = .inr (k, fo_f Λ.2.2.1 ri k id) := by
  unfold fo_c
  split <;> first | omega | rfl
theorem fo_obj {Λ : fo_Lt} {I : fo_Mi} {D : fo_Md} {J : fo_Mj} {X : fo_Mi} {id k : Nat} (h : fo_k id = k) (hk : k < 20) : (fo_w Λ I D J X)[id]? = some (Λ.2.2.1 id, .inr (k, fo_f Λ.2.2.1 (I id) k id)) := by
  rw [fo_wat h (by omega), fo_co hk]
theorem fo_pre {Λ : fo_Lt} {s U : State} {av : List Value} {I : fo_Mi} {D : fo_Md} {J : fo_Mj} {X : fo_Mi} {H : Heap} {locs : List Loc} (hP : va_P Λ.1 vwCl (fo_w Λ I D J X) H) (hS : va_S (fo_A Λ) s.heap H locs) (hK : va_K Λ.1 vwCl (fo_t Λ) s) (hO : fo_O Λ) (hZ : fo_Z Λ s) (hU : U.heap = H) (hW : s.WarmedH U.vm) : fo_P Λ av I D J X av.toArray U :=
  ⟨rfl, by rw [hU]; exact hP, va_K.moved hW.alike hK, hO, hZ.kept (by rw [hU]; exact hS) hW⟩
theorem fo_in {w : Cond} (i : Nat) (h : lw_tbl[i]? = some w) (g : goodWord w = true) : w ∈ fo_W0 := List.mem_filter.mpr ⟨List.mem_of_getElem? h, g⟩
theorem fo_gd {w : Cond} (h : w ∈ fo_W0) : w ∈ fo_W0 ∧ ((w.onTables && w.keeps) = true ∨ ∃ ty, w = .arrayClass ty) := ⟨h, good_of_word (List.mem_filter.mp h).2⟩
theorem fo_gl {ws : List Cond} (h : ∀ w ∈ ws, w ∈ fo_W0) : GoodIn fo_W0 ws := fun w hw => fo_gd (h w hw)
/-- what a call needs of the tables: of an instance method, of a static one -/
def fo_lv (own : String) (idx : Nat) (y : MethodName) (cc : ByteArray) (nL : Nat) (ret : Option FieldType) (n : Nat) : Prop := GoodIn fo_W0 (wsV own idx y.cls y (.code y cc nL ret :: fo_W0)) ∧ (y.cls ≠ "java/lang/invoke/MethodHandle" ∧ y.cls ≠ "java/lang/invoke/VarHandle" ∧ (parseMethodDescriptor y.desc).map (fun d => d.parameters.length) = some n)
theorem fo_lv_of {own : String} {idx : Nat} {y : MethodName} {cc : ByteArray} {nL : Nat} {ret : Option FieldType} {n : Nat} (h1 : Cond.methodLink own idx y ∈ fo_W0) (h2 : Cond.instanceMethod y ∈ fo_W0) (h3 : Cond.selects y.cls y y ∈ fo_W0) (h4 : Cond.initialized y.cls ∈ fo_W0) (h5 : Cond.code y cc nL ret ∈ fo_W0) (hd : y.cls ≠ "java/lang/invoke/MethodHandle" ∧ y.cls ≠ "java/lang/invoke/VarHandle" ∧ (parseMethodDescriptor y.desc).map (fun d => d.parameters.length) = some n) : fo_lv own idx y cc nL ret n := by
  refine ⟨fo_gl (fun w hw => ?_), hd⟩
  simp only [wsV, List.cons_append, List.nil_append, List.mem_cons] at hw
  rcases hw with rfl | rfl | rfl | rfl | rfl | hw
  · exact h1
  · exact h2
  · exact h3
  · exact h4
  · exact h5
  · exact hw
def fo_ls (own : String) (idx : Nat) (y : MethodName) (cc : ByteArray) (nL : Nat) (ret : Option FieldType) (n : Nat) : Prop := GoodIn fo_W0 (wsS own idx y (.code y cc nL ret :: fo_W0)) ∧ (y.cls = own ∧ y.cls ≠ "java/lang/invoke/MethodHandle" ∧ y.cls ≠ "java/lang/invoke/VarHandle" ∧ (parseMethodDescriptor y.desc).map (fun d => d.parameters.length) = some n)
theorem fo_ls_of {own : String} {idx : Nat} {y : MethodName} {cc : ByteArray} {nL : Nat} {ret : Option FieldType} {n : Nat} (h1 : Cond.methodLink own idx y ∈ fo_W0) (h2 : Cond.static y ∈ fo_W0) (h4 : Cond.initialized own ∈ fo_W0) (h5 : Cond.code y cc nL ret ∈ fo_W0) (hd : y.cls = own ∧ y.cls ≠ "java/lang/invoke/MethodHandle" ∧ y.cls ≠ "java/lang/invoke/VarHandle" ∧ (parseMethodDescriptor y.desc).map (fun d => d.parameters.length) = some n) : fo_ls own idx y cc nL ret n := by
  refine ⟨fo_gl (fun w hw => ?_), hd⟩
  simp only [wsS, List.cons_append, List.nil_append, List.mem_cons] at hw
  rcases hw with rfl | rfl | rfl | rfl | hw
  · exact h1
  · exact h2
  · exact h4
  · exact h5
  · exact hw
/-- a static call of a nest mate's private method -/
def fo_ln (own : String) (idx : Nat) (y : MethodName) (cc : ByteArray) (nL : Nat) (ret : Option FieldType) (n : Nat) : Prop := (own, idx, y) ∈ fo_nn ∧ Cond.initialized y.cls ∈ fo_W0 ∧ Cond.static y ∈ fo_W0 ∧ Cond.code y cc nL ret ∈ fo_W0 ∧ (y.cls ≠ "java/lang/invoke/MethodHandle" ∧ y.cls ≠ "java/lang/invoke/VarHandle" ∧ (parseMethodDescriptor y.desc).map (fun d => d.parameters.length) = some n)
def fk_i (l : Launch) (y : MethodName) (cc : ByteArray) (nL : Nat) (ty : FieldType) (fr lo : Nat) (Λ : fo_Lt) (av : List Value) (I : fo_Mi) (D : fo_Md) (J : fo_Mj) (X : fo_Mi) (post : (Int32) → fo_Mi → fo_Md → fo_Mj → fo_Mi → Prop) : Prop := Met l y (.code y cc nL (some ty) :: fo_W0) { frames := fr, cells := 0, slots := 0, locals := lo } (fo_P Λ av I D J X) (va_Qi (fun r (u : fo_U) => post r u.1 u.2.1 u.2.2.1 u.2.2.2) (fo_B Λ) (fo_A Λ)) 0 0 (fo_A Λ)
def fx_i (l : Launch) (y : MethodName) (cc : ByteArray) (nL : Nat) (ty : FieldType) (fr lo mc ms : Nat) (Λ : fo_Lt) (av : List Value) (I : fo_Mi) (D : fo_Md) (J : fo_Mj) (X : fo_Mi) (post : (Int32) → fo_Mi → fo_Md → fo_Mj → fo_Mi → Prop) (px : String → fo_Mi → fo_Md → fo_Mj → fo_Mi → Prop) : Prop := vx_Met l y (.code y cc nL (some ty) :: fo_W0) { frames := fr, cells := mc, slots := ms, locals := lo } (fo_P Λ av I D J X) (va_Qi (fun r (u : fo_U) => post r u.1 u.2.1 u.2.2.1 u.2.2.2) (fo_B Λ) (fo_A Λ)) (vx_X (fun _ : fo_U => True) (fun E u t => px E u.1 u.2.1 u.2.2.1 u.2.2.2 ∧ fo_B Λ u t) (fo_A Λ)) mc ms (fo_A Λ)
def fk_d (l : Launch) (y : MethodName) (cc : ByteArray) (nL : Nat) (fr lo : Nat) (Λ : fo_Lt) (av : List Value) (I : fo_Mi) (D : fo_Md) (J : fo_Mj) (X : fo_Mi) (post : (UInt64) → fo_Mi → fo_Md → fo_Mj → fo_Mi → Prop) : Prop := Met l y (.code y cc nL (some .double) :: fo_W0) { frames := fr, cells := 0, slots := 0, locals := lo } (fo_P Λ av I D J X) (va_Qd (fun r (u : fo_U) => post r u.1 u.2.1 u.2.2.1 u.2.2.2) (fo_B Λ) (fo_A Λ)) 0 0 (fo_A Λ)
def fx_d (l : Launch) (y : MethodName) (cc : ByteArray) (nL : Nat) (fr lo mc ms : Nat) (Λ : fo_Lt) (av : List Value) (I : fo_Mi) (D : fo_Md) (J : fo_Mj) (X : fo_Mi) (post : (UInt64) → fo_Mi → fo_Md → fo_Mj → fo_Mi → Prop) (px : String → fo_Mi → fo_Md → fo_Mj → fo_Mi → Prop) : Prop := vx_Met l y (.code y cc nL (some .double) :: fo_W0) { frames := fr, cells := mc, slots := ms, locals := lo } (fo_P Λ av I D J X) (va_Qd (fun r (u : fo_U) => post r u.1 u.2.1 u.2.2.1 u.2.2.2) (fo_B Λ) (fo_A Λ)) (vx_X (fun _ : fo_U => True) (fun E u t => px E u.1 u.2.1 u.2.2.1 u.2.2.2 ∧ fo_B Λ u t) (fo_A Λ)) mc ms (fo_A Λ)
def fk_l (l : Launch) (y : MethodName) (cc : ByteArray) (nL : Nat) (fr lo : Nat) (Λ : fo_Lt) (av : List Value) (I : fo_Mi) (D : fo_Md) (J : fo_Mj) (X : fo_Mi) (post : (Int64) → fo_Mi → fo_Md → fo_Mj → fo_Mi → Prop) : Prop := Met l y (.code y cc nL (some .long) :: fo_W0) { frames := fr, cells := 0, slots := 0, locals := lo } (fo_P Λ av I D J X) (va_Ql (fun r (u : fo_U) => post r u.1 u.2.1 u.2.2.1 u.2.2.2) (fo_B Λ) (fo_A Λ)) 0 0 (fo_A Λ)
def fx_l (l : Launch) (y : MethodName) (cc : ByteArray) (nL : Nat) (fr lo mc ms : Nat) (Λ : fo_Lt) (av : List Value) (I : fo_Mi) (D : fo_Md) (J : fo_Mj) (X : fo_Mi) (post : (Int64) → fo_Mi → fo_Md → fo_Mj → fo_Mi → Prop) (px : String → fo_Mi → fo_Md → fo_Mj → fo_Mi → Prop) : Prop := vx_Met l y (.code y cc nL (some .long) :: fo_W0) { frames := fr, cells := mc, slots := ms, locals := lo } (fo_P Λ av I D J X) (va_Ql (fun r (u : fo_U) => post r u.1 u.2.1 u.2.2.1 u.2.2.2) (fo_B Λ) (fo_A Λ)) (vx_X (fun _ : fo_U => True) (fun E u t => px E u.1 u.2.1 u.2.2.1 u.2.2.2 ∧ fo_B Λ u t) (fo_A Λ)) mc ms (fo_A Λ)
def fk_f (l : Launch) (y : MethodName) (cc : ByteArray) (nL : Nat) (fr lo : Nat) (Λ : fo_Lt) (av : List Value) (I : fo_Mi) (D : fo_Md) (J : fo_Mj) (X : fo_Mi) (post : (UInt32) → fo_Mi → fo_Md → fo_Mj → fo_Mi → Prop) : Prop := Met l y (.code y cc nL (some .float) :: fo_W0) { frames := fr, cells := 0, slots := 0, locals := lo } (fo_P Λ av I D J X) (va_Qf (fun r (u : fo_U) => post r u.1 u.2.1 u.2.2.1 u.2.2.2) (fo_B Λ) (fo_A Λ)) 0 0 (fo_A Λ)
def fx_f (l : Launch) (y : MethodName) (cc : ByteArray) (nL : Nat) (fr lo mc ms : Nat) (Λ : fo_Lt) (av : List Value) (I : fo_Mi) (D : fo_Md) (J : fo_Mj) (X : fo_Mi) (post : (UInt32) → fo_Mi → fo_Md → fo_Mj → fo_Mi → Prop) (px : String → fo_Mi → fo_Md → fo_Mj → fo_Mi → Prop) : Prop := vx_Met l y (.code y cc nL (some .float) :: fo_W0) { frames := fr, cells := mc, slots := ms, locals := lo } (fo_P Λ av I D J X) (va_Qf (fun r (u : fo_U) => post r u.1 u.2.1 u.2.2.1 u.2.2.2) (fo_B Λ) (fo_A Λ)) (vx_X (fun _ : fo_U => True) (fun E u t => px E u.1 u.2.1 u.2.2.1 u.2.2.2 ∧ fo_B Λ u t) (fo_A Λ)) mc ms (fo_A Λ)
def fk_v (l : Launch) (y : MethodName) (cc : ByteArray) (nL : Nat) (fr lo : Nat) (Λ : fo_Lt) (av : List Value) (I : fo_Mi) (D : fo_Md) (J : fo_Mj) (X : fo_Mi) (post : fo_Mi → fo_Md → fo_Mj → fo_Mi → Prop) : Prop := Met l y (.code y cc nL none :: fo_W0) { frames := fr, cells := 0, slots := 0, locals := lo } (fo_P Λ av I D J X) (va_Qv (fun (u : fo_U) => post u.1 u.2.1 u.2.2.1 u.2.2.2) (fo_B Λ) (fo_A Λ)) 0 0 (fo_A Λ)
def fx_v (l : Launch) (y : MethodName) (cc : ByteArray) (nL : Nat) (fr lo mc ms : Nat) (Λ : fo_Lt) (av : List Value) (I : fo_Mi) (D : fo_Md) (J : fo_Mj) (X : fo_Mi) (post : fo_Mi → fo_Md → fo_Mj → fo_Mi → Prop) (px : String → fo_Mi → fo_Md → fo_Mj → fo_Mi → Prop) : Prop := vx_Met l y (.code y cc nL none :: fo_W0) { frames := fr, cells := mc, slots := ms, locals := lo } (fo_P Λ av I D J X) (va_Qv (fun (u : fo_U) => post u.1 u.2.1 u.2.2.1 u.2.2.2) (fo_B Λ) (fo_A Λ)) (vx_X (fun _ : fo_U => True) (fun E u t => px E u.1 u.2.1 u.2.2.1 u.2.2.2 ∧ fo_B Λ u t) (fo_A Λ)) mc ms (fo_A Λ)
def fx_q (l : Launch) (y : MethodName) (cc : ByteArray) (nL : Nat) (ty : FieldType) (fr lo mc ms : Nat) (Λ : fo_Lt) (av : List Value) (I : fo_Mi) (D : fo_Md) (J : fo_Mj) (X : fo_Mi) (post : (Option Nat) → fo_Mi → fo_Md → fo_Mj → fo_Mi → Prop) (px : String → fo_Mi → fo_Md → fo_Mj → fo_Mi → Prop) : Prop := vx_Met l y (.code y cc nL (some ty) :: fo_W0) { frames := fr, cells := mc, slots := ms, locals := lo } (fo_P Λ av I D J X) (va_Qq (fun r (u : fo_U) => post r u.1 u.2.1 u.2.2.1 u.2.2.2) (fo_B Λ) (fo_A Λ)) (vx_X (fun _ : fo_U => True) (fun E u t => px E u.1 u.2.1 u.2.2.1 u.2.2.2 ∧ fo_B Λ u t) (fo_A Λ)) mc ms (fo_A Λ)
/-- an exception E lies thrown over the frame at pc -/
def fo_T (l : Launch) (Λ : fo_Lt) (R : Room) (K : fo_K) (cs ss pc : Nat) (lv : List (Nat × Value)) (st : List Value) (E : String) (I : fo_Mi) (D : fo_Md) (J : fo_Mj) (X : fo_Mi) : Prop :=
  ∀ (H : Heap) (locs : List Loc) (ls : Array Slot) (q : Nat) (ce : Cell), va_P Λ.1 vwCl (fo_w Λ I D J X) H → va_S (fo_A Λ) K.2.2.1.heap H locs → lv_has ls K.2.2.2.2.2.2.2.2.1 lv → H[q]? = some ce → ce.vm = .none → K.2.2.1.vm.findClass E = some ce.cls → vx_W K.1 l K.2.1 R K.2.2.1 K.2.2.2.1 K.2.2.2.2.1 K.2.2.2.2.2.1 K.2.2.2.2.2.2.1 K.2.2.2.2.2.2.2.1 H locs cs ss K.2.2.2.2.2.2.2.2.2 (F0 K.2.2.2.1 pc ls st) q
/-- what 'throw new cls()' needs of the tables -/
def fo_tf (own : String) (ik ic : Nat) (cls : String) (names : List String) : Prop := Cond.classLink own ik cls ∈ fo_W0 ∧ Cond.initialized cls ∈ fo_W0 ∧ (∀ w ∈ (vx_at0 own ic cls names).filter goodWord, w ∈ fo_W0) ∧ (∀ w ∈ (vx_at0 own ic cls names).filter (fun w => !goodWord w), w ∈ Cond.castable cls cls :: fo_ds.map Cond.declares) ∧ cls ∈ fo_xs ∧ Bundle.fit cls = true ∧ (∀ n ∈ names, Bundle.fit n = true) ∧ (∀ w ∈ Cond.classLink own ik cls :: Cond.initialized cls :: vx_at0 own ic cls names, vx_ot w = true)
theorem fo_si {l : Launch} {y : MethodName} {cc : ByteArray} {nL : Nat} {ty : FieldType} {fr lo : Nat} {Λ : fo_Lt} {av : List Value} {I : fo_Mi} {D : fo_Md} {J : fo_Mj} {X : fo_Mi} {post : (Int32) → fo_Mi → fo_Md → fo_Mj → fo_Mi → Prop} (hy : plainName y.cls = true) (lv : List (Nat × Value)) (hlv : lv_args 0 av = lv) (hfit : (lg_sl av).length ≤ nL)
  (body : ∀ K : fo_K, fo_C Λ K cc y.cls nL → (∀ {pc : Nat} {lv : List (Nat × Value)} {v : Int32} {I' : fo_Mi} {D' : fo_Md} {J' : fo_Mj} {X' : fo_Mi}, decode cc pc = .ok (.ireturn, 1) → narrow ty (.int v) = .int v → post v I' D' J' X' → fo_G l Λ { frames := fr, cells := 0, slots := 0, locals := lo } K 0 0 pc lv [.int v] I' D' J' X') → fo_G l Λ { frames := fr, cells := 0, slots := 0, locals := lo } K 0 0 0 lv [] I D J X) : fk_i l y cc nL ty fr lo Λ av I D J X post := by
  refine Met.ofW (cc := cc) (maxL := nL) (ret := (some ty)) hy rfl ?_
  intro p e s m args below meth c s₁ B hml hv
  obtain ⟨rfl, hP, hK, hO, hZ⟩ := hv
  have hx := B.exec
  have hb := B.bytes
  have hr := B.returns
  have hts := atoms_spec (ws := .code y cc nL (some ty) :: fo_W0) B.pre
  have hown : s.vm.findClass y.cls = some m.cls := findClass_of_methodNamed B.named
  have hlocks := B.notSynchronized
  have hl := lv_entry av (n := nL) hfit
  rw [hlv] at hl
  rw [lg_entry_eq]
  exact body (p, e, s, m, av.toArray, below, meth, c, nL, MQ below (va_Qi (fun r (u : fo_U) => post r u.1 u.2.1 u.2.2.1 u.2.2.2) (fo_B Λ) (fo_A Λ)) av.toArray s 0 0 (fo_A Λ)) ⟨hx, hb, hml, hown, fun w h => hts w (List.mem_cons_of_mem _ h), hK, hO, hZ, rfl⟩ (fun {pc lv} {v} {I' D' J' X'} d hn hp H locs ls hP' hS' hl' => W.zret (v := v) hx hb hr hn (fun t ht hW => ⟨⟨v, (I', D', J', X'), rfl, hp, by show va_P _ _ _ t.heap; rw [ht]; exact hP'⟩, hS'.F ht⟩) hS'.2.2 d hlocks) s.heap [] _ hP va_S.rf hl
theorem fo_sd {l : Launch} {y : MethodName} {cc : ByteArray} {nL : Nat} {fr lo : Nat} {Λ : fo_Lt} {av : List Value} {I : fo_Mi} {D : fo_Md} {J : fo_Mj} {X : fo_Mi} {post : (UInt64) → fo_Mi → fo_Md → fo_Mj → fo_Mi → Prop} (hy : plainName y.cls = true) (lv : List (Nat × Value)) (hlv : lv_args 0 av = lv) (hfit : (lg_sl av).length ≤ nL)
  (body : ∀ K : fo_K, fo_C Λ K cc y.cls nL → (∀ {pc : Nat} {lv : List (Nat × Value)} {v : UInt64} {I' : fo_Mi} {D' : fo_Md} {J' : fo_Mj} {X' : fo_Mi}, decode cc pc = .ok (.dreturn, 1) → post v I' D' J' X' → fo_G l Λ { frames := fr, cells := 0, slots := 0, locals := lo } K 0 0 pc lv [.double v] I' D' J' X') → fo_G l Λ { frames := fr, cells := 0, slots := 0, locals := lo } K 0 0 0 lv [] I D J X) : fk_d l y cc nL fr lo Λ av I D J X post := by
  refine Met.ofW (cc := cc) (maxL := nL) (ret := (some .double)) hy rfl ?_
  intro p e s m args below meth c s₁ B hml hv
  obtain ⟨rfl, hP, hK, hO, hZ⟩ := hv
  have hx := B.exec
  have hb := B.bytes
  have hr := B.returns
  have hts := atoms_spec (ws := .code y cc nL (some .double) :: fo_W0) B.pre
  have hown : s.vm.findClass y.cls = some m.cls := findClass_of_methodNamed B.named
  have hlocks := B.notSynchronized
  have hl := lv_entry av (n := nL) hfit
  rw [hlv] at hl
  rw [lg_entry_eq]
  exact body (p, e, s, m, av.toArray, below, meth, c, nL, MQ below (va_Qd (fun r (u : fo_U) => post r u.1 u.2.1 u.2.2.1 u.2.2.2) (fo_B Λ) (fo_A Λ)) av.toArray s 0 0 (fo_A Λ)) ⟨hx, hb, hml, hown, fun w h => hts w (List.mem_cons_of_mem _ h), hK, hO, hZ, rfl⟩ (fun {pc lv} {v} {I' D' J' X'} d hp H locs ls hP' hS' hl' => W.dret (v := v) hx hb hr (fun t ht hW => ⟨⟨v, (I', D', J', X'), rfl, hp, by show va_P _ _ _ t.heap; rw [ht]; exact hP'⟩, hS'.F ht⟩) hS'.2.2 d hlocks) s.heap [] _ hP va_S.rf hl
theorem fo_sl {l : Launch} {y : MethodName} {cc : ByteArray} {nL : Nat} {fr lo : Nat} {Λ : fo_Lt} {av : List Value} {I : fo_Mi} {D : fo_Md} {J : fo_Mj} {X : fo_Mi} {post : (Int64) → fo_Mi → fo_Md → fo_Mj → fo_Mi → Prop} (hy : plainName y.cls = true) (lv : List (Nat × Value)) (hlv : lv_args 0 av = lv) (hfit : (lg_sl av).length ≤ nL)
  (body : ∀ K : fo_K, fo_C Λ K cc y.cls nL → (∀ {pc : Nat} {lv : List (Nat × Value)} {v : Int64} {I' : fo_Mi} {D' : fo_Md} {J' : fo_Mj} {X' : fo_Mi}, decode cc pc = .ok (.lreturn, 1) → post v I' D' J' X' → fo_G l Λ { frames := fr, cells := 0, slots := 0, locals := lo } K 0 0 pc lv [.long v] I' D' J' X') → fo_G l Λ { frames := fr, cells := 0, slots := 0, locals := lo } K 0 0 0 lv [] I D J X) : fk_l l y cc nL fr lo Λ av I D J X post := by
  refine Met.ofW (cc := cc) (maxL := nL) (ret := (some .long)) hy rfl ?_
  intro p e s m args below meth c s₁ B hml hv
  obtain ⟨rfl, hP, hK, hO, hZ⟩ := hv
  have hx := B.exec
  have hb := B.bytes
  have hr := B.returns
  have hts := atoms_spec (ws := .code y cc nL (some .long) :: fo_W0) B.pre
  have hown : s.vm.findClass y.cls = some m.cls := findClass_of_methodNamed B.named
  have hlocks := B.notSynchronized
  have hl := lv_entry av (n := nL) hfit
  rw [hlv] at hl
  rw [lg_entry_eq]
  exact body (p, e, s, m, av.toArray, below, meth, c, nL, MQ below (va_Ql (fun r (u : fo_U) => post r u.1 u.2.1 u.2.2.1 u.2.2.2) (fo_B Λ) (fo_A Λ)) av.toArray s 0 0 (fo_A Λ)) ⟨hx, hb, hml, hown, fun w h => hts w (List.mem_cons_of_mem _ h), hK, hO, hZ, rfl⟩ (fun {pc lv} {v} {I' D' J' X'} d hp H locs ls hP' hS' hl' => W.lret (v := v) hx hb hr (fun t ht hW => ⟨⟨v, (I', D', J', X'), rfl, hp, by show va_P _ _ _ t.heap; rw [ht]; exact hP'⟩, hS'.F ht⟩) hS'.2.2 d hlocks) s.heap [] _ hP va_S.rf hl
theorem fo_sf {l : Launch} {y : MethodName} {cc : ByteArray} {nL : Nat} {fr lo : Nat} {Λ : fo_Lt} {av : List Value} {I : fo_Mi} {D : fo_Md} {J : fo_Mj} {X : fo_Mi} {post : (UInt32) → fo_Mi → fo_Md → fo_Mj → fo_Mi → Prop} (hy : plainName y.cls = true) (lv : List (Nat × Value)) (hlv : lv_args 0 av = lv) (hfit : (lg_sl av).length ≤ nL)
  (body : ∀ K : fo_K, fo_C Λ K cc y.cls nL → (∀ {pc : Nat} {lv : List (Nat × Value)} {v : UInt32} {I' : fo_Mi} {D' : fo_Md} {J' : fo_Mj} {X' : fo_Mi}, decode cc pc = .ok (.freturn, 1) → post v I' D' J' X' → fo_G l Λ { frames := fr, cells := 0, slots := 0, locals := lo } K 0 0 pc lv [.float v] I' D' J' X') → fo_G l Λ { frames := fr, cells := 0, slots := 0, locals := lo } K 0 0 0 lv [] I D J X) : fk_f l y cc nL fr lo Λ av I D J X post := by
  refine Met.ofW (cc := cc) (maxL := nL) (ret := (some .float)) hy rfl ?_
  intro p e s m args below meth c s₁ B hml hv
  obtain ⟨rfl, hP, hK, hO, hZ⟩ := hv
  have hx := B.exec
  have hb := B.bytes
  have hr := B.returns
  have hts := atoms_spec (ws := .code y cc nL (some .float) :: fo_W0) B.pre
  have hown : s.vm.findClass y.cls = some m.cls := findClass_of_methodNamed B.named
  have hlocks := B.notSynchronized
  have hl := lv_entry av (n := nL) hfit
  rw [hlv] at hl
  rw [lg_entry_eq]
  exact body (p, e, s, m, av.toArray, below, meth, c, nL, MQ below (va_Qf (fun r (u : fo_U) => post r u.1 u.2.1 u.2.2.1 u.2.2.2) (fo_B Λ) (fo_A Λ)) av.toArray s 0 0 (fo_A Λ)) ⟨hx, hb, hml, hown, fun w h => hts w (List.mem_cons_of_mem _ h), hK, hO, hZ, rfl⟩ (fun {pc lv} {v} {I' D' J' X'} d hp H locs ls hP' hS' hl' => W.fret (v := v) hx hb hr (fun t ht hW => ⟨⟨v, (I', D', J', X'), rfl, hp, by show va_P _ _ _ t.heap; rw [ht]; exact hP'⟩, hS'.F ht⟩) hS'.2.2 d hlocks) s.heap [] _ hP va_S.rf hl
theorem fo_sv {l : Launch} {y : MethodName} {cc : ByteArray} {nL : Nat} {fr lo : Nat} {Λ : fo_Lt} {av : List Value} {I : fo_Mi} {D : fo_Md} {J : fo_Mj} {X : fo_Mi} {post : fo_Mi → fo_Md → fo_Mj → fo_Mi → Prop} (hy : plainName y.cls = true) (lv : List (Nat × Value)) (hlv : lv_args 0 av = lv) (hfit : (lg_sl av).length ≤ nL)
  (body : ∀ K : fo_K, fo_C Λ K cc y.cls nL → (∀ {pc : Nat} {lv : List (Nat × Value)} {I' : fo_Mi} {D' : fo_Md} {J' : fo_Mj} {X' : fo_Mi}, decode cc pc = .ok (.return_, 1) → post I' D' J' X' → fo_G l Λ { frames := fr, cells := 0, slots := 0, locals := lo } K 0 0 pc lv [] I' D' J' X') → fo_G l Λ { frames := fr, cells := 0, slots := 0, locals := lo } K 0 0 0 lv [] I D J X) : fk_v l y cc nL fr lo Λ av I D J X post := by
  refine Met.ofW (cc := cc) (maxL := nL) (ret := none) hy rfl ?_
  intro p e s m args below meth c s₁ B hml hv
  obtain ⟨rfl, hP, hK, hO, hZ⟩ := hv
  have hx := B.exec
  have hb := B.bytes
  have hr := B.returns
  have hts := atoms_spec (ws := .code y cc nL none :: fo_W0) B.pre
  have hown : s.vm.findClass y.cls = some m.cls := findClass_of_methodNamed B.named
  have hlocks := B.notSynchronized
  have hl := lv_entry av (n := nL) hfit
  rw [hlv] at hl
  rw [lg_entry_eq]
  exact body (p, e, s, m, av.toArray, below, meth, c, nL, MQ below (va_Qv (fun (u : fo_U) => post u.1 u.2.1 u.2.2.1 u.2.2.2) (fo_B Λ) (fo_A Λ)) av.toArray s 0 0 (fo_A Λ)) ⟨hx, hb, hml, hown, fun w h => hts w (List.mem_cons_of_mem _ h), hK, hO, hZ, rfl⟩ (fun {pc lv} {I' D' J' X'} d hp H locs ls hP' hS' hl' => W.vret hx hb hr (fun t ht hW => ⟨⟨(I', D', J', X'), rfl, hp, by show va_P _ _ _ t.heap; rw [ht]; exact hP'⟩, hS'.F ht⟩) hS'.2.2 d hlocks) s.heap [] _ hP va_S.rf hl
theorem fo_sxi {l : Launch} {y : MethodName} {cc : ByteArray} {nL : Nat} {ty : FieldType} {fr lo : Nat} {mc ms : Nat} {Λ : fo_Lt} {av : List Value} {I : fo_Mi} {D : fo_Md} {J : fo_Mj} {X : fo_Mi} {post : (Int32) → fo_Mi → fo_Md → fo_Mj → fo_Mi → Prop} {px : String → fo_Mi → fo_Md → fo_Mj → fo_Mi → Prop} (hfl : l.stackTraces = false) (hy : plainName y.cls = true) (lv : List (Nat × Value)) (hlv : lv_args 0 av = lv) (hfit : (lg_sl av).length ≤ nL)
  (body : ∀ K : fo_K, fo_C Λ K cc y.cls nL → (∀ {cs ss : Nat} {pc : Nat} {lv : List (Nat × Value)} {v : Int32} {I' : fo_Mi} {D' : fo_Md} {J' : fo_Mj} {X' : fo_Mi}, decode cc pc = .ok (.ireturn, 1) → narrow ty (.int v) = .int v → cs ≤ mc → ss ≤ ms → post v I' D' J' X' → fo_G l Λ { frames := fr, cells := mc, slots := ms, locals := lo } K cs ss pc lv [.int v] I' D' J' X') → (∀ {cs ss pc : Nat} {lv : List (Nat × Value)} {st : List Value} {E : String} {I' : fo_Mi} {D' : fo_Md} {J' : fo_Mj} {X' : fo_Mi}, cs ≤ mc → ss ≤ ms → px E I' D' J' X' → fo_T l Λ { frames := fr, cells := mc, slots := ms, locals := lo } K cs ss pc lv st E I' D' J' X') → (∀ {cs ss pc ik ic : Nat} {cls : String} {names : List String} {lv : List (Nat × Value)} {st : List Value} {I' : fo_Mi} {D' : fo_Md} {J' : fo_Mj} {X' : fo_Mi}, fo_tf y.cls ik ic cls names → decode cc pc = .ok (.new ik, 3) → decode cc (pc + 3) = .ok (.dup, 1) → decode cc (pc + 4) = .ok (.invokespecial ic, 3) → decode cc (pc + 7) = .ok (.athrow, 1) → names.length + 3 < fr → (st.map fun v => v.category).sum + (13 * (names.length + 1) + 42) ≤ lo → cs + 1 ≤ mc → ss + 6 ≤ ms → px cls I' D' J' X' → fo_G l Λ { frames := fr, cells := mc, slots := ms, locals := lo } K cs ss pc lv st I' D' J' X') → fo_G l Λ { frames := fr, cells := mc, slots := ms, locals := lo } K 0 0 0 lv [] I D J X) : fx_i l y cc nL ty fr lo mc ms Λ av I D J X post px := by
  refine vx_ofW (cc := cc) (maxL := nL) (ret := (some ty)) hy rfl ?_
  intro p e s m args below meth c s₁ B hml htab hv
  obtain ⟨rfl, hP, hK, hO, hZ⟩ := hv
  have hx := B.exec
  have hb := B.bytes
  have hr := B.returns
  have hts := atoms_spec (ws := .code y cc nL (some ty) :: fo_W0) B.pre
  have hown : s.vm.findClass y.cls = some m.cls := findClass_of_methodNamed B.named
  have hlocks := B.notSynchronized
  have hl := lv_entry av (n := nL) hfit
  rw [hlv] at hl
  rw [lg_entry_eq]
  refine body (p, e, s, m, av.toArray, below, meth, c, nL, vx_MQ below (va_Qi (fun r (u : fo_U) => post r u.1 u.2.1 u.2.2.1 u.2.2.2) (fo_B Λ) (fo_A Λ)) (vx_X (fun _ : fo_U => True) (fun E u t => px E u.1 u.2.1 u.2.2.1 u.2.2.2 ∧ fo_B Λ u t) (fo_A Λ)) av.toArray s mc ms (fo_A Λ)) ⟨hx, hb, hml, hown, fun w h => hts w (List.mem_cons_of_mem _ h), hK, hO, hZ, rfl⟩ ?_ ?_ ?_ s.heap [] _ hP va_S.rf hl
  · intro cs ss pc lv v I' D' J' X' d hn h1 h2 hp H locs ls hP' hS' hl'
    refine W.widen h1 h2 (vx_ret ?_)
    exact W.zret (v := v) hx hb hr hn (fun t ht hW => ⟨⟨v, (I', D', J', X'), rfl, hp, by show va_P _ _ _ t.heap; rw [ht]; exact hP'⟩, hS'.F ht⟩) hS'.2.2 d hlocks
  · intro cs ss pc lv st E I' D' J' X' h1 h2 hp H locs ls q ce hP' hS' hl' hc hv hcl
    exact vx_out (fun z hz => absurd hz (htab z)) hlocks hc hv hcl (fun t ht hvm => ⟨(I', D', J', X'), trivial, ⟨hp, by show va_P _ _ _ _; rw [ht]; exact hP'⟩, hS'.F ht⟩) hS'.2.2 h1 h2
  · intro cs ss pc ik ic cls names lv st I' D' J' X' tf d0 d3 d4 d7 h1 h2 h3 h4 hp H locs ls hP' hS' hl'
    obtain ⟨f1, f2, f3, f4, f5, f6, f7, f8⟩ := tf
    have hw : ∀ w ∈ fo_W0, w.before av.toArray s = true := fun w h => hts w (List.mem_cons_of_mem _ h)
    refine vx_throw0 hx hb hfl hown f6 f7 (hw _ f1) (hw _ f2) (vx_hat (fun w h => hw w (f3 w h)) f4 (vx_c (va_Nw.use rfl (hZ.2.2.2.1 cls f5)) (fun w h => by obtain ⟨q, hq, rfl⟩ := List.mem_map.mp h; exact va_Nw.use rfl (hZ.2.2.2.2.2.2 q hq)))) f8 hZ.1 hZ.2.1 hS' (hl'.1.trans hml.symm) d0 d3 d4 d7 (fun z hz => absurd hz (htab z)) h1 h2 h3 h4 hlocks ?_ hS'.2.2 h3 h4
    intro t hvm hz hk
    refine ⟨(I', D', J', X'), trivial, ⟨hp, ?_⟩, ?_, ?_⟩
    · exact hP'.kept (fun k q hq => hk q.1 (hP' k q hq).lt)
    · exact Nat.le_trans hS'.1 hz
    · exact fun q h1 h2 => (hk q (Nat.lt_of_lt_of_le h1 hS'.1)).trans (hS'.2.1 q h1 h2)
theorem fo_sxd {l : Launch} {y : MethodName} {cc : ByteArray} {nL : Nat} {fr lo : Nat} {mc ms : Nat} {Λ : fo_Lt} {av : List Value} {I : fo_Mi} {D : fo_Md} {J : fo_Mj} {X : fo_Mi} {post : (UInt64) → fo_Mi → fo_Md → fo_Mj → fo_Mi → Prop} {px : String → fo_Mi → fo_Md → fo_Mj → fo_Mi → Prop} (hfl : l.stackTraces = false) (hy : plainName y.cls = true) (lv : List (Nat × Value)) (hlv : lv_args 0 av = lv) (hfit : (lg_sl av).length ≤ nL)
  (body : ∀ K : fo_K, fo_C Λ K cc y.cls nL → (∀ {cs ss : Nat} {pc : Nat} {lv : List (Nat × Value)} {v : UInt64} {I' : fo_Mi} {D' : fo_Md} {J' : fo_Mj} {X' : fo_Mi}, decode cc pc = .ok (.dreturn, 1) → cs ≤ mc → ss ≤ ms → post v I' D' J' X' → fo_G l Λ { frames := fr, cells := mc, slots := ms, locals := lo } K cs ss pc lv [.double v] I' D' J' X') → (∀ {cs ss pc : Nat} {lv : List (Nat × Value)} {st : List Value} {E : String} {I' : fo_Mi} {D' : fo_Md} {J' : fo_Mj} {X' : fo_Mi}, cs ≤ mc → ss ≤ ms → px E I' D' J' X' → fo_T l Λ { frames := fr, cells := mc, slots := ms, locals := lo } K cs ss pc lv st E I' D' J' X') → (∀ {cs ss pc ik ic : Nat} {cls : String} {names : List String} {lv : List (Nat × Value)} {st : List Value} {I' : fo_Mi} {D' : fo_Md} {J' : fo_Mj} {X' : fo_Mi}, fo_tf y.cls ik ic cls names → decode cc pc = .ok (.new ik, 3) → decode cc (pc + 3) = .ok (.dup, 1) → decode cc (pc + 4) = .ok (.invokespecial ic, 3) → decode cc (pc + 7) = .ok (.athrow, 1) → names.length + 3 < fr → (st.map fun v => v.category).sum + (13 * (names.length + 1) + 42) ≤ lo → cs + 1 ≤ mc → ss + 6 ≤ ms → px cls I' D' J' X' → fo_G l Λ { frames := fr, cells := mc, slots := ms, locals := lo } K cs ss pc lv st I' D' J' X') → fo_G l Λ { frames := fr, cells := mc, slots := ms, locals := lo } K 0 0 0 lv [] I D J X) : fx_d l y cc nL fr lo mc ms Λ av I D J X post px := by
  refine vx_ofW (cc := cc) (maxL := nL) (ret := (some .double)) hy rfl ?_
  intro p e s m args below meth c s₁ B hml htab hv
  obtain ⟨rfl, hP, hK, hO, hZ⟩ := hv
  have hx := B.exec
  have hb := B.bytes
  have hr := B.returns
  have hts := atoms_spec (ws := .code y cc nL (some .double) :: fo_W0) B.pre
  have hown : s.vm.findClass y.cls = some m.cls := findClass_of_methodNamed B.named
  have hlocks := B.notSynchronized
  have hl := lv_entry av (n := nL) hfit
  rw [hlv] at hl
  rw [lg_entry_eq]
  refine body (p, e, s, m, av.toArray, below, meth, c, nL, vx_MQ below (va_Qd (fun r (u : fo_U) => post r u.1 u.2.1 u.2.2.1 u.2.2.2) (fo_B Λ) (fo_A Λ)) (vx_X (fun _ : fo_U => True) (fun E u t => px E u.1 u.2.1 u.2.2.1 u.2.2.2 ∧ fo_B Λ u t) (fo_A Λ)) av.toArray s mc ms (fo_A Λ)) ⟨hx, hb, hml, hown, fun w h => hts w (List.mem_cons_of_mem _ h), hK, hO, hZ, rfl⟩ ?_ ?_ ?_ s.heap [] _ hP va_S.rf hl
  · intro cs ss pc lv v I' D' J' X' d h1 h2 hp H locs ls hP' hS' hl'
    refine W.widen h1 h2 (vx_ret ?_)
    exact W.dret (v := v) hx hb hr (fun t ht hW => ⟨⟨v, (I', D', J', X'), rfl, hp, by show va_P _ _ _ t.heap; rw [ht]; exact hP'⟩, hS'.F ht⟩) hS'.2.2 d hlocks
  · intro cs ss pc lv st E I' D' J' X' h1 h2 hp H locs ls q ce hP' hS' hl' hc hv hcl
    exact vx_out (fun z hz => absurd hz (htab z)) hlocks hc hv hcl (fun t ht hvm => ⟨(I', D', J', X'), trivial, ⟨hp, by show va_P _ _ _ _; rw [ht]; exact hP'⟩, hS'.F ht⟩) hS'.2.2 h1 h2
  · intro cs ss pc ik ic cls names lv st I' D' J' X' tf d0 d3 d4 d7 h1 h2 h3 h4 hp H locs ls hP' hS' hl'
    obtain ⟨f1, f2, f3, f4, f5, f6, f7, f8⟩ := tf
    have hw : ∀ w ∈ fo_W0, w.before av.toArray s = true := fun w h => hts w (List.mem_cons_of_mem _ h)
    refine vx_throw0 hx hb hfl hown f6 f7 (hw _ f1) (hw _ f2) (vx_hat (fun w h => hw w (f3 w h)) f4 (vx_c (va_Nw.use rfl (hZ.2.2.2.1 cls f5)) (fun w h => by obtain ⟨q, hq, rfl⟩ := List.mem_map.mp h; exact va_Nw.use rfl (hZ.2.2.2.2.2.2 q hq)))) f8 hZ.1 hZ.2.1 hS' (hl'.1.trans hml.symm) d0 d3 d4 d7 (fun z hz => absurd hz (htab z)) h1 h2 h3 h4 hlocks ?_ hS'.2.2 h3 h4
    intro t hvm hz hk
    refine ⟨(I', D', J', X'), trivial, ⟨hp, ?_⟩, ?_, ?_⟩
    · exact hP'.kept (fun k q hq => hk q.1 (hP' k q hq).lt)
    · exact Nat.le_trans hS'.1 hz
    · exact fun q h1 h2 => (hk q (Nat.lt_of_lt_of_le h1 hS'.1)).trans (hS'.2.1 q h1 h2)
theorem fo_sxl {l : Launch} {y : MethodName} {cc : ByteArray} {nL : Nat} {fr lo : Nat} {mc ms : Nat} {Λ : fo_Lt} {av : List Value} {I : fo_Mi} {D : fo_Md} {J : fo_Mj} {X : fo_Mi} {post : (Int64) → fo_Mi → fo_Md → fo_Mj → fo_Mi → Prop} {px : String → fo_Mi → fo_Md → fo_Mj → fo_Mi → Prop} (hfl : l.stackTraces = false) (hy : plainName y.cls = true) (lv : List (Nat × Value)) (hlv : lv_args 0 av = lv) (hfit : (lg_sl av).length ≤ nL)
  (body : ∀ K : fo_K, fo_C Λ K cc y.cls nL → (∀ {cs ss : Nat} {pc : Nat} {lv : List (Nat × Value)} {v : Int64} {I' : fo_Mi} {D' : fo_Md} {J' : fo_Mj} {X' : fo_Mi}, decode cc pc = .ok (.lreturn, 1) → cs ≤ mc → ss ≤ ms → post v I' D' J' X' → fo_G l Λ { frames := fr, cells := mc, slots := ms, locals := lo } K cs ss pc lv [.long v] I' D' J' X') → (∀ {cs ss pc : Nat} {lv : List (Nat × Value)} {st : List Value} {E : String} {I' : fo_Mi} {D' : fo_Md} {J' : fo_Mj} {X' : fo_Mi}, cs ≤ mc → ss ≤ ms → px E I' D' J' X' → fo_T l Λ { frames := fr, cells := mc, slots := ms, locals := lo } K cs ss pc lv st E I' D' J' X') → (∀ {cs ss pc ik ic : Nat} {cls : String} {names : List String} {lv : List (Nat × Value)} {st : List Value} {I' : fo_Mi} {D' : fo_Md} {J' : fo_Mj} {X' : fo_Mi}, fo_tf y.cls ik ic cls names → decode cc pc = .ok (.new ik, 3) → decode cc (pc + 3) = .ok (.dup, 1) → decode cc (pc + 4) = .ok (.invokespecial ic, 3) → decode cc (pc + 7) = .ok (.athrow, 1) → names.length + 3 < fr → (st.map fun v => v.category).sum + (13 * (names.length + 1) + 42) ≤ lo → cs + 1 ≤ mc → ss + 6 ≤ ms → px cls I' D' J' X' → fo_G l Λ { frames := fr, cells := mc, slots := ms, locals := lo } K cs ss pc lv st I' D' J' X') → fo_G l Λ { frames := fr, cells := mc, slots := ms, locals := lo } K 0 0 0 lv [] I D J X) : fx_l l y cc nL fr lo mc ms Λ av I D J X post px := by
  refine vx_ofW (cc := cc) (maxL := nL) (ret := (some .long)) hy rfl ?_
  intro p e s m args below meth c s₁ B hml htab hv
  obtain ⟨rfl, hP, hK, hO, hZ⟩ := hv
  have hx := B.exec
  have hb := B.bytes
  have hr := B.returns
  have hts := atoms_spec (ws := .code y cc nL (some .long) :: fo_W0) B.pre
  have hown : s.vm.findClass y.cls = some m.cls := findClass_of_methodNamed B.named
  have hlocks := B.notSynchronized
  have hl := lv_entry av (n := nL) hfit
  rw [hlv] at hl
  rw [lg_entry_eq]
  refine body (p, e, s, m, av.toArray, below, meth, c, nL, vx_MQ below (va_Ql (fun r (u : fo_U) => post r u.1 u.2.1 u.2.2.1 u.2.2.2) (fo_B Λ) (fo_A Λ)) (vx_X (fun _ : fo_U => True) (fun E u t => px E u.1 u.2.1 u.2.2.1 u.2.2.2 ∧ fo_B Λ u t) (fo_A Λ)) av.toArray s mc ms (fo_A Λ)) ⟨hx, hb, hml, hown, fun w h => hts w (List.mem_cons_of_mem _ h), hK, hO, hZ, rfl⟩ ?_ ?_ ?_ s.heap [] _ hP va_S.rf hl
  · intro cs ss pc lv v I' D' J' X' d h1 h2 hp H locs ls hP' hS' hl'
    refine W.widen h1 h2 (vx_ret ?_)
    exact W.lret (v := v) hx hb hr (fun t ht hW => ⟨⟨v, (I', D', J', X'), rfl, hp, by show va_P _ _ _ t.heap; rw [ht]; exact hP'⟩, hS'.F ht⟩) hS'.2.2 d hlocks
  · intro cs ss pc lv st E I' D' J' X' h1 h2 hp H locs ls q ce hP' hS' hl' hc hv hcl
    exact vx_out (fun z hz => absurd hz (htab z)) hlocks hc hv hcl (fun t ht hvm => ⟨(I', D', J', X'), trivial, ⟨hp, by show va_P _ _ _ _; rw [ht]; exact hP'⟩, hS'.F ht⟩) hS'.2.2 h1 h2
  · intro cs ss pc ik ic cls names lv st I' D' J' X' tf d0 d3 d4 d7 h1 h2 h3 h4 hp H locs ls hP' hS' hl'
    obtain ⟨f1, f2, f3, f4, f5, f6, f7, f8⟩ := tf
    have hw : ∀ w ∈ fo_W0, w.before av.toArray s = true := fun w h => hts w (List.mem_cons_of_mem _ h)
    refine vx_throw0 hx hb hfl hown f6 f7 (hw _ f1) (hw _ f2) (vx_hat (fun w h => hw w (f3 w h)) f4 (vx_c (va_Nw.use rfl (hZ.2.2.2.1 cls f5)) (fun w h => by obtain ⟨q, hq, rfl⟩ := List.mem_map.mp h; exact va_Nw.use rfl (hZ.2.2.2.2.2.2 q hq)))) f8 hZ.1 hZ.2.1 hS' (hl'.1.trans hml.symm) d0 d3 d4 d7 (fun z hz => absurd hz (htab z)) h1 h2 h3 h4 hlocks ?_ hS'.2.2 h3 h4
    intro t hvm hz hk
    refine ⟨(I', D', J', X'), trivial, ⟨hp, ?_⟩, ?_, ?_⟩
    · exact hP'.kept (fun k q hq => hk q.1 (hP' k q hq).lt)
    · exact Nat.le_trans hS'.1 hz
    · exact fun q h1 h2 => (hk q (Nat.lt_of_lt_of_le h1 hS'.1)).trans (hS'.2.1 q h1 h2)
theorem fo_sxf {l : Launch} {y : MethodName} {cc : ByteArray} {nL : Nat} {fr lo : Nat} {mc ms : Nat} {Λ : fo_Lt} {av : List Value} {I : fo_Mi} {D : fo_Md} {J : fo_Mj} {X : fo_Mi} {post : (UInt32) → fo_Mi → fo_Md → fo_Mj → fo_Mi → Prop} {px : String → fo_Mi → fo_Md → fo_Mj → fo_Mi → Prop} (hfl : l.stackTraces = false) (hy : plainName y.cls = true) (lv : List (Nat × Value)) (hlv : lv_args 0 av = lv) (hfit : (lg_sl av).length ≤ nL)
  (body : ∀ K : fo_K, fo_C Λ K cc y.cls nL → (∀ {cs ss : Nat} {pc : Nat} {lv : List (Nat × Value)} {v : UInt32} {I' : fo_Mi} {D' : fo_Md} {J' : fo_Mj} {X' : fo_Mi}, decode cc pc = .ok (.freturn, 1) → cs ≤ mc → ss ≤ ms → post v I' D' J' X' → fo_G l Λ { frames := fr, cells := mc, slots := ms, locals := lo } K cs ss pc lv [.float v] I' D' J' X') → (∀ {cs ss pc : Nat} {lv : List (Nat × Value)} {st : List Value} {E : String} {I' : fo_Mi} {D' : fo_Md} {J' : fo_Mj} {X' : fo_Mi}, cs ≤ mc → ss ≤ ms → px E I' D' J' X' → fo_T l Λ { frames := fr, cells := mc, slots := ms, locals := lo } K cs ss pc lv st E I' D' J' X') → (∀ {cs ss pc ik ic : Nat} {cls : String} {names : List String} {lv : List (Nat × Value)} {st : List Value} {I' : fo_Mi} {D' : fo_Md} {J' : fo_Mj} {X' : fo_Mi}, fo_tf y.cls ik ic cls names → decode cc pc = .ok (.new ik, 3) → decode cc (pc + 3) = .ok (.dup, 1) → decode cc (pc + 4) = .ok (.invokespecial ic, 3) → decode cc (pc + 7) = .ok (.athrow, 1) → names.length + 3 < fr → (st.map fun v => v.category).sum + (13 * (names.length + 1) + 42) ≤ lo → cs + 1 ≤ mc → ss + 6 ≤ ms → px cls I' D' J' X' → fo_G l Λ { frames := fr, cells := mc, slots := ms, locals := lo } K cs ss pc lv st I' D' J' X') → fo_G l Λ { frames := fr, cells := mc, slots := ms, locals := lo } K 0 0 0 lv [] I D J X) : fx_f l y cc nL fr lo mc ms Λ av I D J X post px := by
  refine vx_ofW (cc := cc) (maxL := nL) (ret := (some .float)) hy rfl ?_
  intro p e s m args below meth c s₁ B hml htab hv
  obtain ⟨rfl, hP, hK, hO, hZ⟩ := hv
  have hx := B.exec
  have hb := B.bytes
  have hr := B.returns
  have hts := atoms_spec (ws := .code y cc nL (some .float) :: fo_W0) B.pre
  have hown : s.vm.findClass y.cls = some m.cls := findClass_of_methodNamed B.named
  have hlocks := B.notSynchronized
  have hl := lv_entry av (n := nL) hfit
  rw [hlv] at hl
  rw [lg_entry_eq]
  refine body (p, e, s, m, av.toArray, below, meth, c, nL, vx_MQ below (va_Qf (fun r (u : fo_U) => post r u.1 u.2.1 u.2.2.1 u.2.2.2) (fo_B Λ) (fo_A Λ)) (vx_X (fun _ : fo_U => True) (fun E u t => px E u.1 u.2.1 u.2.2.1 u.2.2.2 ∧ fo_B Λ u t) (fo_A Λ)) av.toArray s mc ms (fo_A Λ)) ⟨hx, hb, hml, hown, fun w h => hts w (List.mem_cons_of_mem _ h), hK, hO, hZ, rfl⟩ ?_ ?_ ?_ s.heap [] _ hP va_S.rf hl
  · intro cs ss pc lv v I' D' J' X' d h1 h2 hp H locs ls hP' hS' hl'
    refine W.widen h1 h2 (vx_ret ?_)
    exact W.fret (v := v) hx hb hr (fun t ht hW => ⟨⟨v, (I', D', J', X'), rfl, hp, by show va_P _ _ _ t.heap; rw [ht]; exact hP'⟩, hS'.F ht⟩) hS'.2.2 d hlocks
  · intro cs ss pc lv st E I' D' J' X' h1 h2 hp H locs ls q ce hP' hS' hl' hc hv hcl
    exact vx_out (fun z hz => absurd hz (htab z)) hlocks hc hv hcl (fun t ht hvm => ⟨(I', D', J', X'), trivial, ⟨hp, by show va_P _ _ _ _; rw [ht]; exact hP'⟩, hS'.F ht⟩) hS'.2.2 h1 h2
  · intro cs ss pc ik ic cls names lv st I' D' J' X' tf d0 d3 d4 d7 h1 h2 h3 h4 hp H locs ls hP' hS' hl'
    obtain ⟨f1, f2, f3, f4, f5, f6, f7, f8⟩ := tf
    have hw : ∀ w ∈ fo_W0, w.before av.toArray s = true := fun w h => hts w (List.mem_cons_of_mem _ h)
    refine vx_throw0 hx hb hfl hown f6 f7 (hw _ f1) (hw _ f2) (vx_hat (fun w h => hw w (f3 w h)) f4 (vx_c (va_Nw.use rfl (hZ.2.2.2.1 cls f5)) (fun w h => by obtain ⟨q, hq, rfl⟩ := List.mem_map.mp h; exact va_Nw.use rfl (hZ.2.2.2.2.2.2 q hq)))) f8 hZ.1 hZ.2.1 hS' (hl'.1.trans hml.symm) d0 d3 d4 d7 (fun z hz => absurd hz (htab z)) h1 h2 h3 h4 hlocks ?_ hS'.2.2 h3 h4
    intro t hvm hz hk
    refine ⟨(I', D', J', X'), trivial, ⟨hp, ?_⟩, ?_, ?_⟩
    · exact hP'.kept (fun k q hq => hk q.1 (hP' k q hq).lt)
    · exact Nat.le_trans hS'.1 hz
    · exact fun q h1 h2 => (hk q (Nat.lt_of_lt_of_le h1 hS'.1)).trans (hS'.2.1 q h1 h2)
theorem fo_sxv {l : Launch} {y : MethodName} {cc : ByteArray} {nL : Nat} {fr lo : Nat} {mc ms : Nat} {Λ : fo_Lt} {av : List Value} {I : fo_Mi} {D : fo_Md} {J : fo_Mj} {X : fo_Mi} {post : fo_Mi → fo_Md → fo_Mj → fo_Mi → Prop} {px : String → fo_Mi → fo_Md → fo_Mj → fo_Mi → Prop} (hfl : l.stackTraces = false) (hy : plainName y.cls = true) (lv : List (Nat × Value)) (hlv : lv_args 0 av = lv) (hfit : (lg_sl av).length ≤ nL)
  (body : ∀ K : fo_K, fo_C Λ K cc y.cls nL → (∀ {cs ss : Nat} {pc : Nat} {lv : List (Nat × Value)} {I' : fo_Mi} {D' : fo_Md} {J' : fo_Mj} {X' : fo_Mi}, decode cc pc = .ok (.return_, 1) → cs ≤ mc → ss ≤ ms → post I' D' J' X' → fo_G l Λ { frames := fr, cells := mc, slots := ms, locals := lo } K cs ss pc lv [] I' D' J' X') → (∀ {cs ss pc : Nat} {lv : List (Nat × Value)} {st : List Value} {E : String} {I' : fo_Mi} {D' : fo_Md} {J' : fo_Mj} {X' : fo_Mi}, cs ≤ mc → ss ≤ ms → px E I' D' J' X' → fo_T l Λ { frames := fr, cells := mc, slots := ms, locals := lo } K cs ss pc lv st E I' D' J' X') → (∀ {cs ss pc ik ic : Nat} {cls : String} {names : List String} {lv : List (Nat × Value)} {st : List Value} {I' : fo_Mi} {D' : fo_Md} {J' : fo_Mj} {X' : fo_Mi}, fo_tf y.cls ik ic cls names → decode cc pc = .ok (.new ik, 3) → decode cc (pc + 3) = .ok (.dup, 1) → decode cc (pc + 4) = .ok (.invokespecial ic, 3) → decode cc (pc + 7) = .ok (.athrow, 1) → names.length + 3 < fr → (st.map fun v => v.category).sum + (13 * (names.length + 1) + 42) ≤ lo → cs + 1 ≤ mc → ss + 6 ≤ ms → px cls I' D' J' X' → fo_G l Λ { frames := fr, cells := mc, slots := ms, locals := lo } K cs ss pc lv st I' D' J' X') → fo_G l Λ { frames := fr, cells := mc, slots := ms, locals := lo } K 0 0 0 lv [] I D J X) : fx_v l y cc nL fr lo mc ms Λ av I D J X post px := by
  refine vx_ofW (cc := cc) (maxL := nL) (ret := none) hy rfl ?_
  intro p e s m args below meth c s₁ B hml htab hv
  obtain ⟨rfl, hP, hK, hO, hZ⟩ := hv
  have hx := B.exec
  have hb := B.bytes
  have hr := B.returns
  have hts := atoms_spec (ws := .code y cc nL none :: fo_W0) B.pre
  have hown : s.vm.findClass y.cls = some m.cls := findClass_of_methodNamed B.named
  have hlocks := B.notSynchronized
  have hl := lv_entry av (n := nL) hfit
  rw [hlv] at hl
  rw [lg_entry_eq]
  refine body (p, e, s, m, av.toArray, below, meth, c, nL, vx_MQ below (va_Qv (fun (u : fo_U) => post u.1 u.2.1 u.2.2.1 u.2.2.2) (fo_B Λ) (fo_A Λ)) (vx_X (fun _ : fo_U => True) (fun E u t => px E u.1 u.2.1 u.2.2.1 u.2.2.2 ∧ fo_B Λ u t) (fo_A Λ)) av.toArray s mc ms (fo_A Λ)) ⟨hx, hb, hml, hown, fun w h => hts w (List.mem_cons_of_mem _ h), hK, hO, hZ, rfl⟩ ?_ ?_ ?_ s.heap [] _ hP va_S.rf hl
  · intro cs ss pc lv I' D' J' X' d h1 h2 hp H locs ls hP' hS' hl'
    refine W.widen h1 h2 (vx_ret ?_)
    exact W.vret hx hb hr (fun t ht hW => ⟨⟨(I', D', J', X'), rfl, hp, by show va_P _ _ _ t.heap; rw [ht]; exact hP'⟩, hS'.F ht⟩) hS'.2.2 d hlocks
  · intro cs ss pc lv st E I' D' J' X' h1 h2 hp H locs ls q ce hP' hS' hl' hc hv hcl
    exact vx_out (fun z hz => absurd hz (htab z)) hlocks hc hv hcl (fun t ht hvm => ⟨(I', D', J', X'), trivial, ⟨hp, by show va_P _ _ _ _; rw [ht]; exact hP'⟩, hS'.F ht⟩) hS'.2.2 h1 h2
  · intro cs ss pc ik ic cls names lv st I' D' J' X' tf d0 d3 d4 d7 h1 h2 h3 h4 hp H locs ls hP' hS' hl'
    obtain ⟨f1, f2, f3, f4, f5, f6, f7, f8⟩ := tf
    have hw : ∀ w ∈ fo_W0, w.before av.toArray s = true := fun w h => hts w (List.mem_cons_of_mem _ h)
    refine vx_throw0 hx hb hfl hown f6 f7 (hw _ f1) (hw _ f2) (vx_hat (fun w h => hw w (f3 w h)) f4 (vx_c (va_Nw.use rfl (hZ.2.2.2.1 cls f5)) (fun w h => by obtain ⟨q, hq, rfl⟩ := List.mem_map.mp h; exact va_Nw.use rfl (hZ.2.2.2.2.2.2 q hq)))) f8 hZ.1 hZ.2.1 hS' (hl'.1.trans hml.symm) d0 d3 d4 d7 (fun z hz => absurd hz (htab z)) h1 h2 h3 h4 hlocks ?_ hS'.2.2 h3 h4
    intro t hvm hz hk
    refine ⟨(I', D', J', X'), trivial, ⟨hp, ?_⟩, ?_, ?_⟩
    · exact hP'.kept (fun k q hq => hk q.1 (hP' k q hq).lt)
    · exact Nat.le_trans hS'.1 hz
    · exact fun q h1 h2 => (hk q (Nat.lt_of_lt_of_le h1 hS'.1)).trans (hS'.2.1 q h1 h2)
theorem fo_sxq {l : Launch} {y : MethodName} {cc : ByteArray} {nL : Nat} {ty : FieldType} {fr lo : Nat} {mc ms : Nat} {Λ : fo_Lt} {av : List Value} {I : fo_Mi} {D : fo_Md} {J : fo_Mj} {X : fo_Mi} {post : (Option Nat) → fo_Mi → fo_Md → fo_Mj → fo_Mi → Prop} {px : String → fo_Mi → fo_Md → fo_Mj → fo_Mi → Prop} (hfl : l.stackTraces = false) (hy : plainName y.cls = true) (lv : List (Nat × Value)) (hlv : lv_args 0 av = lv) (hfit : (lg_sl av).length ≤ nL)
  (body : ∀ K : fo_K, fo_C Λ K cc y.cls nL → (∀ {cs ss : Nat} {pc : Nat} {lv : List (Nat × Value)} {v : Option Nat} {I' : fo_Mi} {D' : fo_Md} {J' : fo_Mj} {X' : fo_Mi}, decode cc pc = .ok (.areturn, 1) → ((∃ n, ty = .object n) ∨ ∃ t, ty = .array t) → cs ≤ mc → ss ≤ ms → post v I' D' J' X' → fo_G l Λ { frames := fr, cells := mc, slots := ms, locals := lo } K cs ss pc lv [va_rf v] I' D' J' X') → (∀ {cs ss pc : Nat} {lv : List (Nat × Value)} {st : List Value} {E : String} {I' : fo_Mi} {D' : fo_Md} {J' : fo_Mj} {X' : fo_Mi}, cs ≤ mc → ss ≤ ms → px E I' D' J' X' → fo_T l Λ { frames := fr, cells := mc, slots := ms, locals := lo } K cs ss pc lv st E I' D' J' X') → (∀ {cs ss pc ik ic : Nat} {cls : String} {names : List String} {lv : List (Nat × Value)} {st : List Value} {I' : fo_Mi} {D' : fo_Md} {J' : fo_Mj} {X' : fo_Mi}, fo_tf y.cls ik ic cls names → decode cc pc = .ok (.new ik, 3) → decode cc (pc + 3) = .ok (.dup, 1) → decode cc (pc + 4) = .ok (.invokespecial ic, 3) → decode cc (pc + 7) = .ok (.athrow, 1) → names.length + 3 < fr → (st.map fun v => v.category).sum + (13 * (names.length + 1) + 42) ≤ lo → cs + 1 ≤ mc → ss + 6 ≤ ms → px cls I' D' J' X' → fo_G l Λ { frames := fr, cells := mc, slots := ms, locals := lo } K cs ss pc lv st I' D' J' X') → fo_G l Λ { frames := fr, cells := mc, slots := ms, locals := lo } K 0 0 0 lv [] I D J X) : fx_q l y cc nL ty fr lo mc ms Λ av I D J X post px := by
  refine vx_ofW (cc := cc) (maxL := nL) (ret := (some ty)) hy rfl ?_
  intro p e s m args below meth c s₁ B hml htab hv
  obtain ⟨rfl, hP, hK, hO, hZ⟩ := hv
  have hx := B.exec
  have hb := B.bytes
  have hr := B.returns
  have hts := atoms_spec (ws := .code y cc nL (some ty) :: fo_W0) B.pre
  have hown : s.vm.findClass y.cls = some m.cls := findClass_of_methodNamed B.named
  have hlocks := B.notSynchronized
  have hl := lv_entry av (n := nL) hfit
  rw [hlv] at hl
  rw [lg_entry_eq]
  refine body (p, e, s, m, av.toArray, below, meth, c, nL, vx_MQ below (va_Qq (fun r (u : fo_U) => post r u.1 u.2.1 u.2.2.1 u.2.2.2) (fo_B Λ) (fo_A Λ)) (vx_X (fun _ : fo_U => True) (fun E u t => px E u.1 u.2.1 u.2.2.1 u.2.2.2 ∧ fo_B Λ u t) (fo_A Λ)) av.toArray s mc ms (fo_A Λ)) ⟨hx, hb, hml, hown, fun w h => hts w (List.mem_cons_of_mem _ h), hK, hO, hZ, rfl⟩ ?_ ?_ ?_ s.heap [] _ hP va_S.rf hl
  · intro cs ss pc lv v I' D' J' X' d hn h1 h2 hp H locs ls hP' hS' hl'
    refine W.widen h1 h2 (vx_ret ?_)
    exact W.aret (v := va_rf v) hx hb hr hn (by cases v with | none => exact Or.inl rfl | some a => exact Or.inr ⟨a, rfl⟩) (fun t ht hW => ⟨⟨v, (I', D', J', X'), rfl, hp, by show va_P _ _ _ t.heap; rw [ht]; exact hP'⟩, hS'.F ht⟩) hS'.2.2 d hlocks
  · intro cs ss pc lv st E I' D' J' X' h1 h2 hp H locs ls q ce hP' hS' hl' hc hv hcl
    exact vx_out (fun z hz => absurd hz (htab z)) hlocks hc hv hcl (fun t ht hvm => ⟨(I', D', J', X'), trivial, ⟨hp, by show va_P _ _ _ _; rw [ht]; exact hP'⟩, hS'.F ht⟩) hS'.2.2 h1 h2
  · intro cs ss pc ik ic cls names lv st I' D' J' X' tf d0 d3 d4 d7 h1 h2 h3 h4 hp H locs ls hP' hS' hl'
    obtain ⟨f1, f2, f3, f4, f5, f6, f7, f8⟩ := tf
    have hw : ∀ w ∈ fo_W0, w.before av.toArray s = true := fun w h => hts w (List.mem_cons_of_mem _ h)
    refine vx_throw0 hx hb hfl hown f6 f7 (hw _ f1) (hw _ f2) (vx_hat (fun w h => hw w (f3 w h)) f4 (vx_c (va_Nw.use rfl (hZ.2.2.2.1 cls f5)) (fun w h => by obtain ⟨q, hq, rfl⟩ := List.mem_map.mp h; exact va_Nw.use rfl (hZ.2.2.2.2.2.2 q hq)))) f8 hZ.1 hZ.2.1 hS' (hl'.1.trans hml.symm) d0 d3 d4 d7 (fun z hz => absurd hz (htab z)) h1 h2 h3 h4 hlocks ?_ hS'.2.2 h3 h4
    intro t hvm hz hk
    refine ⟨(I', D', J', X'), trivial, ⟨hp, ?_⟩, ?_, ?_⟩
    · exact hP'.kept (fun k q hq => hk q.1 (hP' k q hq).lt)
    · exact Nat.le_trans hS'.1 hz
    · exact fun q h1 h2 => (hk q (Nat.lt_of_lt_of_le h1 hS'.1)).trans (hS'.2.1 q h1 h2)
section
variable {p : Program} {l : Launch} {e : Env} {R : Room} {s : State} {m : MethodId} {args : Array Value} {below : List Frame} {meth : Method} {c : Code} {H : Heap} {locs : List Loc} {cells slots : Nat} {Q : State → Prop}
variable {mc ms : Nat} {free : Addr → Prop} {A0 A1 : Nat → Prop} {H0 : Heap} {a : Array Value} {pc : Nat} {ls : Array Slot} {st0 rest : List Value}
theorem vx_callq {S SX : Type} {post : Option Nat → S → Prop} {px : SX → Prop} {B : S → State → Prop} {BX : String → SX → State → Prop} {AX : Nat → Prop} (hr : vx_Run p l e R s m args below meth c H locs cells slots mc ms (F0 m pc ls st0) rest (va_Qq post B A1 a) (vx_X px BX AX) free) (hS : va_S A0 H0 H locs) (hA : ∀ q, q < H.size → A1 q → A0 q) (hf : ∀ q, free q → A0 q) (hAX : ∀ q, q < H.size → AX q → A0 q)
    (kx : ∀ (E : String) (ce : Cell) (q9 : Addr) (u : SX) (t : State) (H1 : Heap) (locs1 : List Loc), t.heap = H1 → s.vm.Alike t.vm → px u → BX E u t → H.size ≤ H1.size → (∀ q : Nat, q < H.size → ¬ AX q → H1[q]? = H[q]?) → va_S A0 H0 H1 locs1 → H1[q9]? = some ce → ce.vm = .none → s.vm.findClass E = some ce.cls → vx_W p l e R s m args below meth c H1 locs1 (cells + mc) (slots + ms) Q (F0 m pc ls rest) q9)
    (kk : ∀ (r : Option Nat) (u : S) (t : State) (H1 : Heap) (locs1 : List Loc), t.heap = H1 → s.vm.Alike t.vm → post r u → B u t → H.size ≤ H1.size → (∀ q : Nat, q < H.size → ¬ A1 q → H1[q]? = H[q]?) → va_S A0 H0 H1 locs1 → W p l e R s m args below meth c H1 locs1 (cells + mc) (slots + ms) Q (F0 m (pc + 3) ls (va_rf r :: rest))) : W p l e R s m args below meth c H locs cells slots Q (F0 m pc ls st0) := by
  intro T hT X
  rcases hr T hT X with ⟨v, st₀, t, T', L, h0, X', hL, e1, e2, ⟨⟨r, u, hv, hp, hb⟩, hF⟩, st⟩ | ⟨q, st₀, t, T', L, E, ce, h0, X', hL, e1, e2, ⟨u, hp, hb, hF⟩, hce, hcv, hcl, st⟩
  · cases hv
    obtain ⟨k1, k2, k3⟩ := vx_keep h0 e1 hS hA hf hL hF
    obtain ⟨t2, a1, b1⟩ := kk r u t T'.heap (locs ++ L) e1.symm (by rw [← e2]; exact X'.warmed.alike) hp hb k1 k2 k3 T' rfl X'
    exact ⟨t2, st t2 a1, b1⟩
  · obtain ⟨k1, k2, k3⟩ := vx_keep h0 e1 hS hAX hf hL hF
    obtain ⟨t2, a1, b1⟩ := kx E ce q u t T'.heap (locs ++ L) e1.symm (by rw [← e2]; exact X'.warmed.alike) hp hb k1 k2 k3 (by rw [e1]; exact hce) hcv hcl T' rfl X'
    exact ⟨t2, st.trans a1, b1⟩
end
section FOC
variable {l : Launch} {Λ : fo_Lt} {R : Room} {K : fo_K} {cc : ByteArray} {own : String} {nL cs ss pc : Nat} {lv : List (Nat × Value)} {st st0 : List Value} {I : fo_Mi} {D : fo_Md} {J : fo_Mj} {X : fo_Mi}
variable {y : MethodName} {bytes : ByteArray} {maxL fr lo mc ms n idx id ci : Nat} {As : List Value}
theorem fo_qvi (C : fo_C Λ K cc own nL) {ty : FieldType} {post : (Int32) → fo_Mi → fo_Md → fo_Mj → fo_Mi → Prop} (d : decode cc pc = .ok (.invokevirtual idx, 3)) (hM : fk_i l y bytes maxL ty fr lo Λ (.ref (Λ.2.2.1 id) :: As) I D J X post) (hl : fo_lv own idx y bytes maxL (some ty) n) (hk : fo_k id = ci) (hcl : (vwCl[ci]?).map (fun q => q.1) = some y.cls) (hci : ci < 20) (hn : As.length = n) (hR : fr + 1 ≤ R.frames ∧ 8 + (maxL + 11) + lo ≤ R.locals) (hf : cs ≤ R.cells ∧ ss ≤ R.slots) (st : List Value) (hst : st0 = As.reverse ++ .ref (Λ.2.2.1 id) :: st) (hW : (st.map fun v => v.category).sum ≤ 8) (n' : Nat) (hn' : pc + 3 = n') (k : ∀ (r : Int32) (I' : fo_Mi) (D' : fo_Md) (J' : fo_Mj) (X' : fo_Mi), post r I' D' J' X' → fo_G l Λ R K cs ss n' lv (.int r :: st) I' D' J' X') : fo_G l Λ R K cs ss pc lv st0 I D J X := by
  intro H locs ls hP hS hl9
  subst hn'
  subst hst
  refine va_calli (va_runV (As := As) (rest := st) C.fix hM (cwV n C.2.2.2.2.1 hl.1 rfl rfl rfl ⟨rfl, hl.2⟩ hR) ⟨fo_PB, by obtain ⟨q, hq, hq1⟩ : ∃ q, vwCl[ci]? = some q ∧ q.1 = y.cls := (by cases hz : vwCl[ci]? with | none => (rw [hz] at hcl; cases hcl) | some q => (rw [hz] at hcl; exact ⟨q, rfl, Option.some.inj hcl⟩)); rw [← hq1]; exact va_recv C.vk hP hq (fo_obj hk hci), fun U hU hW9 => fo_pre hP hS C.vk C.ok C.zz hU hW9⟩ rfl hn (hl9.1.trans C.nl) rfl (lv_room hW) d ⟨hf.1, hf.2⟩) hS (fun q _ h => h) (fun q h => h) (fun r u t H1 locs1 ht hvm hw hB hz1 hk1 hS1 => ?_)
  · obtain ⟨I', D', J', X'⟩ := u
    exact k r I' D' J' X' hw H1 locs1 ls (by rw [← ht]; exact hB) hS1 hl9
theorem fo_qsi (C : fo_C Λ K cc own nL) {ty : FieldType} {post : (Int32) → fo_Mi → fo_Md → fo_Mj → fo_Mi → Prop} (d : decode cc pc = .ok (.invokestatic idx, 3)) (hM : fk_i l y bytes maxL ty fr lo Λ As I D J X post) (hl : fo_ls own idx y bytes maxL (some ty) n) (hn : As.length = n) (hR : fr + 1 ≤ R.frames ∧ 8 + (maxL + 11) + lo ≤ R.locals) (hf : cs ≤ R.cells ∧ ss ≤ R.slots) (st : List Value) (hst : st0 = As.reverse ++ st) (hW : (st.map fun v => v.category).sum ≤ 8) (n' : Nat) (hn' : pc + 3 = n') (k : ∀ (r : Int32) (I' : fo_Mi) (D' : fo_Md) (J' : fo_Mj) (X' : fo_Mi), post r I' D' J' X' → fo_G l Λ R K cs ss n' lv (.int r :: st) I' D' J' X') : fo_G l Λ R K cs ss pc lv st0 I D J X := by
  intro H locs ls hP hS hl9
  subst hn'
  subst hst
  refine va_calli (va_runS (As := As) (rest := st) C.fix hM (cwS n C.2.2.2.2.1 hl.1 rfl rfl rfl hl.2 hR) ⟨fo_PB, fun U hU hW9 => fo_pre hP hS C.vk C.ok C.zz hU hW9⟩ rfl hn (hl9.1.trans C.nl) rfl (lv_room hW) d ⟨hf.1, hf.2⟩) hS (fun q _ h => h) (fun q h => h) (fun r u t H1 locs1 ht hvm hw hB hz1 hk1 hS1 => ?_)
  · obtain ⟨I', D', J', X'⟩ := u
    exact k r I' D' J' X' hw H1 locs1 ls (by rw [← ht]; exact hB) hS1 hl9
theorem fo_qni (C : fo_C Λ K cc own nL) {ty : FieldType} {post : (Int32) → fo_Mi → fo_Md → fo_Mj → fo_Mi → Prop} (d : decode cc pc = .ok (.invokestatic idx, 3)) (hM : fk_i l y bytes maxL ty fr lo Λ As I D J X post) (hl : fo_ln own idx y bytes maxL (some ty) n) (hn : As.length = n) (hR : fr + 1 ≤ R.frames ∧ 8 + (maxL + 11) + lo ≤ R.locals) (hf : cs ≤ R.cells ∧ ss ≤ R.slots) (st : List Value) (hst : st0 = As.reverse ++ st) (hW : (st.map fun v => v.category).sum ≤ 8) (n' : Nat) (hn' : pc + 3 = n') (k : ∀ (r : Int32) (I' : fo_Mi) (D' : fo_Md) (J' : fo_Mj) (X' : fo_Mi), post r I' D' J' X' → fo_G l Λ R K cs ss n' lv (.int r :: st) I' D' J' X') : fo_G l Λ R K cs ss pc lv st0 I D J X := by
  intro H locs ls hP hS hl9
  subst hn'
  subst hst
  refine va_calli (va_runSN (As := As) (rest := st) C.fix hM ⟨va_cnB n C.2.2.2.2.1 (fo_gl (fun w hw => (List.mem_cons.mp hw).elim (fun q => by rw [q]; exact hl.2.2.2.1) (fun q => q))) rfl rfl rfl (C.zz.2.2.2.2.1 _ hl.1) (C.2.2.2.2.1 _ hl.2.1) hl.2.2.2.2 hR, C.2.2.2.2.1 _ hl.2.2.1, trivial⟩ ⟨fo_PB, fun U hU hW9 => fo_pre hP hS C.vk C.ok C.zz hU hW9⟩ rfl hn (hl9.1.trans C.nl) rfl (lv_room hW) d ⟨hf.1, hf.2⟩) hS (fun q _ h => h) (fun q h => h) (fun r u t H1 locs1 ht hvm hw hB hz1 hk1 hS1 => ?_)
  · obtain ⟨I', D', J', X'⟩ := u
    exact k r I' D' J' X' hw H1 locs1 ls (by rw [← ht]; exact hB) hS1 hl9
theorem fo_qvd (C : fo_C Λ K cc own nL) {post : (UInt64) → fo_Mi → fo_Md → fo_Mj → fo_Mi → Prop} (d : decode cc pc = .ok (.invokevirtual idx, 3)) (hM : fk_d l y bytes maxL fr lo Λ (.ref (Λ.2.2.1 id) :: As) I D J X post) (hl : fo_lv own idx y bytes maxL (some .double) n) (hk : fo_k id = ci) (hcl : (vwCl[ci]?).map (fun q => q.1) = some y.cls) (hci : ci < 20) (hn : As.length = n) (hR : fr + 1 ≤ R.frames ∧ 8 + (maxL + 11) + lo ≤ R.locals) (hf : cs ≤ R.cells ∧ ss ≤ R.slots) (st : List Value) (hst : st0 = As.reverse ++ .ref (Λ.2.2.1 id) :: st) (hW : (st.map fun v => v.category).sum ≤ 8) (n' : Nat) (hn' : pc + 3 = n') (k : ∀ (r : UInt64) (I' : fo_Mi) (D' : fo_Md) (J' : fo_Mj) (X' : fo_Mi), post r I' D' J' X' → fo_G l Λ R K cs ss n' lv (.double r :: st) I' D' J' X') : fo_G l Λ R K cs ss pc lv st0 I D J X := by
  intro H locs ls hP hS hl9
  subst hn'
  subst hst
  refine va_calld (va_runV (As := As) (rest := st) C.fix hM (cwV n C.2.2.2.2.1 hl.1 rfl rfl rfl ⟨rfl, hl.2⟩ hR) ⟨fo_PB, by obtain ⟨q, hq, hq1⟩ : ∃ q, vwCl[ci]? = some q ∧ q.1 = y.cls := (by cases hz : vwCl[ci]? with | none => (rw [hz] at hcl; cases hcl) | some q => (rw [hz] at hcl; exact ⟨q, rfl, Option.some.inj hcl⟩)); rw [← hq1]; exact va_recv C.vk hP hq (fo_obj hk hci), fun U hU hW9 => fo_pre hP hS C.vk C.ok C.zz hU hW9⟩ rfl hn (hl9.1.trans C.nl) rfl (lv_room hW) d ⟨hf.1, hf.2⟩) hS (fun q _ h => h) (fun q h => h) (fun r u t H1 locs1 ht hvm hw hB hz1 hk1 hS1 => ?_)
  · obtain ⟨I', D', J', X'⟩ := u
    exact k r I' D' J' X' hw H1 locs1 ls (by rw [← ht]; exact hB) hS1 hl9
theorem fo_qsd (C : fo_C Λ K cc own nL) {post : (UInt64) → fo_Mi → fo_Md → fo_Mj → fo_Mi → Prop} (d : decode cc pc = .ok (.invokestatic idx, 3)) (hM : fk_d l y bytes maxL fr lo Λ As I D J X post) (hl : fo_ls own idx y bytes maxL (some .double) n) (hn : As.length = n) (hR : fr + 1 ≤ R.frames ∧ 8 + (maxL + 11) + lo ≤ R.locals) (hf : cs ≤ R.cells ∧ ss ≤ R.slots) (st : List Value) (hst : st0 = As.reverse ++ st) (hW : (st.map fun v => v.category).sum ≤ 8) (n' : Nat) (hn' : pc + 3 = n') (k : ∀ (r : UInt64) (I' : fo_Mi) (D' : fo_Md) (J' : fo_Mj) (X' : fo_Mi), post r I' D' J' X' → fo_G l Λ R K cs ss n' lv (.double r :: st) I' D' J' X') : fo_G l Λ R K cs ss pc lv st0 I D J X := by
  intro H locs ls hP hS hl9
  subst hn'
  subst hst
  refine va_calld (va_runS (As := As) (rest := st) C.fix hM (cwS n C.2.2.2.2.1 hl.1 rfl rfl rfl hl.2 hR) ⟨fo_PB, fun U hU hW9 => fo_pre hP hS C.vk C.ok C.zz hU hW9⟩ rfl hn (hl9.1.trans C.nl) rfl (lv_room hW) d ⟨hf.1, hf.2⟩) hS (fun q _ h => h) (fun q h => h) (fun r u t H1 locs1 ht hvm hw hB hz1 hk1 hS1 => ?_)
  · obtain ⟨I', D', J', X'⟩ := u
    exact k r I' D' J' X' hw H1 locs1 ls (by rw [← ht]; exact hB) hS1 hl9
theorem fo_qnd (C : fo_C Λ K cc own nL) {post : (UInt64) → fo_Mi → fo_Md → fo_Mj → fo_Mi → Prop} (d : decode cc pc = .ok (.invokestatic idx, 3)) (hM : fk_d l y bytes maxL fr lo Λ As I D J X post) (hl : fo_ln own idx y bytes maxL (some .double) n) (hn : As.length = n) (hR : fr + 1 ≤ R.frames ∧ 8 + (maxL + 11) + lo ≤ R.locals) (hf : cs ≤ R.cells ∧ ss ≤ R.slots) (st : List Value) (hst : st0 = As.reverse ++ st) (hW : (st.map fun v => v.category).sum ≤ 8) (n' : Nat) (hn' : pc + 3 = n') (k : ∀ (r : UInt64) (I' : fo_Mi) (D' : fo_Md) (J' : fo_Mj) (X' : fo_Mi), post r I' D' J' X' → fo_G l Λ R K cs ss n' lv (.double r :: st) I' D' J' X') : fo_G l Λ R K cs ss pc lv st0 I D J X := by
  intro H locs ls hP hS hl9
  subst hn'
  subst hst
  refine va_calld (va_runSN (As := As) (rest := st) C.fix hM ⟨va_cnB n C.2.2.2.2.1 (fo_gl (fun w hw => (List.mem_cons.mp hw).elim (fun q => by rw [q]; exact hl.2.2.2.1) (fun q => q))) rfl rfl rfl (C.zz.2.2.2.2.1 _ hl.1) (C.2.2.2.2.1 _ hl.2.1) hl.2.2.2.2 hR, C.2.2.2.2.1 _ hl.2.2.1, trivial⟩ ⟨fo_PB, fun U hU hW9 => fo_pre hP hS C.vk C.ok C.zz hU hW9⟩ rfl hn (hl9.1.trans C.nl) rfl (lv_room hW) d ⟨hf.1, hf.2⟩) hS (fun q _ h => h) (fun q h => h) (fun r u t H1 locs1 ht hvm hw hB hz1 hk1 hS1 => ?_)
  · obtain ⟨I', D', J', X'⟩ := u
    exact k r I' D' J' X' hw H1 locs1 ls (by rw [← ht]; exact hB) hS1 hl9
theorem fo_qvl (C : fo_C Λ K cc own nL) {post : (Int64) → fo_Mi → fo_Md → fo_Mj → fo_Mi → Prop} (d : decode cc pc = .ok (.invokevirtual idx, 3)) (hM : fk_l l y bytes maxL fr lo Λ (.ref (Λ.2.2.1 id) :: As) I D J X post) (hl : fo_lv own idx y bytes maxL (some .long) n) (hk : fo_k id = ci) (hcl : (vwCl[ci]?).map (fun q => q.1) = some y.cls) (hci : ci < 20) (hn : As.length = n) (hR : fr + 1 ≤ R.frames ∧ 8 + (maxL + 11) + lo ≤ R.locals) (hf : cs ≤ R.cells ∧ ss ≤ R.slots) (st : List Value) (hst : st0 = As.reverse ++ .ref (Λ.2.2.1 id) :: st) (hW : (st.map fun v => v.category).sum ≤ 8) (n' : Nat) (hn' : pc + 3 = n') (k : ∀ (r : Int64) (I' : fo_Mi) (D' : fo_Md) (J' : fo_Mj) (X' : fo_Mi), post r I' D' J' X' → fo_G l Λ R K cs ss n' lv (.long r :: st) I' D' J' X') : fo_G l Λ R K cs ss pc lv st0 I D J X := by
  intro H locs ls hP hS hl9
  subst hn'
  subst hst
  refine va_calll (va_runV (As := As) (rest := st) C.fix hM (cwV n C.2.2.2.2.1 hl.1 rfl rfl rfl ⟨rfl, hl.2⟩ hR) ⟨fo_PB, by obtain ⟨q, hq, hq1⟩ : ∃ q, vwCl[ci]? = some q ∧ q.1 = y.cls := (by cases hz : vwCl[ci]? with | none => (rw [hz] at hcl; cases hcl) | some q => (rw [hz] at hcl; exact ⟨q, rfl, Option.some.inj hcl⟩)); rw [← hq1]; exact va_recv C.vk hP hq (fo_obj hk hci), fun U hU hW9 => fo_pre hP hS C.vk C.ok C.zz hU hW9⟩ rfl hn (hl9.1.trans C.nl) rfl (lv_room hW) d ⟨hf.1, hf.2⟩) hS (fun q _ h => h) (fun q h => h) (fun r u t H1 locs1 ht hvm hw hB hz1 hk1 hS1 => ?_)
  · obtain ⟨I', D', J', X'⟩ := u
    exact k r I' D' J' X' hw H1 locs1 ls (by rw [← ht]; exact hB) hS1 hl9
theorem fo_qsl (C : fo_C Λ K cc own nL) {post : (Int64) → fo_Mi → fo_Md → fo_Mj → fo_Mi → Prop} (d : decode cc pc = .ok (.invokestatic idx, 3)) (hM : fk_l l y bytes maxL fr lo Λ As I D J X post) (hl : fo_ls own idx y bytes maxL (some .long) n) (hn : As.length = n) (hR : fr + 1 ≤ R.frames ∧ 8 + (maxL + 11) + lo ≤ R.locals) (hf : cs ≤ R.cells ∧ ss ≤ R.slots) (st : List Value) (hst : st0 = As.reverse ++ st) (hW : (st.map fun v => v.category).sum ≤ 8) (n' : Nat) (hn' : pc + 3 = n') (k : ∀ (r : Int64) (I' : fo_Mi) (D' : fo_Md) (J' : fo_Mj) (X' : fo_Mi), post r I' D' J' X' → fo_G l Λ R K cs ss n' lv (.long r :: st) I' D' J' X') : fo_G l Λ R K cs ss pc lv st0 I D J X := by
  intro H locs ls hP hS hl9
  subst hn'
  subst hst
  refine va_calll (va_runS (As := As) (rest := st) C.fix hM (cwS n C.2.2.2.2.1 hl.1 rfl rfl rfl hl.2 hR) ⟨fo_PB, fun U hU hW9 => fo_pre hP hS C.vk C.ok C.zz hU hW9⟩ rfl hn (hl9.1.trans C.nl) rfl (lv_room hW) d ⟨hf.1, hf.2⟩) hS (fun q _ h => h) (fun q h => h) (fun r u t H1 locs1 ht hvm hw hB hz1 hk1 hS1 => ?_)
  · obtain ⟨I', D', J', X'⟩ := u
    exact k r I' D' J' X' hw H1 locs1 ls (by rw [← ht]; exact hB) hS1 hl9
theorem fo_qnl (C : fo_C Λ K cc own nL) {post : (Int64) → fo_Mi → fo_Md → fo_Mj → fo_Mi → Prop} (d : decode cc pc = .ok (.invokestatic idx, 3)) (hM : fk_l l y bytes maxL fr lo Λ As I D J X post) (hl : fo_ln own idx y bytes maxL (some .long) n) (hn : As.length = n) (hR : fr + 1 ≤ R.frames ∧ 8 + (maxL + 11) + lo ≤ R.locals) (hf : cs ≤ R.cells ∧ ss ≤ R.slots) (st : List Value) (hst : st0 = As.reverse ++ st) (hW : (st.map fun v => v.category).sum ≤ 8) (n' : Nat) (hn' : pc + 3 = n') (k : ∀ (r : Int64) (I' : fo_Mi) (D' : fo_Md) (J' : fo_Mj) (X' : fo_Mi), post r I' D' J' X' → fo_G l Λ R K cs ss n' lv (.long r :: st) I' D' J' X') : fo_G l Λ R K cs ss pc lv st0 I D J X := by
  intro H locs ls hP hS hl9
  subst hn'
  subst hst
  refine va_calll (va_runSN (As := As) (rest := st) C.fix hM ⟨va_cnB n C.2.2.2.2.1 (fo_gl (fun w hw => (List.mem_cons.mp hw).elim (fun q => by rw [q]; exact hl.2.2.2.1) (fun q => q))) rfl rfl rfl (C.zz.2.2.2.2.1 _ hl.1) (C.2.2.2.2.1 _ hl.2.1) hl.2.2.2.2 hR, C.2.2.2.2.1 _ hl.2.2.1, trivial⟩ ⟨fo_PB, fun U hU hW9 => fo_pre hP hS C.vk C.ok C.zz hU hW9⟩ rfl hn (hl9.1.trans C.nl) rfl (lv_room hW) d ⟨hf.1, hf.2⟩) hS (fun q _ h => h) (fun q h => h) (fun r u t H1 locs1 ht hvm hw hB hz1 hk1 hS1 => ?_)
  · obtain ⟨I', D', J', X'⟩ := u
    exact k r I' D' J' X' hw H1 locs1 ls (by rw [← ht]; exact hB) hS1 hl9
theorem fo_qvf (C : fo_C Λ K cc own nL) {post : (UInt32) → fo_Mi → fo_Md → fo_Mj → fo_Mi → Prop} (d : decode cc pc = .ok (.invokevirtual idx, 3)) (hM : fk_f l y bytes maxL fr lo Λ (.ref (Λ.2.2.1 id) :: As) I D J X post) (hl : fo_lv own idx y bytes maxL (some .float) n) (hk : fo_k id = ci) (hcl : (vwCl[ci]?).map (fun q => q.1) = some y.cls) (hci : ci < 20) (hn : As.length = n) (hR : fr + 1 ≤ R.frames ∧ 8 + (maxL + 11) + lo ≤ R.locals) (hf : cs ≤ R.cells ∧ ss ≤ R.slots) (st : List Value) (hst : st0 = As.reverse ++ .ref (Λ.2.2.1 id) :: st) (hW : (st.map fun v => v.category).sum ≤ 8) (n' : Nat) (hn' : pc + 3 = n') (k : ∀ (r : UInt32) (I' : fo_Mi) (D' : fo_Md) (J' : fo_Mj) (X' : fo_Mi), post r I' D' J' X' → fo_G l Λ R K cs ss n' lv (.float r :: st) I' D' J' X') : fo_G l Λ R K cs ss pc lv st0 I D J X := by
  intro H locs ls hP hS hl9
  subst hn'
  subst hst
  refine va_callf (va_runV (As := As) (rest := st) C.fix hM (cwV n C.2.2.2.2.1 hl.1 rfl rfl rfl ⟨rfl, hl.2⟩ hR) ⟨fo_PB, by obtain ⟨q, hq, hq1⟩ : ∃ q, vwCl[ci]? = some q ∧ q.1 = y.cls := (by cases hz : vwCl[ci]? with | none => (rw [hz] at hcl; cases hcl) | some q => (rw [hz] at hcl; exact ⟨q, rfl, Option.some.inj hcl⟩)); rw [← hq1]; exact va_recv C.vk hP hq (fo_obj hk hci), fun U hU hW9 => fo_pre hP hS C.vk C.ok C.zz hU hW9⟩ rfl hn (hl9.1.trans C.nl) rfl (lv_room hW) d ⟨hf.1, hf.2⟩) hS (fun q _ h => h) (fun q h => h) (fun r u t H1 locs1 ht hvm hw hB hz1 hk1 hS1 => ?_)
  · obtain ⟨I', D', J', X'⟩ := u
    exact k r I' D' J' X' hw H1 locs1 ls (by rw [← ht]; exact hB) hS1 hl9
theorem fo_qsf (C : fo_C Λ K cc own nL) {post : (UInt32) → fo_Mi → fo_Md → fo_Mj → fo_Mi → Prop} (d : decode cc pc = .ok (.invokestatic idx, 3)) (hM : fk_f l y bytes maxL fr lo Λ As I D J X post) (hl : fo_ls own idx y bytes maxL (some .float) n) (hn : As.length = n) (hR : fr + 1 ≤ R.frames ∧ 8 + (maxL + 11) + lo ≤ R.locals) (hf : cs ≤ R.cells ∧ ss ≤ R.slots) (st : List Value) (hst : st0 = As.reverse ++ st) (hW : (st.map fun v => v.category).sum ≤ 8) (n' : Nat) (hn' : pc + 3 = n') (k : ∀ (r : UInt32) (I' : fo_Mi) (D' : fo_Md) (J' : fo_Mj) (X' : fo_Mi), post r I' D' J' X' → fo_G l Λ R K cs ss n' lv (.float r :: st) I' D' J' X') : fo_G l Λ R K cs ss pc lv st0 I D J X := by
  intro H locs ls hP hS hl9
  subst hn'
  subst hst
  refine va_callf (va_runS (As := As) (rest := st) C.fix hM (cwS n C.2.2.2.2.1 hl.1 rfl rfl rfl hl.2 hR) ⟨fo_PB, fun U hU hW9 => fo_pre hP hS C.vk C.ok C.zz hU hW9⟩ rfl hn (hl9.1.trans C.nl) rfl (lv_room hW) d ⟨hf.1, hf.2⟩) hS (fun q _ h => h) (fun q h => h) (fun r u t H1 locs1 ht hvm hw hB hz1 hk1 hS1 => ?_)
  · obtain ⟨I', D', J', X'⟩ := u
    exact k r I' D' J' X' hw H1 locs1 ls (by rw [← ht]; exact hB) hS1 hl9
theorem fo_qnf (C : fo_C Λ K cc own nL) {post : (UInt32) → fo_Mi → fo_Md → fo_Mj → fo_Mi → Prop} (d : decode cc pc = .ok (.invokestatic idx, 3)) (hM : fk_f l y bytes maxL fr lo Λ As I D J X post) (hl : fo_ln own idx y bytes maxL (some .float) n) (hn : As.length = n) (hR : fr + 1 ≤ R.frames ∧ 8 + (maxL + 11) + lo ≤ R.locals) (hf : cs ≤ R.cells ∧ ss ≤ R.slots) (st : List Value) (hst : st0 = As.reverse ++ st) (hW : (st.map fun v => v.category).sum ≤ 8) (n' : Nat) (hn' : pc + 3 = n') (k : ∀ (r : UInt32) (I' : fo_Mi) (D' : fo_Md) (J' : fo_Mj) (X' : fo_Mi), post r I' D' J' X' → fo_G l Λ R K cs ss n' lv (.float r :: st) I' D' J' X') : fo_G l Λ R K cs ss pc lv st0 I D J X := by
  intro H locs ls hP hS hl9
  subst hn'
  subst hst
  refine va_callf (va_runSN (As := As) (rest := st) C.fix hM ⟨va_cnB n C.2.2.2.2.1 (fo_gl (fun w hw => (List.mem_cons.mp hw).elim (fun q => by rw [q]; exact hl.2.2.2.1) (fun q => q))) rfl rfl rfl (C.zz.2.2.2.2.1 _ hl.1) (C.2.2.2.2.1 _ hl.2.1) hl.2.2.2.2 hR, C.2.2.2.2.1 _ hl.2.2.1, trivial⟩ ⟨fo_PB, fun U hU hW9 => fo_pre hP hS C.vk C.ok C.zz hU hW9⟩ rfl hn (hl9.1.trans C.nl) rfl (lv_room hW) d ⟨hf.1, hf.2⟩) hS (fun q _ h => h) (fun q h => h) (fun r u t H1 locs1 ht hvm hw hB hz1 hk1 hS1 => ?_)
  · obtain ⟨I', D', J', X'⟩ := u
    exact k r I' D' J' X' hw H1 locs1 ls (by rw [← ht]; exact hB) hS1 hl9
theorem fo_qvv (C : fo_C Λ K cc own nL) {post : fo_Mi → fo_Md → fo_Mj → fo_Mi → Prop} (d : decode cc pc = .ok (.invokevirtual idx, 3)) (hM : fk_v l y bytes maxL fr lo Λ (.ref (Λ.2.2.1 id) :: As) I D J X post) (hl : fo_lv own idx y bytes maxL none n) (hk : fo_k id = ci) (hcl : (vwCl[ci]?).map (fun q => q.1) = some y.cls) (hci : ci < 20) (hn : As.length = n) (hR : fr + 1 ≤ R.frames ∧ 8 + (maxL + 11) + lo ≤ R.locals) (hf : cs ≤ R.cells ∧ ss ≤ R.slots) (st : List Value) (hst : st0 = As.reverse ++ .ref (Λ.2.2.1 id) :: st) (hW : (st.map fun v => v.category).sum ≤ 8) (n' : Nat) (hn' : pc + 3 = n') (k : ∀ (I' : fo_Mi) (D' : fo_Md) (J' : fo_Mj) (X' : fo_Mi), post I' D' J' X' → fo_G l Λ R K cs ss n' lv (st) I' D' J' X') : fo_G l Λ R K cs ss pc lv st0 I D J X := by
  intro H locs ls hP hS hl9
  subst hn'
  subst hst
  refine va_callv (va_runV (As := As) (rest := st) C.fix hM (cwV n C.2.2.2.2.1 hl.1 rfl rfl rfl ⟨rfl, hl.2⟩ hR) ⟨fo_PB, by obtain ⟨q, hq, hq1⟩ : ∃ q, vwCl[ci]? = some q ∧ q.1 = y.cls := (by cases hz : vwCl[ci]? with | none => (rw [hz] at hcl; cases hcl) | some q => (rw [hz] at hcl; exact ⟨q, rfl, Option.some.inj hcl⟩)); rw [← hq1]; exact va_recv C.vk hP hq (fo_obj hk hci), fun U hU hW9 => fo_pre hP hS C.vk C.ok C.zz hU hW9⟩ rfl hn (hl9.1.trans C.nl) rfl (lv_room hW) d ⟨hf.1, hf.2⟩) hS (fun q _ h => h) (fun q h => h) (fun u t H1 locs1 ht hvm hw hB hz1 hk1 hS1 => ?_)
  · obtain ⟨I', D', J', X'⟩ := u
    exact k I' D' J' X' hw H1 locs1 ls (by rw [← ht]; exact hB) hS1 hl9
theorem fo_qsv (C : fo_C Λ K cc own nL) {post : fo_Mi → fo_Md → fo_Mj → fo_Mi → Prop} (d : decode cc pc = .ok (.invokestatic idx, 3)) (hM : fk_v l y bytes maxL fr lo Λ As I D J X post) (hl : fo_ls own idx y bytes maxL none n) (hn : As.length = n) (hR : fr + 1 ≤ R.frames ∧ 8 + (maxL + 11) + lo ≤ R.locals) (hf : cs ≤ R.cells ∧ ss ≤ R.slots) (st : List Value) (hst : st0 = As.reverse ++ st) (hW : (st.map fun v => v.category).sum ≤ 8) (n' : Nat) (hn' : pc + 3 = n') (k : ∀ (I' : fo_Mi) (D' : fo_Md) (J' : fo_Mj) (X' : fo_Mi), post I' D' J' X' → fo_G l Λ R K cs ss n' lv (st) I' D' J' X') : fo_G l Λ R K cs ss pc lv st0 I D J X := by
  intro H locs ls hP hS hl9
  subst hn'
  subst hst
  refine va_callv (va_runS (As := As) (rest := st) C.fix hM (cwS n C.2.2.2.2.1 hl.1 rfl rfl rfl hl.2 hR) ⟨fo_PB, fun U hU hW9 => fo_pre hP hS C.vk C.ok C.zz hU hW9⟩ rfl hn (hl9.1.trans C.nl) rfl (lv_room hW) d ⟨hf.1, hf.2⟩) hS (fun q _ h => h) (fun q h => h) (fun u t H1 locs1 ht hvm hw hB hz1 hk1 hS1 => ?_)
  · obtain ⟨I', D', J', X'⟩ := u
    exact k I' D' J' X' hw H1 locs1 ls (by rw [← ht]; exact hB) hS1 hl9
theorem fo_qnv (C : fo_C Λ K cc own nL) {post : fo_Mi → fo_Md → fo_Mj → fo_Mi → Prop} (d : decode cc pc = .ok (.invokestatic idx, 3)) (hM : fk_v l y bytes maxL fr lo Λ As I D J X post) (hl : fo_ln own idx y bytes maxL none n) (hn : As.length = n) (hR : fr + 1 ≤ R.frames ∧ 8 + (maxL + 11) + lo ≤ R.locals) (hf : cs ≤ R.cells ∧ ss ≤ R.slots) (st : List Value) (hst : st0 = As.reverse ++ st) (hW : (st.map fun v => v.category).sum ≤ 8) (n' : Nat) (hn' : pc + 3 = n') (k : ∀ (I' : fo_Mi) (D' : fo_Md) (J' : fo_Mj) (X' : fo_Mi), post I' D' J' X' → fo_G l Λ R K cs ss n' lv (st) I' D' J' X') : fo_G l Λ R K cs ss pc lv st0 I D J X := by
  intro H locs ls hP hS hl9
  subst hn'
  subst hst
  refine va_callv (va_runSN (As := As) (rest := st) C.fix hM ⟨va_cnB n C.2.2.2.2.1 (fo_gl (fun w hw => (List.mem_cons.mp hw).elim (fun q => by rw [q]; exact hl.2.2.2.1) (fun q => q))) rfl rfl rfl (C.zz.2.2.2.2.1 _ hl.1) (C.2.2.2.2.1 _ hl.2.1) hl.2.2.2.2 hR, C.2.2.2.2.1 _ hl.2.2.1, trivial⟩ ⟨fo_PB, fun U hU hW9 => fo_pre hP hS C.vk C.ok C.zz hU hW9⟩ rfl hn (hl9.1.trans C.nl) rfl (lv_room hW) d ⟨hf.1, hf.2⟩) hS (fun q _ h => h) (fun q h => h) (fun u t H1 locs1 ht hvm hw hB hz1 hk1 hS1 => ?_)
  · obtain ⟨I', D', J', X'⟩ := u
    exact k I' D' J' X' hw H1 locs1 ls (by rw [← ht]; exact hB) hS1 hl9
theorem fo_yvi (C : fo_C Λ K cc own nL) {ty : FieldType} {post : (Int32) → fo_Mi → fo_Md → fo_Mj → fo_Mi → Prop} {px : String → fo_Mi → fo_Md → fo_Mj → fo_Mi → Prop} (d : decode cc pc = .ok (.invokevirtual idx, 3)) (hM : fx_i l y bytes maxL ty fr lo mc ms Λ (.ref (Λ.2.2.1 id) :: As) I D J X post px) (hl : fo_lv own idx y bytes maxL (some ty) n) (hk : fo_k id = ci) (hcl : (vwCl[ci]?).map (fun q => q.1) = some y.cls) (hci : ci < 20) (hn : As.length = n) (hR : fr + 1 ≤ R.frames ∧ 8 + (maxL + 11) + lo ≤ R.locals) (hf : cs + mc ≤ R.cells ∧ ss + ms ≤ R.slots) (st : List Value) (hst : st0 = As.reverse ++ .ref (Λ.2.2.1 id) :: st) (hW : (st.map fun v => v.category).sum ≤ 8) (n' : Nat) (hn' : pc + 3 = n') (kx : ∀ (E : String) (I' : fo_Mi) (D' : fo_Md) (J' : fo_Mj) (X' : fo_Mi), px E I' D' J' X' → fo_T l Λ R K (cs + mc) (ss + ms) pc lv st E I' D' J' X') (k : ∀ (r : Int32) (I' : fo_Mi) (D' : fo_Md) (J' : fo_Mj) (X' : fo_Mi), post r I' D' J' X' → fo_G l Λ R K (cs + mc) (ss + ms) n' lv (.int r :: st) I' D' J' X') : fo_G l Λ R K cs ss pc lv st0 I D J X := by
  intro H locs ls hP hS hl9
  subst hn'
  subst hst
  refine vx_calli (vx_runV (As := As) (rest := st) C.fix hM (cwV n C.2.2.2.2.1 hl.1 rfl rfl rfl ⟨rfl, hl.2⟩ hR) ⟨fo_PB, by obtain ⟨q, hq, hq1⟩ : ∃ q, vwCl[ci]? = some q ∧ q.1 = y.cls := (by cases hz : vwCl[ci]? with | none => (rw [hz] at hcl; cases hcl) | some q => (rw [hz] at hcl; exact ⟨q, rfl, Option.some.inj hcl⟩)); rw [← hq1]; exact va_recv C.vk hP hq (fo_obj hk hci), fun U hU hW9 => fo_pre hP hS C.vk C.ok C.zz hU hW9⟩ rfl hn (hl9.1.trans C.nl) rfl (lv_room hW) d ⟨hf.1, hf.2⟩) hS (fun q _ h => h) (fun q h => h) (fun q _ h => h) (fun E ce q9 u t H1 locs1 ht hvm _ hB hz1 hk1 hS1 hc9 hv9 hcl9 => ?_) (fun r u t H1 locs1 ht hvm hw hB hz1 hk1 hS1 => ?_)
  · obtain ⟨I', D', J', X'⟩ := u
    exact kx E I' D' J' X' hB.1 H1 locs1 ls q9 ce (by rw [← ht]; exact hB.2) hS1 hl9 hc9 hv9 hcl9
  · obtain ⟨I', D', J', X'⟩ := u
    exact k r I' D' J' X' hw H1 locs1 ls (by rw [← ht]; exact hB) hS1 hl9
theorem fo_ysi (C : fo_C Λ K cc own nL) {ty : FieldType} {post : (Int32) → fo_Mi → fo_Md → fo_Mj → fo_Mi → Prop} {px : String → fo_Mi → fo_Md → fo_Mj → fo_Mi → Prop} (d : decode cc pc = .ok (.invokestatic idx, 3)) (hM : fx_i l y bytes maxL ty fr lo mc ms Λ As I D J X post px) (hl : fo_ls own idx y bytes maxL (some ty) n) (hn : As.length = n) (hR : fr + 1 ≤ R.frames ∧ 8 + (maxL + 11) + lo ≤ R.locals) (hf : cs + mc ≤ R.cells ∧ ss + ms ≤ R.slots) (st : List Value) (hst : st0 = As.reverse ++ st) (hW : (st.map fun v => v.category).sum ≤ 8) (n' : Nat) (hn' : pc + 3 = n') (kx : ∀ (E : String) (I' : fo_Mi) (D' : fo_Md) (J' : fo_Mj) (X' : fo_Mi), px E I' D' J' X' → fo_T l Λ R K (cs + mc) (ss + ms) pc lv st E I' D' J' X') (k : ∀ (r : Int32) (I' : fo_Mi) (D' : fo_Md) (J' : fo_Mj) (X' : fo_Mi), post r I' D' J' X' → fo_G l Λ R K (cs + mc) (ss + ms) n' lv (.int r :: st) I' D' J' X') : fo_G l Λ R K cs ss pc lv st0 I D J X := by
  intro H locs ls hP hS hl9
  subst hn'
  subst hst
  refine vx_calli (vx_runS (As := As) (rest := st) C.fix hM (cwS n C.2.2.2.2.1 hl.1 rfl rfl rfl hl.2 hR) ⟨fo_PB, fun U hU hW9 => fo_pre hP hS C.vk C.ok C.zz hU hW9⟩ rfl hn (hl9.1.trans C.nl) rfl (lv_room hW) d ⟨hf.1, hf.2⟩) hS (fun q _ h => h) (fun q h => h) (fun q _ h => h) (fun E ce q9 u t H1 locs1 ht hvm _ hB hz1 hk1 hS1 hc9 hv9 hcl9 => ?_) (fun r u t H1 locs1 ht hvm hw hB hz1 hk1 hS1 => ?_)
  · obtain ⟨I', D', J', X'⟩ := u
    exact kx E I' D' J' X' hB.1 H1 locs1 ls q9 ce (by rw [← ht]; exact hB.2) hS1 hl9 hc9 hv9 hcl9
  · obtain ⟨I', D', J', X'⟩ := u
    exact k r I' D' J' X' hw H1 locs1 ls (by rw [← ht]; exact hB) hS1 hl9
theorem fo_yvd (C : fo_C Λ K cc own nL) {post : (UInt64) → fo_Mi → fo_Md → fo_Mj → fo_Mi → Prop} {px : String → fo_Mi → fo_Md → fo_Mj → fo_Mi → Prop} (d : decode cc pc = .ok (.invokevirtual idx, 3)) (hM : fx_d l y bytes maxL fr lo mc ms Λ (.ref (Λ.2.2.1 id) :: As) I D J X post px) (hl : fo_lv own idx y bytes maxL (some .double) n) (hk : fo_k id = ci) (hcl : (vwCl[ci]?).map (fun q => q.1) = some y.cls) (hci : ci < 20) (hn : As.length = n) (hR : fr + 1 ≤ R.frames ∧ 8 + (maxL + 11) + lo ≤ R.locals) (hf : cs + mc ≤ R.cells ∧ ss + ms ≤ R.slots) (st : List Value) (hst : st0 = As.reverse ++ .ref (Λ.2.2.1 id) :: st) (hW : (st.map fun v => v.category).sum ≤ 8) (n' : Nat) (hn' : pc + 3 = n') (kx : ∀ (E : String) (I' : fo_Mi) (D' : fo_Md) (J' : fo_Mj) (X' : fo_Mi), px E I' D' J' X' → fo_T l Λ R K (cs + mc) (ss + ms) pc lv st E I' D' J' X') (k : ∀ (r : UInt64) (I' : fo_Mi) (D' : fo_Md) (J' : fo_Mj) (X' : fo_Mi), post r I' D' J' X' → fo_G l Λ R K (cs + mc) (ss + ms) n' lv (.double r :: st) I' D' J' X') : fo_G l Λ R K cs ss pc lv st0 I D J X := by
  intro H locs ls hP hS hl9
  subst hn'
  subst hst
  refine vx_calld (vx_runV (As := As) (rest := st) C.fix hM (cwV n C.2.2.2.2.1 hl.1 rfl rfl rfl ⟨rfl, hl.2⟩ hR) ⟨fo_PB, by obtain ⟨q, hq, hq1⟩ : ∃ q, vwCl[ci]? = some q ∧ q.1 = y.cls := (by cases hz : vwCl[ci]? with | none => (rw [hz] at hcl; cases hcl) | some q => (rw [hz] at hcl; exact ⟨q, rfl, Option.some.inj hcl⟩)); rw [← hq1]; exact va_recv C.vk hP hq (fo_obj hk hci), fun U hU hW9 => fo_pre hP hS C.vk C.ok C.zz hU hW9⟩ rfl hn (hl9.1.trans C.nl) rfl (lv_room hW) d ⟨hf.1, hf.2⟩) hS (fun q _ h => h) (fun q h => h) (fun q _ h => h) (fun E ce q9 u t H1 locs1 ht hvm _ hB hz1 hk1 hS1 hc9 hv9 hcl9 => ?_) (fun r u t H1 locs1 ht hvm hw hB hz1 hk1 hS1 => ?_)
  · obtain ⟨I', D', J', X'⟩ := u
    exact kx E I' D' J' X' hB.1 H1 locs1 ls q9 ce (by rw [← ht]; exact hB.2) hS1 hl9 hc9 hv9 hcl9
  · obtain ⟨I', D', J', X'⟩ := u
    exact k r I' D' J' X' hw H1 locs1 ls (by rw [← ht]; exact hB) hS1 hl9
theorem fo_ysd (C : fo_C Λ K cc own nL) {post : (UInt64) → fo_Mi → fo_Md → fo_Mj → fo_Mi → Prop} {px : String → fo_Mi → fo_Md → fo_Mj → fo_Mi → Prop} (d : decode cc pc = .ok (.invokestatic idx, 3)) (hM : fx_d l y bytes maxL fr lo mc ms Λ As I D J X post px) (hl : fo_ls own idx y bytes maxL (some .double) n) (hn : As.length = n) (hR : fr + 1 ≤ R.frames ∧ 8 + (maxL + 11) + lo ≤ R.locals) (hf : cs + mc ≤ R.cells ∧ ss + ms ≤ R.slots) (st : List Value) (hst : st0 = As.reverse ++ st) (hW : (st.map fun v => v.category).sum ≤ 8) (n' : Nat) (hn' : pc + 3 = n') (kx : ∀ (E : String) (I' : fo_Mi) (D' : fo_Md) (J' : fo_Mj) (X' : fo_Mi), px E I' D' J' X' → fo_T l Λ R K (cs + mc) (ss + ms) pc lv st E I' D' J' X') (k : ∀ (r : UInt64) (I' : fo_Mi) (D' : fo_Md) (J' : fo_Mj) (X' : fo_Mi), post r I' D' J' X' → fo_G l Λ R K (cs + mc) (ss + ms) n' lv (.double r :: st) I' D' J' X') : fo_G l Λ R K cs ss pc lv st0 I D J X := by
  intro H locs ls hP hS hl9
  subst hn'
  subst hst
  refine vx_calld (vx_runS (As := As) (rest := st) C.fix hM (cwS n C.2.2.2.2.1 hl.1 rfl rfl rfl hl.2 hR) ⟨fo_PB, fun U hU hW9 => fo_pre hP hS C.vk C.ok C.zz hU hW9⟩ rfl hn (hl9.1.trans C.nl) rfl (lv_room hW) d ⟨hf.1, hf.2⟩) hS (fun q _ h => h) (fun q h => h) (fun q _ h => h) (fun E ce q9 u t H1 locs1 ht hvm _ hB hz1 hk1 hS1 hc9 hv9 hcl9 => ?_) (fun r u t H1 locs1 ht hvm hw hB hz1 hk1 hS1 => ?_)
  · obtain ⟨I', D', J', X'⟩ := u
    exact kx E I' D' J' X' hB.1 H1 locs1 ls q9 ce (by rw [← ht]; exact hB.2) hS1 hl9 hc9 hv9 hcl9
  · obtain ⟨I', D', J', X'⟩ := u
    exact k r I' D' J' X' hw H1 locs1 ls (by rw [← ht]; exact hB) hS1 hl9
theorem fo_yvl (C : fo_C Λ K cc own nL) {post : (Int64) → fo_Mi → fo_Md → fo_Mj → fo_Mi → Prop} {px : String → fo_Mi → fo_Md → fo_Mj → fo_Mi → Prop} (d : decode cc pc = .ok (.invokevirtual idx, 3)) (hM : fx_l l y bytes maxL fr lo mc ms Λ (.ref (Λ.2.2.1 id) :: As) I D J X post px) (hl : fo_lv own idx y bytes maxL (some .long) n) (hk : fo_k id = ci) (hcl : (vwCl[ci]?).map (fun q => q.1) = some y.cls) (hci : ci < 20) (hn : As.length = n) (hR : fr + 1 ≤ R.frames ∧ 8 + (maxL + 11) + lo ≤ R.locals) (hf : cs + mc ≤ R.cells ∧ ss + ms ≤ R.slots) (st : List Value) (hst : st0 = As.reverse ++ .ref (Λ.2.2.1 id) :: st) (hW : (st.map fun v => v.category).sum ≤ 8) (n' : Nat) (hn' : pc + 3 = n') (kx : ∀ (E : String) (I' : fo_Mi) (D' : fo_Md) (J' : fo_Mj) (X' : fo_Mi), px E I' D' J' X' → fo_T l Λ R K (cs + mc) (ss + ms) pc lv st E I' D' J' X') (k : ∀ (r : Int64) (I' : fo_Mi) (D' : fo_Md) (J' : fo_Mj) (X' : fo_Mi), post r I' D' J' X' → fo_G l Λ R K (cs + mc) (ss + ms) n' lv (.long r :: st) I' D' J' X') : fo_G l Λ R K cs ss pc lv st0 I D J X := by
  intro H locs ls hP hS hl9
  subst hn'
  subst hst
  refine vx_calll (vx_runV (As := As) (rest := st) C.fix hM (cwV n C.2.2.2.2.1 hl.1 rfl rfl rfl ⟨rfl, hl.2⟩ hR) ⟨fo_PB, by obtain ⟨q, hq, hq1⟩ : ∃ q, vwCl[ci]? = some q ∧ q.1 = y.cls := (by cases hz : vwCl[ci]? with | none => (rw [hz] at hcl; cases hcl) | some q => (rw [hz] at hcl; exact ⟨q, rfl, Option.some.inj hcl⟩)); rw [← hq1]; exact va_recv C.vk hP hq (fo_obj hk hci), fun U hU hW9 => fo_pre hP hS C.vk C.ok C.zz hU hW9⟩ rfl hn (hl9.1.trans C.nl) rfl (lv_room hW) d ⟨hf.1, hf.2⟩) hS (fun q _ h => h) (fun q h => h) (fun q _ h => h) (fun E ce q9 u t H1 locs1 ht hvm _ hB hz1 hk1 hS1 hc9 hv9 hcl9 => ?_) (fun r u t H1 locs1 ht hvm hw hB hz1 hk1 hS1 => ?_)
  · obtain ⟨I', D', J', X'⟩ := u
    exact kx E I' D' J' X' hB.1 H1 locs1 ls q9 ce (by rw [← ht]; exact hB.2) hS1 hl9 hc9 hv9 hcl9
  · obtain ⟨I', D', J', X'⟩ := u
    exact k r I' D' J' X' hw H1 locs1 ls (by rw [← ht]; exact hB) hS1 hl9
theorem fo_ysl (C : fo_C Λ K cc own nL) {post : (Int64) → fo_Mi → fo_Md → fo_Mj → fo_Mi → Prop} {px : String → fo_Mi → fo_Md → fo_Mj → fo_Mi → Prop} (d : decode cc pc = .ok (.invokestatic idx, 3)) (hM : fx_l l y bytes maxL fr lo mc ms Λ As I D J X post px) (hl : fo_ls own idx y bytes maxL (some .long) n) (hn : As.length = n) (hR : fr + 1 ≤ R.frames ∧ 8 + (maxL + 11) + lo ≤ R.locals) (hf : cs + mc ≤ R.cells ∧ ss + ms ≤ R.slots) (st : List Value) (hst : st0 = As.reverse ++ st) (hW : (st.map fun v => v.category).sum ≤ 8) (n' : Nat) (hn' : pc + 3 = n') (kx : ∀ (E : String) (I' : fo_Mi) (D' : fo_Md) (J' : fo_Mj) (X' : fo_Mi), px E I' D' J' X' → fo_T l Λ R K (cs + mc) (ss + ms) pc lv st E I' D' J' X') (k : ∀ (r : Int64) (I' : fo_Mi) (D' : fo_Md) (J' : fo_Mj) (X' : fo_Mi), post r I' D' J' X' → fo_G l Λ R K (cs + mc) (ss + ms) n' lv (.long r :: st) I' D' J' X') : fo_G l Λ R K cs ss pc lv st0 I D J X := by
  intro H locs ls hP hS hl9
  subst hn'
  subst hst
  refine vx_calll (vx_runS (As := As) (rest := st) C.fix hM (cwS n C.2.2.2.2.1 hl.1 rfl rfl rfl hl.2 hR) ⟨fo_PB, fun U hU hW9 => fo_pre hP hS C.vk C.ok C.zz hU hW9⟩ rfl hn (hl9.1.trans C.nl) rfl (lv_room hW) d ⟨hf.1, hf.2⟩) hS (fun q _ h => h) (fun q h => h) (fun q _ h => h) (fun E ce q9 u t H1 locs1 ht hvm _ hB hz1 hk1 hS1 hc9 hv9 hcl9 => ?_) (fun r u t H1 locs1 ht hvm hw hB hz1 hk1 hS1 => ?_)
  · obtain ⟨I', D', J', X'⟩ := u
    exact kx E I' D' J' X' hB.1 H1 locs1 ls q9 ce (by rw [← ht]; exact hB.2) hS1 hl9 hc9 hv9 hcl9
  · obtain ⟨I', D', J', X'⟩ := u
    exact k r I' D' J' X' hw H1 locs1 ls (by rw [← ht]; exact hB) hS1 hl9
theorem fo_yvf (C : fo_C Λ K cc own nL) {post : (UInt32) → fo_Mi → fo_Md → fo_Mj → fo_Mi → Prop} {px : String → fo_Mi → fo_Md → fo_Mj → fo_Mi → Prop} (d : decode cc pc = .ok (.invokevirtual idx, 3)) (hM : fx_f l y bytes maxL fr lo mc ms Λ (.ref (Λ.2.2.1 id) :: As) I D J X post px) (hl : fo_lv own idx y bytes maxL (some .float) n) (hk : fo_k id = ci) (hcl : (vwCl[ci]?).map (fun q => q.1) = some y.cls) (hci : ci < 20) (hn : As.length = n) (hR : fr + 1 ≤ R.frames ∧ 8 + (maxL + 11) + lo ≤ R.locals) (hf : cs + mc ≤ R.cells ∧ ss + ms ≤ R.slots) (st : List Value) (hst : st0 = As.reverse ++ .ref (Λ.2.2.1 id) :: st) (hW : (st.map fun v => v.category).sum ≤ 8) (n' : Nat) (hn' : pc + 3 = n') (kx : ∀ (E : String) (I' : fo_Mi) (D' : fo_Md) (J' : fo_Mj) (X' : fo_Mi), px E I' D' J' X' → fo_T l Λ R K (cs + mc) (ss + ms) pc lv st E I' D' J' X') (k : ∀ (r : UInt32) (I' : fo_Mi) (D' : fo_Md) (J' : fo_Mj) (X' : fo_Mi), post r I' D' J' X' → fo_G l Λ R K (cs + mc) (ss + ms) n' lv (.float r :: st) I' D' J' X') : fo_G l Λ R K cs ss pc lv st0 I D J X := by
  intro H locs ls hP hS hl9
  subst hn'
  subst hst
  refine vx_callf (vx_runV (As := As) (rest := st) C.fix hM (cwV n C.2.2.2.2.1 hl.1 rfl rfl rfl ⟨rfl, hl.2⟩ hR) ⟨fo_PB, by obtain ⟨q, hq, hq1⟩ : ∃ q, vwCl[ci]? = some q ∧ q.1 = y.cls := (by cases hz : vwCl[ci]? with | none => (rw [hz] at hcl; cases hcl) | some q => (rw [hz] at hcl; exact ⟨q, rfl, Option.some.inj hcl⟩)); rw [← hq1]; exact va_recv C.vk hP hq (fo_obj hk hci), fun U hU hW9 => fo_pre hP hS C.vk C.ok C.zz hU hW9⟩ rfl hn (hl9.1.trans C.nl) rfl (lv_room hW) d ⟨hf.1, hf.2⟩) hS (fun q _ h => h) (fun q h => h) (fun q _ h => h) (fun E ce q9 u t H1 locs1 ht hvm _ hB hz1 hk1 hS1 hc9 hv9 hcl9 => ?_) (fun r u t H1 locs1 ht hvm hw hB hz1 hk1 hS1 => ?_)
  · obtain ⟨I', D', J', X'⟩ := u
    exact kx E I' D' J' X' hB.1 H1 locs1 ls q9 ce (by rw [← ht]; exact hB.2) hS1 hl9 hc9 hv9 hcl9
  · obtain ⟨I', D', J', X'⟩ := u
    exact k r I' D' J' X' hw H1 locs1 ls (by rw [← ht]; exact hB) hS1 hl9
theorem fo_ysf (C : fo_C Λ K cc own nL) {post : (UInt32) → fo_Mi → fo_Md → fo_Mj → fo_Mi → Prop} {px : String → fo_Mi → fo_Md → fo_Mj → fo_Mi → Prop} (d : decode cc pc = .ok (.invokestatic idx, 3)) (hM : fx_f l y bytes maxL fr lo mc ms Λ As I D J X post px) (hl : fo_ls own idx y bytes maxL (some .float) n) (hn : As.length = n) (hR : fr + 1 ≤ R.frames ∧ 8 + (maxL + 11) + lo ≤ R.locals) (hf : cs + mc ≤ R.cells ∧ ss + ms ≤ R.slots) (st : List Value) (hst : st0 = As.reverse ++ st) (hW : (st.map fun v => v.category).sum ≤ 8) (n' : Nat) (hn' : pc + 3 = n') (kx : ∀ (E : String) (I' : fo_Mi) (D' : fo_Md) (J' : fo_Mj) (X' : fo_Mi), px E I' D' J' X' → fo_T l Λ R K (cs + mc) (ss + ms) pc lv st E I' D' J' X') (k : ∀ (r : UInt32) (I' : fo_Mi) (D' : fo_Md) (J' : fo_Mj) (X' : fo_Mi), post r I' D' J' X' → fo_G l Λ R K (cs + mc) (ss + ms) n' lv (.float r :: st) I' D' J' X') : fo_G l Λ R K cs ss pc lv st0 I D J X := by
  intro H locs ls hP hS hl9
  subst hn'
  subst hst
  refine vx_callf (vx_runS (As := As) (rest := st) C.fix hM (cwS n C.2.2.2.2.1 hl.1 rfl rfl rfl hl.2 hR) ⟨fo_PB, fun U hU hW9 => fo_pre hP hS C.vk C.ok C.zz hU hW9⟩ rfl hn (hl9.1.trans C.nl) rfl (lv_room hW) d ⟨hf.1, hf.2⟩) hS (fun q _ h => h) (fun q h => h) (fun q _ h => h) (fun E ce q9 u t H1 locs1 ht hvm _ hB hz1 hk1 hS1 hc9 hv9 hcl9 => ?_) (fun r u t H1 locs1 ht hvm hw hB hz1 hk1 hS1 => ?_)
  · obtain ⟨I', D', J', X'⟩ := u
    exact kx E I' D' J' X' hB.1 H1 locs1 ls q9 ce (by rw [← ht]; exact hB.2) hS1 hl9 hc9 hv9 hcl9
  · obtain ⟨I', D', J', X'⟩ := u
    exact k r I' D' J' X' hw H1 locs1 ls (by rw [← ht]; exact hB) hS1 hl9
theorem fo_yvv (C : fo_C Λ K cc own nL) {post : fo_Mi → fo_Md → fo_Mj → fo_Mi → Prop} {px : String → fo_Mi → fo_Md → fo_Mj → fo_Mi → Prop} (d : decode cc pc = .ok (.invokevirtual idx, 3)) (hM : fx_v l y bytes maxL fr lo mc ms Λ (.ref (Λ.2.2.1 id) :: As) I D J X post px) (hl : fo_lv own idx y bytes maxL none n) (hk : fo_k id = ci) (hcl : (vwCl[ci]?).map (fun q => q.1) = some y.cls) (hci : ci < 20) (hn : As.length = n) (hR : fr + 1 ≤ R.frames ∧ 8 + (maxL + 11) + lo ≤ R.locals) (hf : cs + mc ≤ R.cells ∧ ss + ms ≤ R.slots) (st : List Value) (hst : st0 = As.reverse ++ .ref (Λ.2.2.1 id) :: st) (hW : (st.map fun v => v.category).sum ≤ 8) (n' : Nat) (hn' : pc + 3 = n') (kx : ∀ (E : String) (I' : fo_Mi) (D' : fo_Md) (J' : fo_Mj) (X' : fo_Mi), px E I' D' J' X' → fo_T l Λ R K (cs + mc) (ss + ms) pc lv st E I' D' J' X') (k : ∀ (I' : fo_Mi) (D' : fo_Md) (J' : fo_Mj) (X' : fo_Mi), post I' D' J' X' → fo_G l Λ R K (cs + mc) (ss + ms) n' lv (st) I' D' J' X') : fo_G l Λ R K cs ss pc lv st0 I D J X := by
  intro H locs ls hP hS hl9
  subst hn'
  subst hst
  refine vx_callv (vx_runV (As := As) (rest := st) C.fix hM (cwV n C.2.2.2.2.1 hl.1 rfl rfl rfl ⟨rfl, hl.2⟩ hR) ⟨fo_PB, by obtain ⟨q, hq, hq1⟩ : ∃ q, vwCl[ci]? = some q ∧ q.1 = y.cls := (by cases hz : vwCl[ci]? with | none => (rw [hz] at hcl; cases hcl) | some q => (rw [hz] at hcl; exact ⟨q, rfl, Option.some.inj hcl⟩)); rw [← hq1]; exact va_recv C.vk hP hq (fo_obj hk hci), fun U hU hW9 => fo_pre hP hS C.vk C.ok C.zz hU hW9⟩ rfl hn (hl9.1.trans C.nl) rfl (lv_room hW) d ⟨hf.1, hf.2⟩) hS (fun q _ h => h) (fun q h => h) (fun q _ h => h) (fun E ce q9 u t H1 locs1 ht hvm _ hB hz1 hk1 hS1 hc9 hv9 hcl9 => ?_) (fun u t H1 locs1 ht hvm hw hB hz1 hk1 hS1 => ?_)
  · obtain ⟨I', D', J', X'⟩ := u
    exact kx E I' D' J' X' hB.1 H1 locs1 ls q9 ce (by rw [← ht]; exact hB.2) hS1 hl9 hc9 hv9 hcl9
  · obtain ⟨I', D', J', X'⟩ := u
    exact k I' D' J' X' hw H1 locs1 ls (by rw [← ht]; exact hB) hS1 hl9
theorem fo_ysv (C : fo_C Λ K cc own nL) {post : fo_Mi → fo_Md → fo_Mj → fo_Mi → Prop} {px : String → fo_Mi → fo_Md → fo_Mj → fo_Mi → Prop} (d : decode cc pc = .ok (.invokestatic idx, 3)) (hM : fx_v l y bytes maxL fr lo mc ms Λ As I D J X post px) (hl : fo_ls own idx y bytes maxL none n) (hn : As.length = n) (hR : fr + 1 ≤ R.frames ∧ 8 + (maxL + 11) + lo ≤ R.locals) (hf : cs + mc ≤ R.cells ∧ ss + ms ≤ R.slots) (st : List Value) (hst : st0 = As.reverse ++ st) (hW : (st.map fun v => v.category).sum ≤ 8) (n' : Nat) (hn' : pc + 3 = n') (kx : ∀ (E : String) (I' : fo_Mi) (D' : fo_Md) (J' : fo_Mj) (X' : fo_Mi), px E I' D' J' X' → fo_T l Λ R K (cs + mc) (ss + ms) pc lv st E I' D' J' X') (k : ∀ (I' : fo_Mi) (D' : fo_Md) (J' : fo_Mj) (X' : fo_Mi), post I' D' J' X' → fo_G l Λ R K (cs + mc) (ss + ms) n' lv (st) I' D' J' X') : fo_G l Λ R K cs ss pc lv st0 I D J X := by
  intro H locs ls hP hS hl9
  subst hn'
  subst hst
  refine vx_callv (vx_runS (As := As) (rest := st) C.fix hM (cwS n C.2.2.2.2.1 hl.1 rfl rfl rfl hl.2 hR) ⟨fo_PB, fun U hU hW9 => fo_pre hP hS C.vk C.ok C.zz hU hW9⟩ rfl hn (hl9.1.trans C.nl) rfl (lv_room hW) d ⟨hf.1, hf.2⟩) hS (fun q _ h => h) (fun q h => h) (fun q _ h => h) (fun E ce q9 u t H1 locs1 ht hvm _ hB hz1 hk1 hS1 hc9 hv9 hcl9 => ?_) (fun u t H1 locs1 ht hvm hw hB hz1 hk1 hS1 => ?_)
  · obtain ⟨I', D', J', X'⟩ := u
    exact kx E I' D' J' X' hB.1 H1 locs1 ls q9 ce (by rw [← ht]; exact hB.2) hS1 hl9 hc9 hv9 hcl9
  · obtain ⟨I', D', J', X'⟩ := u
    exact k I' D' J' X' hw H1 locs1 ls (by rw [← ht]; exact hB) hS1 hl9
theorem fo_yvq (C : fo_C Λ K cc own nL) {ty : FieldType} {post : (Option Nat) → fo_Mi → fo_Md → fo_Mj → fo_Mi → Prop} {px : String → fo_Mi → fo_Md → fo_Mj → fo_Mi → Prop} (d : decode cc pc = .ok (.invokevirtual idx, 3)) (hM : fx_q l y bytes maxL ty fr lo mc ms Λ (.ref (Λ.2.2.1 id) :: As) I D J X post px) (hl : fo_lv own idx y bytes maxL (some ty) n) (hk : fo_k id = ci) (hcl : (vwCl[ci]?).map (fun q => q.1) = some y.cls) (hci : ci < 20) (hn : As.length = n) (hR : fr + 1 ≤ R.frames ∧ 8 + (maxL + 11) + lo ≤ R.locals) (hf : cs + mc ≤ R.cells ∧ ss + ms ≤ R.slots) (st : List Value) (hst : st0 = As.reverse ++ .ref (Λ.2.2.1 id) :: st) (hW : (st.map fun v => v.category).sum ≤ 8) (n' : Nat) (hn' : pc + 3 = n') (kx : ∀ (E : String) (I' : fo_Mi) (D' : fo_Md) (J' : fo_Mj) (X' : fo_Mi), px E I' D' J' X' → fo_T l Λ R K (cs + mc) (ss + ms) pc lv st E I' D' J' X') (k : ∀ (r : Option Nat) (I' : fo_Mi) (D' : fo_Md) (J' : fo_Mj) (X' : fo_Mi), post r I' D' J' X' → fo_G l Λ R K (cs + mc) (ss + ms) n' lv (va_rf r :: st) I' D' J' X') : fo_G l Λ R K cs ss pc lv st0 I D J X := by
  intro H locs ls hP hS hl9
  subst hn'
  subst hst
  refine vx_callq (vx_runV (As := As) (rest := st) C.fix hM (cwV n C.2.2.2.2.1 hl.1 rfl rfl rfl ⟨rfl, hl.2⟩ hR) ⟨fo_PB, by obtain ⟨q, hq, hq1⟩ : ∃ q, vwCl[ci]? = some q ∧ q.1 = y.cls := (by cases hz : vwCl[ci]? with | none => (rw [hz] at hcl; cases hcl) | some q => (rw [hz] at hcl; exact ⟨q, rfl, Option.some.inj hcl⟩)); rw [← hq1]; exact va_recv C.vk hP hq (fo_obj hk hci), fun U hU hW9 => fo_pre hP hS C.vk C.ok C.zz hU hW9⟩ rfl hn (hl9.1.trans C.nl) rfl (lv_room hW) d ⟨hf.1, hf.2⟩) hS (fun q _ h => h) (fun q h => h) (fun q _ h => h) (fun E ce q9 u t H1 locs1 ht hvm _ hB hz1 hk1 hS1 hc9 hv9 hcl9 => ?_) (fun r u t H1 locs1 ht hvm hw hB hz1 hk1 hS1 => ?_)
  · obtain ⟨I', D', J', X'⟩ := u
    exact kx E I' D' J' X' hB.1 H1 locs1 ls q9 ce (by rw [← ht]; exact hB.2) hS1 hl9 hc9 hv9 hcl9
  · obtain ⟨I', D', J', X'⟩ := u
    exact k r I' D' J' X' hw H1 locs1 ls (by rw [← ht]; exact hB) hS1 hl9
theorem fo_ysq (C : fo_C Λ K cc own nL) {ty : FieldType} {post : (Option Nat) → fo_Mi → fo_Md → fo_Mj → fo_Mi → Prop} {px : String → fo_Mi → fo_Md → fo_Mj → fo_Mi → Prop} (d : decode cc pc = .ok (.invokestatic idx, 3)) (hM : fx_q l y bytes maxL ty fr lo mc ms Λ As I D J X post px) (hl : fo_ls own idx y bytes maxL (some ty) n) (hn : As.length = n) (hR : fr + 1 ≤ R.frames ∧ 8 + (maxL + 11) + lo ≤ R.locals) (hf : cs + mc ≤ R.cells ∧ ss + ms ≤ R.slots) (st : List Value) (hst : st0 = As.reverse ++ st) (hW : (st.map fun v => v.category).sum ≤ 8) (n' : Nat) (hn' : pc + 3 = n') (kx : ∀ (E : String) (I' : fo_Mi) (D' : fo_Md) (J' : fo_Mj) (X' : fo_Mi), px E I' D' J' X' → fo_T l Λ R K (cs + mc) (ss + ms) pc lv st E I' D' J' X') (k : ∀ (r : Option Nat) (I' : fo_Mi) (D' : fo_Md) (J' : fo_Mj) (X' : fo_Mi), post r I' D' J' X' → fo_G l Λ R K (cs + mc) (ss + ms) n' lv (va_rf r :: st) I' D' J' X') : fo_G l Λ R K cs ss pc lv st0 I D J X := by
  intro H locs ls hP hS hl9
  subst hn'
  subst hst
  refine vx_callq (vx_runS (As := As) (rest := st) C.fix hM (cwS n C.2.2.2.2.1 hl.1 rfl rfl rfl hl.2 hR) ⟨fo_PB, fun U hU hW9 => fo_pre hP hS C.vk C.ok C.zz hU hW9⟩ rfl hn (hl9.1.trans C.nl) rfl (lv_room hW) d ⟨hf.1, hf.2⟩) hS (fun q _ h => h) (fun q h => h) (fun q _ h => h) (fun E ce q9 u t H1 locs1 ht hvm _ hB hz1 hk1 hS1 hc9 hv9 hcl9 => ?_) (fun r u t H1 locs1 ht hvm hw hB hz1 hk1 hS1 => ?_)
  · obtain ⟨I', D', J', X'⟩ := u
    exact kx E I' D' J' X' hB.1 H1 locs1 ls q9 ce (by rw [← ht]; exact hB.2) hS1 hl9 hc9 hv9 hcl9
  · obtain ⟨I', D', J', X'⟩ := u
    exact k r I' D' J' X' hw H1 locs1 ls (by rw [← ht]; exact hB) hS1 hl9
/-! MEMORY -/
def fo_kf (ci : Nat) (Cn : String) (T : u_T) (N : Nat) (ty0 : Nat → FieldType) : Prop := vwCl[ci]? = some (Cn, T, N) ∧ (∀ w ∈ u_ws Cn T N, w ∈ fo_W0) ∧ (∀ k, k < N → parseFieldDescriptor (T k).2.2.1 = some (ty0 k)) ∧ (∀ a, a < N → ∀ b, b < N → a ≠ b → (T a).2.1 ≠ (T b).2.1)
theorem fo_nle (id : Nat) : fo_n id ≤ 1200 := by
  unfold fo_n
  split
  · repeat' split
    all_goals omega
  · rw [List.getD_eq_getElem?_getD]
    rcases Nat.lt_or_ge (id - 605) 26 with q | q
    · exact (by decide +kernel : ∀ k, k < 26 → (fo_nt[k]?).getD 0 ≤ 1200) _ q
    · rw [List.getElem?_eq_none (by show 26 ≤ id - 605; omega)]
      exact Nat.zero_le _
theorem fo_ix {i : Nat} {id : Nat} (h : i < fo_n id) : vp_in (nI i) (fo_n id) := vp_in_nI h (Nat.lt_of_le_of_lt (fo_nle id) (by decide))
theorem fo_icl {i : Nat} {id : Nat} (h : i < fo_n id) : (nI i).toNatClampNeg = i := nI_clamp (Nat.lt_trans h (Nat.lt_of_le_of_lt (fo_nle id) (by decide)))
theorem fo_get (C : fo_C Λ K cc own nL) {Cn : String} {T : u_T} {N : Nat} {ty0 : Nat → FieldType} (d : decode cc pc = .ok (.getfield idx, 3)) (cf : fo_kf ci Cn T N ty0) (hk : fo_k id = ci) (hci : ci < 20) (j : Nat) (hj : j < N) (hl : Cond.fieldLink own idx (T j).1 (T j).2.1 (T j).2.2.1 ∈ fo_W0) {v : Value} (hv : (fo_f Λ.2.2.1 (I id) ci id)[j]? = some v) (n' : Nat) (hn : pc + 3 = n') (k : fo_G l Λ R K cs ss n' lv (v :: st) I D J X) : fo_G l Λ R K cs ss pc lv (.ref (Λ.2.2.1 id) :: st) I D J X := by
  intro H locs ls hP hS hl9
  subst hn
  exact va_get C.1 C.2.1 C.2.2.2.2.1 cf.2.1 C.2.2.2.1 C.vk hP id (fo_obj hk hci) cf.1 j hj (C.2.2.2.2.1 _ hl) (fun _ h => h) hv d (k H locs ls hP hS hl9)
theorem fo_put (C : fo_C Λ K cc own nL) {Cn : String} {T : u_T} {N : Nat} {ty0 : Nat → FieldType} {v : Int32} (d : decode cc pc = .ok (.putfield idx, 3)) (cf : fo_kf ci Cn T N ty0) (hk : fo_k id = ci) (hci : ci < 20) (j : Nat) (hj : j < N) (hl : Cond.fieldLink own idx (T j).1 (T j).2.1 (T j).2.2.1 ∈ fo_W0) (hfin : (T j).2.2.2 = false) (hnar : narrow (ty0 j) (.int v) = .int v) (hfit : fits (ty0 j) (.int v) = true) (hf : fo_f Λ.2.2.1 (upd (I id) j v) ci id = (fo_f Λ.2.2.1 (I id) ci id).set j (.int v)) (hlen : j < (fo_f Λ.2.2.1 (I id) ci id).length) (n' : Nat) (hn : pc + 3 = n') (k : fo_G l Λ R K cs ss n' lv st (fo_r I id (upd (I id) j v)) D J X) : fo_G l Λ R K cs ss pc lv (.int v :: .ref (Λ.2.2.1 id) :: st) I D J X := by
  intro H locs ls hP hS hl9
  subst hn
  refine va_put C.1 C.2.1 C.2.2.2.2.1 cf.2.1 ty0 cf.2.2.1 cf.2.2.2 C.2.2.2.1 C.vk hP (fo_wD C.ok I D J X) hS id (fo_obj hk hci) cf.1 j hj (C.2.2.2.2.1 _ hl) (fun _ h => h) hfin (cf.2.2.1 j hj) hnar hfit hlen d (fun H1 locs1 hP1 hD1 hS1 => k H1 locs1 ls ?_ hS1 hl9)
  rw [fo_wset (I' := fo_r I id (upd (I id) j v)) (D' := D) (J' := J) (X' := X) (fo_lt hk (by omega)) (by rw [hk, fo_co hci, fo_rs, hf]) (fun b hb => ⟨fo_rn _ _ hb, rfl, rfl, rfl⟩)] at hP1
  exact hP1
theorem fo_iald (C : fo_C Λ K cc own nL) {i : Nat} (d : decode cc pc = .ok (.iaload, 1)) (hk : fo_k id = 20) (hi : i < fo_n id) (x : Int32) (hx : I id i = x) (n' : Nat) (hn : pc + 1 = n') (k : fo_G l Λ R K cs ss n' lv (.int x :: st) I D J X) : fo_G l Λ R K cs ss pc lv (.int (nI i) :: .ref (Λ.2.2.1 id) :: st) I D J X := by
  intro H locs ls hP hS hl9
  subst hn
  subst hx
  refine va_iald C.1 C.2.1 C.vk hP id 2 (fo_wat hk (by decide)) rfl (fo_ix hi) d ?_
  rw [fo_icl hi]
  exact k H locs ls hP hS hl9
theorem fo_xald (C : fo_C Λ K cc own nL) {i : Nat} (d : decode cc pc = .ok (.iaload, 1)) (hk : fo_k id = 21) (hi : i < fo_n id) (x : Int32) (hx : X id i = x) (n' : Nat) (hn : pc + 1 = n') (k : fo_G l Λ R K cs ss n' lv (.int x :: st) I D J X) : fo_G l Λ R K cs ss pc lv (.int (nI i) :: .ref (Λ.2.2.1 id) :: st) I D J X := by
  intro H locs ls hP hS hl9
  subst hn
  subst hx
  refine va_iald C.1 C.2.1 C.vk hP id 2 (fo_wat hk (by decide)) rfl (fo_ix hi) d ?_
  rw [fo_icl hi]
  exact k H locs ls hP hS hl9
theorem fo_cald (C : fo_C Λ K cc own nL) {i : Nat} (d : decode cc pc = .ok (.caload, 1)) (hk : fo_k id = 23) (hi : i < fo_n id) (x : Int32) (hx : I id i = x) (n' : Nat) (hn : pc + 1 = n') (k : fo_G l Λ R K cs ss n' lv (.int x :: st) I D J X) : fo_G l Λ R K cs ss pc lv (.int (nI i) :: .ref (Λ.2.2.1 id) :: st) I D J X := by
  intro H locs ls hP hS hl9
  subst hn
  subst hx
  refine va_cald C.1 C.2.1 C.vk hP id 0 (fo_wat hk (by decide)) rfl (fo_ix hi) d ?_
  rw [fo_icl hi]
  exact k H locs ls hP hS hl9
theorem fo_dald (C : fo_C Λ K cc own nL) {i : Nat} (d : decode cc pc = .ok (.daload, 1)) (hk : fo_k id = 22) (hi : i < fo_n id) (x : UInt64) (hx : D id i = x) (n' : Nat) (hn : pc + 1 = n') (k : fo_G l Λ R K cs ss n' lv (.double x :: st) I D J X) : fo_G l Λ R K cs ss pc lv (.int (nI i) :: .ref (Λ.2.2.1 id) :: st) I D J X := by
  intro H locs ls hP hS hl9
  subst hn
  subst hx
  refine va_dald C.1 C.2.1 C.vk hP id 1 (fo_wat hk (by decide)) rfl (fo_ix hi) d ?_
  rw [fo_icl hi]
  exact k H locs ls hP hS hl9
theorem fo_lald (C : fo_C Λ K cc own nL) {i : Nat} (d : decode cc pc = .ok (.laload, 1)) (hk : fo_k id = 24) (hi : i < fo_n id) (x : Int64) (hx : J id i = x) (n' : Nat) (hn : pc + 1 = n') (k : fo_G l Λ R K cs ss n' lv (.long x :: st) I D J X) : fo_G l Λ R K cs ss pc lv (.int (nI i) :: .ref (Λ.2.2.1 id) :: st) I D J X := by
  intro H locs ls hP hS hl9
  subst hn
  subst hx
  refine va_lald C.1 C.2.1 C.vk hP id 3 (fo_wat hk (by decide)) rfl (fo_ix hi) d ?_
  rw [fo_icl hi]
  exact k H locs ls hP hS hl9
theorem fo_iast (C : fo_C Λ K cc own nL) {i : Nat} {x : Int32} (d : decode cc pc = .ok (.iastore, 1)) (hk : fo_k id = 20) (hi : i < fo_n id) (n' : Nat) (hn : pc + 1 = n') (k : fo_G l Λ R K cs ss n' lv st (fo_r I id (upd (I id) i x)) D J X) : fo_G l Λ R K cs ss pc lv (.int x :: .int (nI i) :: .ref (Λ.2.2.1 id) :: st) I D J X := by
  intro H locs ls hP hS hl9
  subst hn
  refine va_iast C.1 C.2.1 C.vk hP (fo_wD C.ok I D J X) hS id 2 (fo_wat hk (by decide)) rfl (fo_ix hi) d (fun H1 locs1 hP1 hD1 hS1 => k H1 locs1 ls ?_ hS1 hl9)
  rw [fo_icl hi, fo_wset (I' := fo_r I id (upd (I id) i x)) (D' := D) (J' := J) (X' := X) (fo_lt hk (by decide)) (by rw [hk, fo_rs]; rfl) (fun b hb => ⟨fo_rn _ _ hb, rfl, rfl, rfl⟩)] at hP1
  exact hP1
theorem fo_xast (C : fo_C Λ K cc own nL) {i : Nat} {x : Int32} (d : decode cc pc = .ok (.iastore, 1)) (hk : fo_k id = 21) (hi : i < fo_n id) (n' : Nat) (hn : pc + 1 = n') (k : fo_G l Λ R K cs ss n' lv st I D J (fo_r X id (upd (X id) i x))) : fo_G l Λ R K cs ss pc lv (.int x :: .int (nI i) :: .ref (Λ.2.2.1 id) :: st) I D J X := by
  intro H locs ls hP hS hl9
  subst hn
  refine va_iast C.1 C.2.1 C.vk hP (fo_wD C.ok I D J X) hS id 2 (fo_wat hk (by decide)) rfl (fo_ix hi) d (fun H1 locs1 hP1 hD1 hS1 => k H1 locs1 ls ?_ hS1 hl9)
  rw [fo_icl hi, fo_wset (I' := I) (D' := D) (J' := J) (X' := fo_r X id (upd (X id) i x)) (fo_lt hk (by decide)) (by rw [hk, fo_rs]; rfl) (fun b hb => ⟨rfl, rfl, rfl, fo_rn _ _ hb⟩)] at hP1
  exact hP1
theorem fo_cast (C : fo_C Λ K cc own nL) {i : Nat} {x : Int32} (d : decode cc pc = .ok (.castore, 1)) (hk : fo_k id = 23) (hi : i < fo_n id) (hx : vp_nar .char x = x) (n' : Nat) (hn : pc + 1 = n') (k : fo_G l Λ R K cs ss n' lv st (fo_r I id (upd (I id) i x)) D J X) : fo_G l Λ R K cs ss pc lv (.int x :: .int (nI i) :: .ref (Λ.2.2.1 id) :: st) I D J X := by
  intro H locs ls hP hS hl9
  subst hn
  refine va_cast C.1 C.2.1 C.vk hP (fo_wD C.ok I D J X) hS id 0 (fo_wat hk (by decide)) rfl (fo_ix hi) d (fun H1 locs1 hP1 hD1 hS1 => k H1 locs1 ls ?_ hS1 hl9)
  rw [fo_icl hi, hx, fo_wset (I' := fo_r I id (upd (I id) i x)) (D' := D) (J' := J) (X' := X) (fo_lt hk (by decide)) (by rw [hk, fo_rs]; rfl) (fun b hb => ⟨fo_rn _ _ hb, rfl, rfl, rfl⟩)] at hP1
  exact hP1
theorem fo_dast (C : fo_C Λ K cc own nL) {i : Nat} {x : UInt64} (d : decode cc pc = .ok (.dastore, 1)) (hk : fo_k id = 22) (hi : i < fo_n id) (n' : Nat) (hn : pc + 1 = n') (k : fo_G l Λ R K cs ss n' lv st I (fo_r D id (vf_upd (D id) i x)) J X) : fo_G l Λ R K cs ss pc lv (.double x :: .int (nI i) :: .ref (Λ.2.2.1 id) :: st) I D J X := by
  intro H locs ls hP hS hl9
  subst hn
  refine va_dast C.1 C.2.1 C.vk hP (fo_wD C.ok I D J X) hS id 1 (fo_wat hk (by decide)) rfl (fo_ix hi) d (fun H1 locs1 hP1 hD1 hS1 => k H1 locs1 ls ?_ hS1 hl9)
  rw [fo_icl hi, fo_wset (I' := I) (D' := fo_r D id (vf_upd (D id) i x)) (J' := J) (X' := X) (fo_lt hk (by decide)) (by rw [hk, fo_rs]; rfl) (fun b hb => ⟨rfl, fo_rn _ _ hb, rfl, rfl⟩)] at hP1
  exact hP1
theorem fo_last (C : fo_C Λ K cc own nL) {i : Nat} {x : Int64} (d : decode cc pc = .ok (.lastore, 1)) (hk : fo_k id = 24) (hi : i < fo_n id) (n' : Nat) (hn : pc + 1 = n') (k : fo_G l Λ R K cs ss n' lv st I D (fo_r J id (vp_updL (J id) i x)) X) : fo_G l Λ R K cs ss pc lv (.long x :: .int (nI i) :: .ref (Λ.2.2.1 id) :: st) I D J X := by
  intro H locs ls hP hS hl9
  subst hn
  refine va_last C.1 C.2.1 C.vk hP (fo_wD C.ok I D J X) hS id 3 (fo_wat hk (by decide)) rfl (fo_ix hi) d (fun H1 locs1 hP1 hD1 hS1 => k H1 locs1 ls ?_ hS1 hl9)
  rw [fo_icl hi, fo_wset (I' := I) (D' := D) (J' := fo_r J id (vp_updL (J id) i x)) (X' := X) (fo_lt hk (by decide)) (by rw [hk, fo_rs]; rfl) (fun b hb => ⟨rfl, rfl, fo_rn _ _ hb, rfl⟩)] at hP1
  exact hP1
theorem fo_aald (C : fo_C Λ K cc own nL) {i kd : Nat} (d : decode cc pc = .ok (.aaload, 1)) (hk : fo_k id = kd) (hkd : kd = 25 ∨ kd = 26 ∨ kd = 27) (hi : i < fo_n id) (tg : Nat) (htg : (if kd = 25 then id + 2 + 5 * i else if kd = 26 then id + 21 + 4 * i else 110 + 55 * i) = tg) (n' : Nat) (hn : pc + 1 = n') (k : fo_G l Λ R K cs ss n' lv (.ref (Λ.2.2.1 tg) :: st) I D J X) : fo_G l Λ R K cs ss pc lv (.int (nI i) :: .ref (Λ.2.2.1 id) :: st) I D J X := by
  intro H locs ls hP hS hl9
  subst hn
  subst htg
  rcases hkd with rfl | rfl | rfl
  · refine va_aldq C.1 C.2.1 C.vk hP id 4 (fo_wat hk (by decide)) rfl (fo_ix hi) d ?_
    rw [fo_icl hi]
    exact k H locs ls hP hS hl9
  · refine va_aldq C.1 C.2.1 C.vk hP id 5 (fo_wat hk (by decide)) rfl (fo_ix hi) d ?_
    rw [fo_icl hi]
    exact k H locs ls hP hS hl9
  · refine va_aldq C.1 C.2.1 C.vk hP id 6 (fo_wat hk (by decide)) rfl (fo_ix hi) d ?_
    rw [fo_icl hi]
    exact k H locs ls hP hS hl9
/-- what a call of Math needs -/
def fo_lm (own : String) (idx : Nat) (y : MethodName) (cc : ByteArray) (nL : Nat) : Prop := Cond.methodLink own idx y ∈ fo_W0 ∧ Cond.static y ∈ fo_W0 ∧ Cond.initialized "java/lang/Math" ∈ fo_W0 ∧ Cond.code y cc nL (some .int) ∈ fo_W0
theorem fo_max (C : fo_C Λ K cc own nL) {x z : Int32} (d : decode cc pc = .ok (.invokestatic idx, 3)) (hm : fo_lm own idx Lib.Math.max.name Lib.Math.max.code 2) (hR : 1 ≤ R.frames ∧ (st.map fun v => v.category).sum + 13 ≤ R.locals) (hf : cs ≤ R.cells ∧ ss ≤ R.slots) (v : Int32) (hv : (if x < z then z else x) = v) (n' : Nat) (hn : pc + 3 = n') (k : fo_G l Λ R K cs ss n' lv (.int v :: st) I D J X) : fo_G l Λ R K cs ss pc lv (.int z :: .int x :: st) I D J X := by
  intro H locs ls hP hS hl9
  subst hn
  subst hv
  exact va_mmax C.1 C.2.1 (C.2.2.1.trans (hl9.1.trans C.nl).symm) C.2.2.2.1 (C.2.2.2.2.1 _ hm.1) (C.2.2.2.2.1 _ hm.2.1) (C.2.2.2.2.1 _ hm.2.2.1) (C.2.2.2.2.1 _ hm.2.2.2) hR.1 hR.2 hf.1 hf.2 d (k H locs ls hP hS hl9)
theorem fo_min (C : fo_C Λ K cc own nL) {x z : Int32} (d : decode cc pc = .ok (.invokestatic idx, 3)) (hm : fo_lm own idx Lib.Math.min.name Lib.Math.min.code 2) (hR : 1 ≤ R.frames ∧ (st.map fun v => v.category).sum + 13 ≤ R.locals) (hf : cs ≤ R.cells ∧ ss ≤ R.slots) (v : Int32) (hv : (if z < x then z else x) = v) (n' : Nat) (hn : pc + 3 = n') (k : fo_G l Λ R K cs ss n' lv (.int v :: st) I D J X) : fo_G l Λ R K cs ss pc lv (.int z :: .int x :: st) I D J X := by
  intro H locs ls hP hS hl9
  subst hn
  subst hv
  exact va_mmin C.1 C.2.1 (C.2.2.1.trans (hl9.1.trans C.nl).symm) C.2.2.2.1 (C.2.2.2.2.1 _ hm.1) (C.2.2.2.2.1 _ hm.2.1) (C.2.2.2.2.1 _ hm.2.2.1) (C.2.2.2.2.1 _ hm.2.2.2) hR.1 hR.2 hf.1 hf.2 d (k H locs ls hP hS hl9)
theorem fo_abs (C : fo_C Λ K cc own nL) {x : Int32} (d : decode cc pc = .ok (.invokestatic idx, 3)) (hm : fo_lm own idx Lib.Math.abs.name Lib.Math.abs.code 1) (hR : 1 ≤ R.frames ∧ (st.map fun v => v.category).sum + 13 ≤ R.locals) (hf : cs ≤ R.cells ∧ ss ≤ R.slots) (v : Int32) (hv : (if 0 ≤ x then x else 0 - x) = v) (n' : Nat) (hn : pc + 3 = n') (k : fo_G l Λ R K cs ss n' lv (.int v :: st) I D J X) : fo_G l Λ R K cs ss pc lv (.int x :: st) I D J X := by
  intro H locs ls hP hS hl9
  subst hn
  subst hv
  exact va_mabs C.1 C.2.1 (C.2.2.1.trans (hl9.1.trans C.nl).symm) C.2.2.2.1 (C.2.2.2.2.1 _ hm.1) (C.2.2.2.2.1 _ hm.2.1) (C.2.2.2.2.1 _ hm.2.2.1) (C.2.2.2.2.1 _ hm.2.2.2) hR.1 hR.2 hf.1 hf.2 d (k H locs ls hP hS hl9)
/-- System.arraycopy, from the beginning to the beginning, of whole ints or doubles -/
def fo_la (own : String) (idx : Nat) : Prop := Cond.methodLink own idx arraycopyName ∈ fo_W0 ∧ Cond.native arraycopyName ∈ fo_W0 ∧ Cond.static arraycopyName ∈ fo_W0 ∧ Cond.initialized "java/lang/System" ∈ fo_W0
theorem fo_copi (C : fo_C Λ K cc own nL) {id2 m : Nat} (d : decode cc pc = .ok (.invokestatic idx, 3)) (hm : fo_la own idx) (hk : fo_k id = 20) (hk2 : fo_k id2 = 20) (h4 : m ≤ fo_n id) (h5 : m ≤ fo_n id2) (hR : 1 ≤ R.frames ∧ (st.map fun v => v.category).sum + (nativeFrameWords "java/lang/System" "arraycopy" 5 + 11) ≤ R.locals) (n' : Nat) (hn : pc + 3 = n') (k : fo_G l Λ R K cs ss n' lv st (fo_r I id2 (va_cpy (I id) (I id2) 0 0 m)) D J X) : fo_G l Λ R K cs ss pc lv (.int (nI m) :: .int (nI 0) :: .ref (Λ.2.2.1 id2) :: .int (nI 0) :: .ref (Λ.2.2.1 id) :: st) I D J X := by
  intro H locs ls hP hS hl9
  subst hn
  have z0 : (nI 0).toNatClampNeg = 0 := nI_clamp (by decide)
  have hmb : m < 2 ^ 31 := Nat.lt_of_le_of_lt h4 (Nat.lt_of_le_of_lt (fo_nle id) (by decide))
  have zm : (nI m).toNatClampNeg = m := nI_clamp hmb
  refine va_copyi C.1 C.2.1 (C.2.2.1.trans (hl9.1.trans C.nl).symm) C.2.2.2.1 (C.2.2.2.2.1 _ hm.1) (C.2.2.2.2.1 _ hm.2.1) (C.2.2.2.2.1 _ hm.2.2.1) (C.2.2.2.2.1 _ hm.2.2.2) C.vk hP (fo_wD C.ok I D J X) hS id id2 2 2 (fo_wat hk (by decide)) (fo_wat hk2 (by decide)) rfl rfl rfl (nI_pos (by decide)) (nI_pos (by decide)) (nI_pos hmb) (by rw [z0, zm, Nat.zero_add]; exact h4) (by rw [z0, zm, Nat.zero_add]; exact h5) (fun _ _ => rfl) hR.1 hR.2 d (fun H1 locs1 hP1 hD1 hS1 => k H1 locs1 ls ?_ hS1 hl9)
  rw [z0, zm, fo_wset (I' := fo_r I id2 (va_cpy (I id) (I id2) 0 0 m)) (D' := D) (J' := J) (X' := X) (fo_lt hk2 (by decide)) (by rw [hk2, fo_rs]; rfl) (fun b hb => ⟨fo_rn _ _ hb, rfl, rfl, rfl⟩)] at hP1
  exact hP1
theorem fo_copd (C : fo_C Λ K cc own nL) {id2 m : Nat} (d : decode cc pc = .ok (.invokestatic idx, 3)) (hm : fo_la own idx) (hk : fo_k id = 22) (hk2 : fo_k id2 = 22) (h4 : m ≤ fo_n id) (h5 : m ≤ fo_n id2) (hR : 1 ≤ R.frames ∧ (st.map fun v => v.category).sum + (nativeFrameWords "java/lang/System" "arraycopy" 5 + 11) ≤ R.locals) (n' : Nat) (hn : pc + 3 = n') (k : fo_G l Λ R K cs ss n' lv st I (fo_r D id2 (va_cpy (D id) (D id2) 0 0 m)) J X) : fo_G l Λ R K cs ss pc lv (.int (nI m) :: .int (nI 0) :: .ref (Λ.2.2.1 id2) :: .int (nI 0) :: .ref (Λ.2.2.1 id) :: st) I D J X := by
  intro H locs ls hP hS hl9
  subst hn
  have z0 : (nI 0).toNatClampNeg = 0 := nI_clamp (by decide)
  have hmb : m < 2 ^ 31 := Nat.lt_of_le_of_lt h4 (Nat.lt_of_le_of_lt (fo_nle id) (by decide))
  have zm : (nI m).toNatClampNeg = m := nI_clamp hmb
  refine va_copyd C.1 C.2.1 (C.2.2.1.trans (hl9.1.trans C.nl).symm) C.2.2.2.1 (C.2.2.2.2.1 _ hm.1) (C.2.2.2.2.1 _ hm.2.1) (C.2.2.2.2.1 _ hm.2.2.1) (C.2.2.2.2.1 _ hm.2.2.2) C.vk hP (fo_wD C.ok I D J X) hS id id2 1 1 (fo_wat hk (by decide)) (fo_wat hk2 (by decide)) rfl rfl rfl (nI_pos (by decide)) (nI_pos (by decide)) (nI_pos hmb) (by rw [z0, zm, Nat.zero_add]; exact h4) (by rw [z0, zm, Nat.zero_add]; exact h5) (fun _ _ => rfl) hR.1 hR.2 d (fun H1 locs1 hP1 hD1 hS1 => k H1 locs1 ls ?_ hS1 hl9)
  rw [z0, zm, fo_wset (I' := I) (D' := fo_r D id2 (va_cpy (D id) (D id2) 0 0 m)) (J' := J) (X' := X) (fo_lt hk2 (by decide)) (by rw [hk2, fo_rs]; rfl) (fun b hb => ⟨rfl, fo_rn _ _ hb, rfl, rfl⟩)] at hP1
  exact hP1
/-- a constant of the pool -/
theorem fo_ldcd (C : fo_C Λ K cc own nL) {v : UInt64} (d : decode cc pc = .ok (.ldc2_w idx, 3)) (h : Cond.constantDouble own idx v ∈ fo_W0) (n' : Nat) (hn : pc + 3 = n') (k : fo_G l Λ R K cs ss n' lv (.double v :: st) I D J X) : fo_G l Λ R K cs ss pc lv st I D J X := by
  intro H locs ls hP hS hl9
  subst hn
  exact lv_ldc2d C.1 C.2.1 C.2.2.2.1 (C.2.2.2.2.1 _ h) d (k H locs ls hP hS hl9)
theorem fo_ldcl (C : fo_C Λ K cc own nL) {v : Int64} (d : decode cc pc = .ok (.ldc2_w idx, 3)) (h : Cond.constantLong own idx v ∈ fo_W0) (n' : Nat) (hn : pc + 3 = n') (k : fo_G l Λ R K cs ss n' lv (.long v :: st) I D J X) : fo_G l Λ R K cs ss pc lv st I D J X := by
  intro H locs ls hP hS hl9
  subst hn
  exact lv_ldc2 C.1 C.2.1 C.2.2.2.1 (C.2.2.2.2.1 _ h) d (k H locs ls hP hS hl9)
end FOC
end
section
/-! WHAT THE TABLES SAY: a row each, by its place in lw_tbl -/
theorem fi_X0 : Cond.initialized RX0 ∈ fo_W0 := fo_in 78 (by decide +kernel) (by decide +kernel)
theorem fi_X1 : Cond.initialized RX1 ∈ fo_W0 := fo_in 76 (by decide +kernel) (by decide +kernel)
theorem fi_X2 : Cond.initialized RX2 ∈ fo_W0 := fo_in 77 (by decide +kernel) (by decide +kernel)
theorem fi_X3 : Cond.initialized RX3 ∈ fo_W0 := fo_in 75 (by decide +kernel) (by decide +kernel)
theorem fi_X4 : Cond.initialized RX4 ∈ fo_W0 := fo_in 74 (by decide +kernel) (by decide +kernel)
theorem fi_X5 : Cond.initialized RX5 ∈ fo_W0 := fo_in 73 (by decide +kernel) (by decide +kernel)
theorem fi_X6 : Cond.initialized RX6 ∈ fo_W0 := fo_in 72 (by decide +kernel) (by decide +kernel)
theorem fi_X7 : Cond.initialized RX7 ∈ fo_W0 := fo_in 79 (by decide +kernel) (by decide +kernel)
theorem fi_L : Cond.initialized RL ∈ fo_W0 := fo_in 71 (by decide +kernel) (by decide +kernel)
theorem fu_X0_0 : u_lay RX0 TX0 0 ∈ fo_W0 := fo_in 265 (by decide +kernel) (by decide +kernel)
theorem fu_X0_1 : u_lay RX0 TX0 1 ∈ fo_W0 := fo_in 267 (by decide +kernel) (by decide +kernel)
theorem fu_X0 : ∀ w ∈ u_ws RX0 TX0 2, w ∈ fo_W0 := show ∀ w ∈ [u_lay RX0 TX0 0, u_lay RX0 TX0 1], w ∈ fo_W0 from List.forall_mem_cons.mpr ⟨fu_X0_0, List.forall_mem_cons.mpr ⟨fu_X0_1, fun _ h => absurd h List.not_mem_nil⟩⟩
theorem fK2 : fo_kf 2 RX0 TX0 2 tyX0 := ⟨rfl, fu_X0, tyX0_ok, nmX0⟩
theorem fu_X1_0 : u_lay RX1 TX1 0 ∈ fo_W0 := fo_in 205 (by decide +kernel) (by decide +kernel)
theorem fu_X1_1 : u_lay RX1 TX1 1 ∈ fo_W0 := fo_in 207 (by decide +kernel) (by decide +kernel)
theorem fu_X1_2 : u_lay RX1 TX1 2 ∈ fo_W0 := fo_in 209 (by decide +kernel) (by decide +kernel)
theorem fu_X1 : ∀ w ∈ u_ws RX1 TX1 3, w ∈ fo_W0 := show ∀ w ∈ [u_lay RX1 TX1 0, u_lay RX1 TX1 1, u_lay RX1 TX1 2], w ∈ fo_W0 from List.forall_mem_cons.mpr ⟨fu_X1_0, List.forall_mem_cons.mpr ⟨fu_X1_1, List.forall_mem_cons.mpr ⟨fu_X1_2, fun _ h => absurd h List.not_mem_nil⟩⟩⟩
theorem fK3 : fo_kf 3 RX1 TX1 3 tyX1 := ⟨rfl, fu_X1, tyX1_ok, nmX1⟩
theorem fu_X2_0 : u_lay RX2 TX2 0 ∈ fo_W0 := fo_in 235 (by decide +kernel) (by decide +kernel)
theorem fu_X2_1 : u_lay RX2 TX2 1 ∈ fo_W0 := fo_in 237 (by decide +kernel) (by decide +kernel)
theorem fu_X2_2 : u_lay RX2 TX2 2 ∈ fo_W0 := fo_in 239 (by decide +kernel) (by decide +kernel)
theorem fu_X2_3 : u_lay RX2 TX2 3 ∈ fo_W0 := fo_in 241 (by decide +kernel) (by decide +kernel)
theorem fu_X2_4 : u_lay RX2 TX2 4 ∈ fo_W0 := fo_in 243 (by decide +kernel) (by decide +kernel)
theorem fu_X2_5 : u_lay RX2 TX2 5 ∈ fo_W0 := fo_in 245 (by decide +kernel) (by decide +kernel)
theorem fu_X2_6 : u_lay RX2 TX2 6 ∈ fo_W0 := fo_in 247 (by decide +kernel) (by decide +kernel)
theorem fu_X2_7 : u_lay RX2 TX2 7 ∈ fo_W0 := fo_in 249 (by decide +kernel) (by decide +kernel)
theorem fu_X2_8 : u_lay RX2 TX2 8 ∈ fo_W0 := fo_in 251 (by decide +kernel) (by decide +kernel)
theorem fu_X2 : ∀ w ∈ u_ws RX2 TX2 9, w ∈ fo_W0 := show ∀ w ∈ [u_lay RX2 TX2 0, u_lay RX2 TX2 1, u_lay RX2 TX2 2, u_lay RX2 TX2 3, u_lay RX2 TX2 4, u_lay RX2 TX2 5, u_lay RX2 TX2 6, u_lay RX2 TX2 7, u_lay RX2 TX2 8], w ∈ fo_W0 from List.forall_mem_cons.mpr ⟨fu_X2_0, List.forall_mem_cons.mpr ⟨fu_X2_1, List.forall_mem_cons.mpr ⟨fu_X2_2, List.forall_mem_cons.mpr ⟨fu_X2_3, List.forall_mem_cons.mpr ⟨fu_X2_4, List.forall_mem_cons.mpr ⟨fu_X2_5, List.forall_mem_cons.mpr ⟨fu_X2_6, List.forall_mem_cons.mpr ⟨fu_X2_7, List.forall_mem_cons.mpr ⟨fu_X2_8, fun _ h => absurd h List.not_mem_nil⟩⟩⟩⟩⟩⟩⟩⟩⟩
theorem fK4 : fo_kf 4 RX2 TX2 9 tyX2 := ⟨rfl, fu_X2, tyX2_ok, nmX2⟩
theorem fu_X3_0 : u_lay RX3 TX3 0 ∈ fo_W0 := fo_in 163 (by decide +kernel) (by decide +kernel)
theorem fu_X3_1 : u_lay RX3 TX3 1 ∈ fo_W0 := fo_in 165 (by decide +kernel) (by decide +kernel)
theorem fu_X3_2 : u_lay RX3 TX3 2 ∈ fo_W0 := fo_in 167 (by decide +kernel) (by decide +kernel)
theorem fu_X3_3 : u_lay RX3 TX3 3 ∈ fo_W0 := fo_in 169 (by decide +kernel) (by decide +kernel)
theorem fu_X3_4 : u_lay RX3 TX3 4 ∈ fo_W0 := fo_in 171 (by decide +kernel) (by decide +kernel)
theorem fu_X3 : ∀ w ∈ u_ws RX3 TX3 5, w ∈ fo_W0 := show ∀ w ∈ [u_lay RX3 TX3 0, u_lay RX3 TX3 1, u_lay RX3 TX3 2, u_lay RX3 TX3 3, u_lay RX3 TX3 4], w ∈ fo_W0 from List.forall_mem_cons.mpr ⟨fu_X3_0, List.forall_mem_cons.mpr ⟨fu_X3_1, List.forall_mem_cons.mpr ⟨fu_X3_2, List.forall_mem_cons.mpr ⟨fu_X3_3, List.forall_mem_cons.mpr ⟨fu_X3_4, fun _ h => absurd h List.not_mem_nil⟩⟩⟩⟩⟩
theorem fK5 : fo_kf 5 RX3 TX3 5 tyX3 := ⟨rfl, fu_X3, tyX3_ok, nmX3⟩
theorem fu_X4_0 : u_lay RX4 TX4 0 ∈ fo_W0 := fo_in 131 (by decide +kernel) (by decide +kernel)
theorem fu_X4_1 : u_lay RX4 TX4 1 ∈ fo_W0 := fo_in 133 (by decide +kernel) (by decide +kernel)
theorem fu_X4_2 : u_lay RX4 TX4 2 ∈ fo_W0 := fo_in 135 (by decide +kernel) (by decide +kernel)
theorem fu_X4_3 : u_lay RX4 TX4 3 ∈ fo_W0 := fo_in 137 (by decide +kernel) (by decide +kernel)
theorem fu_X4_4 : u_lay RX4 TX4 4 ∈ fo_W0 := fo_in 139 (by decide +kernel) (by decide +kernel)
theorem fu_X4 : ∀ w ∈ u_ws RX4 TX4 5, w ∈ fo_W0 := show ∀ w ∈ [u_lay RX4 TX4 0, u_lay RX4 TX4 1, u_lay RX4 TX4 2, u_lay RX4 TX4 3, u_lay RX4 TX4 4], w ∈ fo_W0 from List.forall_mem_cons.mpr ⟨fu_X4_0, List.forall_mem_cons.mpr ⟨fu_X4_1, List.forall_mem_cons.mpr ⟨fu_X4_2, List.forall_mem_cons.mpr ⟨fu_X4_3, List.forall_mem_cons.mpr ⟨fu_X4_4, fun _ h => absurd h List.not_mem_nil⟩⟩⟩⟩⟩
theorem fK6 : fo_kf 6 RX4 TX4 5 tyX4 := ⟨rfl, fu_X4, tyX4_ok, nmX4⟩
theorem fu_X5_0 : u_lay RX5 TX5 0 ∈ fo_W0 := fo_in 183 (by decide +kernel) (by decide +kernel)
theorem fu_X5_1 : u_lay RX5 TX5 1 ∈ fo_W0 := fo_in 185 (by decide +kernel) (by decide +kernel)
theorem fu_X5_2 : u_lay RX5 TX5 2 ∈ fo_W0 := fo_in 187 (by decide +kernel) (by decide +kernel)
theorem fu_X5_3 : u_lay RX5 TX5 3 ∈ fo_W0 := fo_in 189 (by decide +kernel) (by decide +kernel)
theorem fu_X5 : ∀ w ∈ u_ws RX5 TX5 4, w ∈ fo_W0 := show ∀ w ∈ [u_lay RX5 TX5 0, u_lay RX5 TX5 1, u_lay RX5 TX5 2, u_lay RX5 TX5 3], w ∈ fo_W0 from List.forall_mem_cons.mpr ⟨fu_X5_0, List.forall_mem_cons.mpr ⟨fu_X5_1, List.forall_mem_cons.mpr ⟨fu_X5_2, List.forall_mem_cons.mpr ⟨fu_X5_3, fun _ h => absurd h List.not_mem_nil⟩⟩⟩⟩
theorem fK7 : fo_kf 7 RX5 TX5 4 tyX5 := ⟨rfl, fu_X5, tyX5_ok, nmX5⟩
theorem fu_X6_0 : u_lay RX6 TX6 0 ∈ fo_W0 := fo_in 278 (by decide +kernel) (by decide +kernel)
theorem fu_X6_1 : u_lay RX6 TX6 1 ∈ fo_W0 := fo_in 280 (by decide +kernel) (by decide +kernel)
theorem fu_X6_2 : u_lay RX6 TX6 2 ∈ fo_W0 := fo_in 282 (by decide +kernel) (by decide +kernel)
theorem fu_X6_3 : u_lay RX6 TX6 3 ∈ fo_W0 := fo_in 284 (by decide +kernel) (by decide +kernel)
theorem fu_X6_4 : u_lay RX6 TX6 4 ∈ fo_W0 := fo_in 286 (by decide +kernel) (by decide +kernel)
theorem fu_X6_5 : u_lay RX6 TX6 5 ∈ fo_W0 := fo_in 288 (by decide +kernel) (by decide +kernel)
theorem fu_X6_6 : u_lay RX6 TX6 6 ∈ fo_W0 := fo_in 290 (by decide +kernel) (by decide +kernel)
theorem fu_X6_7 : u_lay RX6 TX6 7 ∈ fo_W0 := fo_in 292 (by decide +kernel) (by decide +kernel)
theorem fu_X6 : ∀ w ∈ u_ws RX6 TX6 8, w ∈ fo_W0 := show ∀ w ∈ [u_lay RX6 TX6 0, u_lay RX6 TX6 1, u_lay RX6 TX6 2, u_lay RX6 TX6 3, u_lay RX6 TX6 4, u_lay RX6 TX6 5, u_lay RX6 TX6 6, u_lay RX6 TX6 7], w ∈ fo_W0 from List.forall_mem_cons.mpr ⟨fu_X6_0, List.forall_mem_cons.mpr ⟨fu_X6_1, List.forall_mem_cons.mpr ⟨fu_X6_2, List.forall_mem_cons.mpr ⟨fu_X6_3, List.forall_mem_cons.mpr ⟨fu_X6_4, List.forall_mem_cons.mpr ⟨fu_X6_5, List.forall_mem_cons.mpr ⟨fu_X6_6, List.forall_mem_cons.mpr ⟨fu_X6_7, fun _ h => absurd h List.not_mem_nil⟩⟩⟩⟩⟩⟩⟩⟩
theorem fK8 : fo_kf 8 RX6 TX6 8 tyX6 := ⟨rfl, fu_X6, tyX6_ok, nmX6⟩
theorem fu_X7_0 : u_lay RX7 TX7 0 ∈ fo_W0 := fo_in 1171 (by decide +kernel) (by decide +kernel)
theorem fu_X7_1 : u_lay RX7 TX7 1 ∈ fo_W0 := fo_in 1173 (by decide +kernel) (by decide +kernel)
theorem fu_X7_2 : u_lay RX7 TX7 2 ∈ fo_W0 := fo_in 1175 (by decide +kernel) (by decide +kernel)
theorem fu_X7_3 : u_lay RX7 TX7 3 ∈ fo_W0 := fo_in 1177 (by decide +kernel) (by decide +kernel)
theorem fu_X7_4 : u_lay RX7 TX7 4 ∈ fo_W0 := fo_in 1179 (by decide +kernel) (by decide +kernel)
theorem fu_X7_5 : u_lay RX7 TX7 5 ∈ fo_W0 := fo_in 1181 (by decide +kernel) (by decide +kernel)
theorem fu_X7_6 : u_lay RX7 TX7 6 ∈ fo_W0 := fo_in 1183 (by decide +kernel) (by decide +kernel)
theorem fu_X7_7 : u_lay RX7 TX7 7 ∈ fo_W0 := fo_in 1185 (by decide +kernel) (by decide +kernel)
theorem fu_X7_8 : u_lay RX7 TX7 8 ∈ fo_W0 := fo_in 1187 (by decide +kernel) (by decide +kernel)
theorem fu_X7_9 : u_lay RX7 TX7 9 ∈ fo_W0 := fo_in 1189 (by decide +kernel) (by decide +kernel)
theorem fu_X7_10 : u_lay RX7 TX7 10 ∈ fo_W0 := fo_in 1191 (by decide +kernel) (by decide +kernel)
theorem fu_X7_11 : u_lay RX7 TX7 11 ∈ fo_W0 := fo_in 1193 (by decide +kernel) (by decide +kernel)
theorem fu_X7_12 : u_lay RX7 TX7 12 ∈ fo_W0 := fo_in 1195 (by decide +kernel) (by decide +kernel)
theorem fu_X7_13 : u_lay RX7 TX7 13 ∈ fo_W0 := fo_in 1197 (by decide +kernel) (by decide +kernel)
theorem fu_X7_14 : u_lay RX7 TX7 14 ∈ fo_W0 := fo_in 1199 (by decide +kernel) (by decide +kernel)
theorem fu_X7_15 : u_lay RX7 TX7 15 ∈ fo_W0 := fo_in 1201 (by decide +kernel) (by decide +kernel)
theorem fu_X7_16 : u_lay RX7 TX7 16 ∈ fo_W0 := fo_in 1203 (by decide +kernel) (by decide +kernel)
theorem fu_X7_17 : u_lay RX7 TX7 17 ∈ fo_W0 := fo_in 1205 (by decide +kernel) (by decide +kernel)
theorem fu_X7_18 : u_lay RX7 TX7 18 ∈ fo_W0 := fo_in 1207 (by decide +kernel) (by decide +kernel)
theorem fu_X7_19 : u_lay RX7 TX7 19 ∈ fo_W0 := fo_in 1209 (by decide +kernel) (by decide +kernel)
theorem fu_X7_20 : u_lay RX7 TX7 20 ∈ fo_W0 := fo_in 1211 (by decide +kernel) (by decide +kernel)
theorem fu_X7_21 : u_lay RX7 TX7 21 ∈ fo_W0 := fo_in 1213 (by decide +kernel) (by decide +kernel)
theorem fu_X7_22 : u_lay RX7 TX7 22 ∈ fo_W0 := fo_in 1215 (by decide +kernel) (by decide +kernel)
theorem fu_X7_23 : u_lay RX7 TX7 23 ∈ fo_W0 := fo_in 1217 (by decide +kernel) (by decide +kernel)
theorem fu_X7 : ∀ w ∈ u_ws RX7 TX7 24, w ∈ fo_W0 := show ∀ w ∈ [u_lay RX7 TX7 0, u_lay RX7 TX7 1, u_lay RX7 TX7 2, u_lay RX7 TX7 3, u_lay RX7 TX7 4, u_lay RX7 TX7 5, u_lay RX7 TX7 6, u_lay RX7 TX7 7, u_lay RX7 TX7 8, u_lay RX7 TX7 9, u_lay RX7 TX7 10, u_lay RX7 TX7 11, u_lay RX7 TX7 12, u_lay RX7 TX7 13, u_lay RX7 TX7 14, u_lay RX7 TX7 15, u_lay RX7 TX7 16, u_lay RX7 TX7 17, u_lay RX7 TX7 18, u_lay RX7 TX7 19, u_lay RX7 TX7 20, u_lay RX7 TX7 21, u_lay RX7 TX7 22, u_lay RX7 TX7 23], w ∈ fo_W0 from List.forall_mem_cons.mpr ⟨fu_X7_0, List.forall_mem_cons.mpr ⟨fu_X7_1, List.forall_mem_cons.mpr ⟨fu_X7_2, List.forall_mem_cons.mpr ⟨fu_X7_3, List.forall_mem_cons.mpr ⟨fu_X7_4, List.forall_mem_cons.mpr ⟨fu_X7_5, List.forall_mem_cons.mpr ⟨fu_X7_6, List.forall_mem_cons.mpr ⟨fu_X7_7, List.forall_mem_cons.mpr ⟨fu_X7_8, List.forall_mem_cons.mpr ⟨fu_X7_9, List.forall_mem_cons.mpr ⟨fu_X7_10, List.forall_mem_cons.mpr ⟨fu_X7_11, List.forall_mem_cons.mpr ⟨fu_X7_12, List.forall_mem_cons.mpr ⟨fu_X7_13, List.forall_mem_cons.mpr ⟨fu_X7_14, List.forall_mem_cons.mpr ⟨fu_X7_15, List.forall_mem_cons.mpr ⟨fu_X7_16, List.forall_mem_cons.mpr ⟨fu_X7_17, List.forall_mem_cons.mpr ⟨fu_X7_18, List.forall_mem_cons.mpr ⟨fu_X7_19, List.forall_mem_cons.mpr ⟨fu_X7_20, List.forall_mem_cons.mpr ⟨fu_X7_21, List.forall_mem_cons.mpr ⟨fu_X7_22, List.forall_mem_cons.mpr ⟨fu_X7_23, fun _ h => absurd h List.not_mem_nil⟩⟩⟩⟩⟩⟩⟩⟩⟩⟩⟩⟩⟩⟩⟩⟩⟩⟩⟩⟩⟩⟩⟩⟩
theorem fK9 : fo_kf 9 RX7 TX7 24 tyX7 := ⟨rfl, fu_X7, tyX7_ok, nmX7⟩
theorem fl_X0_9 : Cond.fieldLink RX0 9 (TX0 0).1 (TX0 0).2.1 (TX0 0).2.2.1 ∈ fo_W0 := fo_in 261 (by decide +kernel) (by decide +kernel)
theorem fl_X0_15 : Cond.fieldLink RX0 15 (TX0 1).1 (TX0 1).2.1 (TX0 1).2.2.1 ∈ fo_W0 := fo_in 263 (by decide +kernel) (by decide +kernel)
theorem fl_X1_13 : Cond.fieldLink RX1 13 (TX1 0).1 (TX1 0).2.1 (TX1 0).2.2.1 ∈ fo_W0 := fo_in 201 (by decide +kernel) (by decide +kernel)
theorem fl_X1_18 : Cond.fieldLink RX1 18 (TX1 1).1 (TX1 1).2.1 (TX1 1).2.2.1 ∈ fo_W0 := fo_in 202 (by decide +kernel) (by decide +kernel)
theorem fl_X1_26 : Cond.fieldLink RX1 26 (TX1 2).1 (TX1 2).2.1 (TX1 2).2.2.1 ∈ fo_W0 := fo_in 203 (by decide +kernel) (by decide +kernel)
theorem fl_X2_9 : Cond.fieldLink RX2 9 (TX2 0).1 (TX2 0).2.1 (TX2 0).2.2.1 ∈ fo_W0 := fo_in 218 (by decide +kernel) (by decide +kernel)
theorem fl_X2_15 : Cond.fieldLink RX2 15 (TX2 4).1 (TX2 4).2.1 (TX2 4).2.2.1 ∈ fo_W0 := fo_in 225 (by decide +kernel) (by decide +kernel)
theorem fl_X2_18 : Cond.fieldLink RX2 18 (TX2 5).1 (TX2 5).2.1 (TX2 5).2.2.1 ∈ fo_W0 := fo_in 227 (by decide +kernel) (by decide +kernel)
theorem fl_X2_22 : Cond.fieldLink RX2 22 (TX2 6).1 (TX2 6).2.1 (TX2 6).2.2.1 ∈ fo_W0 := fo_in 229 (by decide +kernel) (by decide +kernel)
theorem fl_X2_25 : Cond.fieldLink RX2 25 (TX2 7).1 (TX2 7).2.1 (TX2 7).2.2.1 ∈ fo_W0 := fo_in 231 (by decide +kernel) (by decide +kernel)
theorem fl_X2_28 : Cond.fieldLink RX2 28 (TX2 1).1 (TX2 1).2.1 (TX2 1).2.2.1 ∈ fo_W0 := fo_in 219 (by decide +kernel) (by decide +kernel)
theorem fl_X2_32 : Cond.fieldLink RX2 32 (TX2 2).1 (TX2 2).2.1 (TX2 2).2.2.1 ∈ fo_W0 := fo_in 221 (by decide +kernel) (by decide +kernel)
theorem fl_X2_35 : Cond.fieldLink RX2 35 (TX2 3).1 (TX2 3).2.1 (TX2 3).2.2.1 ∈ fo_W0 := fo_in 223 (by decide +kernel) (by decide +kernel)
theorem fl_X2_38 : Cond.fieldLink RX2 38 (TX2 8).1 (TX2 8).2.1 (TX2 8).2.2.1 ∈ fo_W0 := fo_in 233 (by decide +kernel) (by decide +kernel)
theorem fl_X3_9 : Cond.fieldLink RX3 9 (TX3 2).1 (TX3 2).2.1 (TX3 2).2.2.1 ∈ fo_W0 := fo_in 154 (by decide +kernel) (by decide +kernel)
theorem fl_X3_15 : Cond.fieldLink RX3 15 (TX3 3).1 (TX3 3).2.1 (TX3 3).2.2.1 ∈ fo_W0 := fo_in 157 (by decide +kernel) (by decide +kernel)
theorem fl_X3_19 : Cond.fieldLink RX3 19 (TX3 4).1 (TX3 4).2.1 (TX3 4).2.2.1 ∈ fo_W0 := fo_in 160 (by decide +kernel) (by decide +kernel)
theorem fl_X3_22 : Cond.fieldLink RX3 22 (TX3 0).1 (TX3 0).2.1 (TX3 0).2.2.1 ∈ fo_W0 := fo_in 148 (by decide +kernel) (by decide +kernel)
theorem fl_X3_26 : Cond.fieldLink RX3 26 (TX3 1).1 (TX3 1).2.1 (TX3 1).2.2.1 ∈ fo_W0 := fo_in 151 (by decide +kernel) (by decide +kernel)
theorem fl_X3_50 : Cond.fieldLink RX3 50 (TX4 0).1 (TX4 0).2.1 (TX4 0).2.2.1 ∈ fo_W0 := fo_in 123 (by decide +kernel) (by decide +kernel)
theorem fl_X3_64 : Cond.fieldLink RX3 64 (TX4 1).1 (TX4 1).2.1 (TX4 1).2.2.1 ∈ fo_W0 := fo_in 127 (by decide +kernel) (by decide +kernel)
theorem fl_X4_9 : Cond.fieldLink RX4 9 (TX4 0).1 (TX4 0).2.1 (TX4 0).2.2.1 ∈ fo_W0 := fo_in 121 (by decide +kernel) (by decide +kernel)
theorem fl_X4_15 : Cond.fieldLink RX4 15 (TX4 2).1 (TX4 2).2.1 (TX4 2).2.2.1 ∈ fo_W0 := fo_in 128 (by decide +kernel) (by decide +kernel)
theorem fl_X4_18 : Cond.fieldLink RX4 18 (TX4 3).1 (TX4 3).2.1 (TX4 3).2.2.1 ∈ fo_W0 := fo_in 129 (by decide +kernel) (by decide +kernel)
theorem fl_X4_21 : Cond.fieldLink RX4 21 (TX4 4).1 (TX4 4).2.1 (TX4 4).2.2.1 ∈ fo_W0 := fo_in 130 (by decide +kernel) (by decide +kernel)
theorem fl_X4_30 : Cond.fieldLink RX4 30 (TX4 1).1 (TX4 1).2.1 (TX4 1).2.2.1 ∈ fo_W0 := fo_in 124 (by decide +kernel) (by decide +kernel)
theorem fl_X5_11 : Cond.fieldLink RX5 11 (TX5 0).1 (TX5 0).2.1 (TX5 0).2.2.1 ∈ fo_W0 := fo_in 175 (by decide +kernel) (by decide +kernel)
theorem fl_X5_19 : Cond.fieldLink RX5 19 (TX5 1).1 (TX5 1).2.1 (TX5 1).2.2.1 ∈ fo_W0 := fo_in 177 (by decide +kernel) (by decide +kernel)
theorem fl_X5_23 : Cond.fieldLink RX5 23 (TX5 3).1 (TX5 3).2.1 (TX5 3).2.2.1 ∈ fo_W0 := fo_in 181 (by decide +kernel) (by decide +kernel)
theorem fl_X5_36 : Cond.fieldLink RX5 36 (TX5 2).1 (TX5 2).2.1 (TX5 2).2.2.1 ∈ fo_W0 := fo_in 179 (by decide +kernel) (by decide +kernel)
theorem fl_X5_63 : Cond.fieldLink RX5 63 (TX3 4).1 (TX3 4).2.1 (TX3 4).2.2.1 ∈ fo_W0 := fo_in 161 (by decide +kernel) (by decide +kernel)
theorem fl_X5_67 : Cond.fieldLink RX5 67 (TX4 1).1 (TX4 1).2.1 (TX4 1).2.2.1 ∈ fo_W0 := fo_in 126 (by decide +kernel) (by decide +kernel)
theorem fl_X5_93 : Cond.fieldLink RX5 93 (TX3 0).1 (TX3 0).2.1 (TX3 0).2.2.1 ∈ fo_W0 := fo_in 149 (by decide +kernel) (by decide +kernel)
theorem fl_X5_101 : Cond.fieldLink RX5 101 (TX3 1).1 (TX3 1).2.1 (TX3 1).2.2.1 ∈ fo_W0 := fo_in 152 (by decide +kernel) (by decide +kernel)
theorem fl_X5_120 : Cond.fieldLink RX5 120 (TX3 2).1 (TX3 2).2.1 (TX3 2).2.2.1 ∈ fo_W0 := fo_in 155 (by decide +kernel) (by decide +kernel)
theorem fl_X5_123 : Cond.fieldLink RX5 123 (TX3 3).1 (TX3 3).2.1 (TX3 3).2.2.1 ∈ fo_W0 := fo_in 158 (by decide +kernel) (by decide +kernel)
theorem fl_X6_12 : Cond.fieldLink RX6 12 (TX6 0).1 (TX6 0).2.1 (TX6 0).2.2.1 ∈ fo_W0 := fo_in 270 (by decide +kernel) (by decide +kernel)
theorem fl_X6_16 : Cond.fieldLink RX6 16 (TX6 1).1 (TX6 1).2.1 (TX6 1).2.2.1 ∈ fo_W0 := fo_in 271 (by decide +kernel) (by decide +kernel)
theorem fl_X6_22 : Cond.fieldLink RX6 22 (TX6 2).1 (TX6 2).2.1 (TX6 2).2.2.1 ∈ fo_W0 := fo_in 272 (by decide +kernel) (by decide +kernel)
theorem fl_X6_29 : Cond.fieldLink RX6 29 (TX6 3).1 (TX6 3).2.1 (TX6 3).2.2.1 ∈ fo_W0 := fo_in 273 (by decide +kernel) (by decide +kernel)
theorem fl_X6_36 : Cond.fieldLink RX6 36 (TX6 4).1 (TX6 4).2.1 (TX6 4).2.2.1 ∈ fo_W0 := fo_in 274 (by decide +kernel) (by decide +kernel)
theorem fl_X6_40 : Cond.fieldLink RX6 40 (TX6 6).1 (TX6 6).2.1 (TX6 6).2.2.1 ∈ fo_W0 := fo_in 276 (by decide +kernel) (by decide +kernel)
theorem fl_X6_44 : Cond.fieldLink RX6 44 (TX6 7).1 (TX6 7).2.1 (TX6 7).2.2.1 ∈ fo_W0 := fo_in 277 (by decide +kernel) (by decide +kernel)
theorem fl_X6_85 : Cond.fieldLink RX6 85 (TX5 3).1 (TX5 3).2.1 (TX5 3).2.2.1 ∈ fo_W0 := fo_in 182 (by decide +kernel) (by decide +kernel)
theorem fl_X6_88 : Cond.fieldLink RX6 88 (TX4 1).1 (TX4 1).2.1 (TX4 1).2.2.1 ∈ fo_W0 := fo_in 125 (by decide +kernel) (by decide +kernel)
theorem fl_X6_101 : Cond.fieldLink RX6 101 (TX4 0).1 (TX4 0).2.1 (TX4 0).2.2.1 ∈ fo_W0 := fo_in 122 (by decide +kernel) (by decide +kernel)
theorem fl_X6_145 : Cond.fieldLink RX6 145 (TX5 2).1 (TX5 2).2.1 (TX5 2).2.2.1 ∈ fo_W0 := fo_in 180 (by decide +kernel) (by decide +kernel)
theorem fl_X6_152 : Cond.fieldLink RX6 152 (TX3 0).1 (TX3 0).2.1 (TX3 0).2.2.1 ∈ fo_W0 := fo_in 150 (by decide +kernel) (by decide +kernel)
theorem fl_X6_158 : Cond.fieldLink RX6 158 (TX3 1).1 (TX3 1).2.1 (TX3 1).2.2.1 ∈ fo_W0 := fo_in 153 (by decide +kernel) (by decide +kernel)
theorem fl_X6_174 : Cond.fieldLink RX6 174 (TX3 2).1 (TX3 2).2.1 (TX3 2).2.2.1 ∈ fo_W0 := fo_in 156 (by decide +kernel) (by decide +kernel)
theorem fl_X6_177 : Cond.fieldLink RX6 177 (TX3 3).1 (TX3 3).2.1 (TX3 3).2.2.1 ∈ fo_W0 := fo_in 159 (by decide +kernel) (by decide +kernel)
theorem fl_X6_185 : Cond.fieldLink RX6 185 (TX3 4).1 (TX3 4).2.1 (TX3 4).2.2.1 ∈ fo_W0 := fo_in 162 (by decide +kernel) (by decide +kernel)
theorem fl_X6_223 : Cond.fieldLink RX6 223 (TX0 1).1 (TX0 1).2.1 (TX0 1).2.2.1 ∈ fo_W0 := fo_in 264 (by decide +kernel) (by decide +kernel)
theorem fl_X6_226 : Cond.fieldLink RX6 226 (TX5 1).1 (TX5 1).2.1 (TX5 1).2.2.1 ∈ fo_W0 := fo_in 178 (by decide +kernel) (by decide +kernel)
theorem fl_X6_239 : Cond.fieldLink RX6 239 (TX0 0).1 (TX0 0).2.1 (TX0 0).2.2.1 ∈ fo_W0 := fo_in 262 (by decide +kernel) (by decide +kernel)
theorem fl_X6_243 : Cond.fieldLink RX6 243 (TX2 1).1 (TX2 1).2.1 (TX2 1).2.2.1 ∈ fo_W0 := fo_in 220 (by decide +kernel) (by decide +kernel)
theorem fl_X6_250 : Cond.fieldLink RX6 250 (TX2 2).1 (TX2 2).2.1 (TX2 2).2.2.1 ∈ fo_W0 := fo_in 222 (by decide +kernel) (by decide +kernel)
theorem fl_X6_269 : Cond.fieldLink RX6 269 (TX2 3).1 (TX2 3).2.1 (TX2 3).2.2.1 ∈ fo_W0 := fo_in 224 (by decide +kernel) (by decide +kernel)
theorem fl_X6_272 : Cond.fieldLink RX6 272 (TX1 2).1 (TX1 2).2.1 (TX1 2).2.2.1 ∈ fo_W0 := fo_in 204 (by decide +kernel) (by decide +kernel)
theorem fl_X6_279 : Cond.fieldLink RX6 279 (TX6 5).1 (TX6 5).2.1 (TX6 5).2.2.1 ∈ fo_W0 := fo_in 275 (by decide +kernel) (by decide +kernel)
theorem fl_X6_286 : Cond.fieldLink RX6 286 (TX5 0).1 (TX5 0).2.1 (TX5 0).2.2.1 ∈ fo_W0 := fo_in 176 (by decide +kernel) (by decide +kernel)
theorem fl_X6_294 : Cond.fieldLink RX6 294 (TX2 8).1 (TX2 8).2.1 (TX2 8).2.2.1 ∈ fo_W0 := fo_in 234 (by decide +kernel) (by decide +kernel)
theorem fl_X6_297 : Cond.fieldLink RX6 297 (TX2 4).1 (TX2 4).2.1 (TX2 4).2.2.1 ∈ fo_W0 := fo_in 226 (by decide +kernel) (by decide +kernel)
theorem fl_X6_300 : Cond.fieldLink RX6 300 (TX2 5).1 (TX2 5).2.1 (TX2 5).2.2.1 ∈ fo_W0 := fo_in 228 (by decide +kernel) (by decide +kernel)
theorem fl_X6_303 : Cond.fieldLink RX6 303 (TX2 6).1 (TX2 6).2.1 (TX2 6).2.2.1 ∈ fo_W0 := fo_in 230 (by decide +kernel) (by decide +kernel)
theorem fl_X6_310 : Cond.fieldLink RX6 310 (TX2 7).1 (TX2 7).2.1 (TX2 7).2.2.1 ∈ fo_W0 := fo_in 232 (by decide +kernel) (by decide +kernel)
theorem fl_X7_7 : Cond.fieldLink RX7 7 (TX7 0).1 (TX7 0).2.1 (TX7 0).2.2.1 ∈ fo_W0 := fo_in 1147 (by decide +kernel) (by decide +kernel)
theorem fl_X7_13 : Cond.fieldLink RX7 13 (TX7 1).1 (TX7 1).2.1 (TX7 1).2.2.1 ∈ fo_W0 := fo_in 1148 (by decide +kernel) (by decide +kernel)
theorem fl_X7_16 : Cond.fieldLink RX7 16 (TX7 2).1 (TX7 2).2.1 (TX7 2).2.2.1 ∈ fo_W0 := fo_in 1149 (by decide +kernel) (by decide +kernel)
theorem fl_X7_19 : Cond.fieldLink RX7 19 (TX7 3).1 (TX7 3).2.1 (TX7 3).2.2.1 ∈ fo_W0 := fo_in 1150 (by decide +kernel) (by decide +kernel)
theorem fl_X7_22 : Cond.fieldLink RX7 22 (TX7 4).1 (TX7 4).2.1 (TX7 4).2.2.1 ∈ fo_W0 := fo_in 1151 (by decide +kernel) (by decide +kernel)
theorem fl_X7_25 : Cond.fieldLink RX7 25 (TX7 5).1 (TX7 5).2.1 (TX7 5).2.2.1 ∈ fo_W0 := fo_in 1152 (by decide +kernel) (by decide +kernel)
theorem fl_X7_29 : Cond.fieldLink RX7 29 (TX7 6).1 (TX7 6).2.1 (TX7 6).2.2.1 ∈ fo_W0 := fo_in 1153 (by decide +kernel) (by decide +kernel)
theorem fl_X7_32 : Cond.fieldLink RX7 32 (TX7 7).1 (TX7 7).2.1 (TX7 7).2.2.1 ∈ fo_W0 := fo_in 1154 (by decide +kernel) (by decide +kernel)
theorem fl_X7_35 : Cond.fieldLink RX7 35 (TX7 8).1 (TX7 8).2.1 (TX7 8).2.2.1 ∈ fo_W0 := fo_in 1155 (by decide +kernel) (by decide +kernel)
theorem fl_X7_38 : Cond.fieldLink RX7 38 (TX7 9).1 (TX7 9).2.1 (TX7 9).2.2.1 ∈ fo_W0 := fo_in 1156 (by decide +kernel) (by decide +kernel)
theorem fl_X7_42 : Cond.fieldLink RX7 42 (TX7 10).1 (TX7 10).2.1 (TX7 10).2.2.1 ∈ fo_W0 := fo_in 1157 (by decide +kernel) (by decide +kernel)
theorem fl_X7_45 : Cond.fieldLink RX7 45 (TX7 11).1 (TX7 11).2.1 (TX7 11).2.2.1 ∈ fo_W0 := fo_in 1158 (by decide +kernel) (by decide +kernel)
theorem fl_X7_48 : Cond.fieldLink RX7 48 (TX7 12).1 (TX7 12).2.1 (TX7 12).2.2.1 ∈ fo_W0 := fo_in 1159 (by decide +kernel) (by decide +kernel)
theorem fl_X7_51 : Cond.fieldLink RX7 51 (TX7 13).1 (TX7 13).2.1 (TX7 13).2.2.1 ∈ fo_W0 := fo_in 1160 (by decide +kernel) (by decide +kernel)
theorem fl_X7_54 : Cond.fieldLink RX7 54 (TX7 14).1 (TX7 14).2.1 (TX7 14).2.2.1 ∈ fo_W0 := fo_in 1161 (by decide +kernel) (by decide +kernel)
theorem fl_X7_57 : Cond.fieldLink RX7 57 (TX7 15).1 (TX7 15).2.1 (TX7 15).2.2.1 ∈ fo_W0 := fo_in 1162 (by decide +kernel) (by decide +kernel)
theorem fl_X7_60 : Cond.fieldLink RX7 60 (TX7 16).1 (TX7 16).2.1 (TX7 16).2.2.1 ∈ fo_W0 := fo_in 1163 (by decide +kernel) (by decide +kernel)
theorem fl_X7_63 : Cond.fieldLink RX7 63 (TX7 17).1 (TX7 17).2.1 (TX7 17).2.2.1 ∈ fo_W0 := fo_in 1164 (by decide +kernel) (by decide +kernel)
theorem fl_X7_66 : Cond.fieldLink RX7 66 (TX7 18).1 (TX7 18).2.1 (TX7 18).2.2.1 ∈ fo_W0 := fo_in 1165 (by decide +kernel) (by decide +kernel)
theorem fl_X7_69 : Cond.fieldLink RX7 69 (TX7 19).1 (TX7 19).2.1 (TX7 19).2.2.1 ∈ fo_W0 := fo_in 1166 (by decide +kernel) (by decide +kernel)
theorem fl_X7_72 : Cond.fieldLink RX7 72 (TX7 20).1 (TX7 20).2.1 (TX7 20).2.2.1 ∈ fo_W0 := fo_in 1167 (by decide +kernel) (by decide +kernel)
theorem fl_X7_75 : Cond.fieldLink RX7 75 (TX7 21).1 (TX7 21).2.1 (TX7 21).2.2.1 ∈ fo_W0 := fo_in 1168 (by decide +kernel) (by decide +kernel)
theorem fl_X7_78 : Cond.fieldLink RX7 78 (TX7 22).1 (TX7 22).2.1 (TX7 22).2.2.1 ∈ fo_W0 := fo_in 1169 (by decide +kernel) (by decide +kernel)
theorem fl_X7_81 : Cond.fieldLink RX7 81 (TX7 23).1 (TX7 23).2.1 (TX7 23).2.2.1 ∈ fo_W0 := fo_in 1170 (by decide +kernel) (by decide +kernel)
theorem fm_X6_addProphet : Cond.instanceMethod yX6_addProphet ∈ fo_W0 := fo_in 416 (by decide +kernel) (by decide +kernel)
theorem fs_X6_addProphet : Cond.selects yX6_addProphet.cls yX6_addProphet yX6_addProphet ∈ fo_W0 := fo_in 417 (by decide +kernel) (by decide +kernel)
theorem fc_X6_addProphet : Cond.code yX6_addProphet cX6_addProphet 3 (some .int) ∈ fo_W0 := fo_in 418 (by decide +kernel) (by decide +kernel)
theorem fn_L_7 : Cond.methodLink RL 7 yX6_addProphet ∈ fo_W0 := fo_in 415 (by decide +kernel) (by decide +kernel)
theorem lv_L_7 : fo_lv RL 7 yX6_addProphet cX6_addProphet 3 (some .int) 2 := fo_lv_of fn_L_7 fm_X6_addProphet fs_X6_addProphet fi_X6 fc_X6_addProphet (by decide +kernel)
theorem fm_X6_observe : Cond.instanceMethod yX6_observe ∈ fo_W0 := fo_in 574 (by decide +kernel) (by decide +kernel)
theorem fs_X6_observe : Cond.selects yX6_observe.cls yX6_observe yX6_observe ∈ fo_W0 := fo_in 575 (by decide +kernel) (by decide +kernel)
theorem fc_X6_observe : Cond.code yX6_observe cX6_observe 4 (some .int) ∈ fo_W0 := fo_in 576 (by decide +kernel) (by decide +kernel)
theorem fn_L_17 : Cond.methodLink RL 17 yX6_observe ∈ fo_W0 := fo_in 573 (by decide +kernel) (by decide +kernel)
theorem lv_L_17 : fo_lv RL 17 yX6_observe cX6_observe 4 (some .int) 2 := fo_lv_of fn_L_17 fm_X6_observe fs_X6_observe fi_X6 fc_X6_observe (by decide +kernel)
theorem fm_X6_setLimit : Cond.instanceMethod yX6_setLimit ∈ fo_W0 := fo_in 627 (by decide +kernel) (by decide +kernel)
theorem fs_X6_setLimit : Cond.selects yX6_setLimit.cls yX6_setLimit yX6_setLimit ∈ fo_W0 := fo_in 628 (by decide +kernel) (by decide +kernel)
theorem fc_X6_setLimit : Cond.code yX6_setLimit cX6_setLimit 3 (some .int) ∈ fo_W0 := fo_in 629 (by decide +kernel) (by decide +kernel)
theorem fn_L_23 : Cond.methodLink RL 23 yX6_setLimit ∈ fo_W0 := fo_in 626 (by decide +kernel) (by decide +kernel)
theorem lv_L_23 : fo_lv RL 23 yX6_setLimit cX6_setLimit 3 (some .int) 1 := fo_lv_of fn_L_23 fm_X6_setLimit fs_X6_setLimit fi_X6 fc_X6_setLimit (by decide +kernel)
theorem fm_X6_forget : Cond.instanceMethod yX6_forget ∈ fo_W0 := fo_in 634 (by decide +kernel) (by decide +kernel)
theorem fs_X6_forget : Cond.selects yX6_forget.cls yX6_forget yX6_forget ∈ fo_W0 := fo_in 635 (by decide +kernel) (by decide +kernel)
theorem fc_X6_forget : Cond.code yX6_forget cX6_forget 3 (some .int) ∈ fo_W0 := fo_in 636 (by decide +kernel) (by decide +kernel)
theorem fn_L_27 : Cond.methodLink RL 27 yX6_forget ∈ fo_W0 := fo_in 633 (by decide +kernel) (by decide +kernel)
theorem lv_L_27 : fo_lv RL 27 yX6_forget cX6_forget 3 (some .int) 1 := fo_lv_of fn_L_27 fm_X6_forget fs_X6_forget fi_X6 fc_X6_forget (by decide +kernel)
theorem fm_X6_days : Cond.instanceMethod yX6_days ∈ fo_W0 := fo_in 646 (by decide +kernel) (by decide +kernel)
theorem fs_X6_days : Cond.selects yX6_days.cls yX6_days yX6_days ∈ fo_W0 := fo_in 647 (by decide +kernel) (by decide +kernel)
theorem fc_X6_days : Cond.code yX6_days cX6_days 2 (some .int) ∈ fo_W0 := fo_in 648 (by decide +kernel) (by decide +kernel)
theorem fn_L_30 : Cond.methodLink RL 30 yX6_days ∈ fo_W0 := fo_in 645 (by decide +kernel) (by decide +kernel)
theorem lv_L_30 : fo_lv RL 30 yX6_days cX6_days 2 (some .int) 1 := fo_lv_of fn_L_30 fm_X6_days fs_X6_days fi_X6 fc_X6_days (by decide +kernel)
theorem fm_X6_value : Cond.instanceMethod yX6_value ∈ fo_W0 := fo_in 654 (by decide +kernel) (by decide +kernel)
theorem fs_X6_value : Cond.selects yX6_value.cls yX6_value yX6_value ∈ fo_W0 := fo_in 655 (by decide +kernel) (by decide +kernel)
theorem fc_X6_value : Cond.code yX6_value cX6_value 4 (some .int) ∈ fo_W0 := fo_in 656 (by decide +kernel) (by decide +kernel)
theorem fn_L_33 : Cond.methodLink RL 33 yX6_value ∈ fo_W0 := fo_in 653 (by decide +kernel) (by decide +kernel)
theorem lv_L_33 : fo_lv RL 33 yX6_value cX6_value 4 (some .int) 2 := fo_lv_of fn_L_33 fm_X6_value fs_X6_value fi_X6 fc_X6_value (by decide +kernel)
theorem fm_X6_range : Cond.instanceMethod yX6_range ∈ fo_W0 := fo_in 680 (by decide +kernel) (by decide +kernel)
theorem fs_X6_range : Cond.selects yX6_range.cls yX6_range yX6_range ∈ fo_W0 := fo_in 681 (by decide +kernel) (by decide +kernel)
theorem fc_X6_range : Cond.code yX6_range cX6_range 3 (some .int) ∈ fo_W0 := fo_in 682 (by decide +kernel) (by decide +kernel)
theorem fn_L_38 : Cond.methodLink RL 38 yX6_range ∈ fo_W0 := fo_in 679 (by decide +kernel) (by decide +kernel)
theorem lv_L_38 : fo_lv RL 38 yX6_range cX6_range 3 (some .int) 1 := fo_lv_of fn_L_38 fm_X6_range fs_X6_range fi_X6 fc_X6_range (by decide +kernel)
theorem fm_X6_movingAverage : Cond.instanceMethod yX6_movingAverage ∈ fo_W0 := fo_in 695 (by decide +kernel) (by decide +kernel)
theorem fs_X6_movingAverage : Cond.selects yX6_movingAverage.cls yX6_movingAverage yX6_movingAverage ∈ fo_W0 := fo_in 696 (by decide +kernel) (by decide +kernel)
theorem fc_X6_movingAverage : Cond.code yX6_movingAverage cX6_movingAverage 4 (some .double) ∈ fo_W0 := fo_in 697 (by decide +kernel) (by decide +kernel)
theorem fn_L_41 : Cond.methodLink RL 41 yX6_movingAverage ∈ fo_W0 := fo_in 694 (by decide +kernel) (by decide +kernel)
theorem lv_L_41 : fo_lv RL 41 yX6_movingAverage cX6_movingAverage 4 (some .double) 2 := fo_lv_of fn_L_41 fm_X6_movingAverage fs_X6_movingAverage fi_X6 fc_X6_movingAverage (by decide +kernel)
theorem fm_X6_movingAverageBySums : Cond.instanceMethod yX6_movingAverageBySums ∈ fo_W0 := fo_in 707 (by decide +kernel) (by decide +kernel)
theorem fs_X6_movingAverageBySums : Cond.selects yX6_movingAverageBySums.cls yX6_movingAverageBySums yX6_movingAverageBySums ∈ fo_W0 := fo_in 708 (by decide +kernel) (by decide +kernel)
theorem fc_X6_movingAverageBySums : Cond.code yX6_movingAverageBySums cX6_movingAverageBySums 3 (some .double) ∈ fo_W0 := fo_in 709 (by decide +kernel) (by decide +kernel)
theorem fn_L_45 : Cond.methodLink RL 45 yX6_movingAverageBySums ∈ fo_W0 := fo_in 706 (by decide +kernel) (by decide +kernel)
theorem lv_L_45 : fo_lv RL 45 yX6_movingAverageBySums cX6_movingAverageBySums 3 (some .double) 2 := fo_lv_of fn_L_45 fm_X6_movingAverageBySums fs_X6_movingAverageBySums fi_X6 fc_X6_movingAverageBySums (by decide +kernel)
theorem fm_X6_median : Cond.instanceMethod yX6_median ∈ fo_W0 := fo_in 718 (by decide +kernel) (by decide +kernel)
theorem fs_X6_median : Cond.selects yX6_median.cls yX6_median yX6_median ∈ fo_W0 := fo_in 719 (by decide +kernel) (by decide +kernel)
theorem fc_X6_median : Cond.code yX6_median cX6_median 4 (some .int) ∈ fo_W0 := fo_in 720 (by decide +kernel) (by decide +kernel)
theorem fn_L_48 : Cond.methodLink RL 48 yX6_median ∈ fo_W0 := fo_in 717 (by decide +kernel) (by decide +kernel)
theorem lv_L_48 : fo_lv RL 48 yX6_median cX6_median 4 (some .int) 2 := fo_lv_of fn_L_48 fm_X6_median fs_X6_median fi_X6 fc_X6_median (by decide +kernel)
theorem fm_X6_medianByCounting : Cond.instanceMethod yX6_medianByCounting ∈ fo_W0 := fo_in 726 (by decide +kernel) (by decide +kernel)
theorem fs_X6_medianByCounting : Cond.selects yX6_medianByCounting.cls yX6_medianByCounting yX6_medianByCounting ∈ fo_W0 := fo_in 727 (by decide +kernel) (by decide +kernel)
theorem fc_X6_medianByCounting : Cond.code yX6_medianByCounting cX6_medianByCounting 3 (some .int) ∈ fo_W0 := fo_in 728 (by decide +kernel) (by decide +kernel)
theorem fn_L_51 : Cond.methodLink RL 51 yX6_medianByCounting ∈ fo_W0 := fo_in 725 (by decide +kernel) (by decide +kernel)
theorem lv_L_51 : fo_lv RL 51 yX6_medianByCounting cX6_medianByCounting 3 (some .int) 2 := fo_lv_of fn_L_51 fm_X6_medianByCounting fs_X6_medianByCounting fi_X6 fc_X6_medianByCounting (by decide +kernel)
theorem fm_X6_smoothed : Cond.instanceMethod yX6_smoothed ∈ fo_W0 := fo_in 741 (by decide +kernel) (by decide +kernel)
theorem fs_X6_smoothed : Cond.selects yX6_smoothed.cls yX6_smoothed yX6_smoothed ∈ fo_W0 := fo_in 742 (by decide +kernel) (by decide +kernel)
theorem fc_X6_smoothed : Cond.code yX6_smoothed cX6_smoothed 4 (some .double) ∈ fo_W0 := fo_in 743 (by decide +kernel) (by decide +kernel)
theorem fn_L_54 : Cond.methodLink RL 54 yX6_smoothed ∈ fo_W0 := fo_in 740 (by decide +kernel) (by decide +kernel)
theorem lv_L_54 : fo_lv RL 54 yX6_smoothed cX6_smoothed 4 (some .double) 2 := fo_lv_of fn_L_54 fm_X6_smoothed fs_X6_smoothed fi_X6 fc_X6_smoothed (by decide +kernel)
theorem fm_X6_isOutlier : Cond.instanceMethod yX6_isOutlier ∈ fo_W0 := fo_in 749 (by decide +kernel) (by decide +kernel)
theorem fs_X6_isOutlier : Cond.selects yX6_isOutlier.cls yX6_isOutlier yX6_isOutlier ∈ fo_W0 := fo_in 750 (by decide +kernel) (by decide +kernel)
theorem fc_X6_isOutlier : Cond.code yX6_isOutlier cX6_isOutlier 4 (some .boolean) ∈ fo_W0 := fo_in 751 (by decide +kernel) (by decide +kernel)
theorem fn_L_57 : Cond.methodLink RL 57 yX6_isOutlier ∈ fo_W0 := fo_in 748 (by decide +kernel) (by decide +kernel)
theorem lv_L_57 : fo_lv RL 57 yX6_isOutlier cX6_isOutlier 4 (some .boolean) 2 := fo_lv_of fn_L_57 fm_X6_isOutlier fs_X6_isOutlier fi_X6 fc_X6_isOutlier (by decide +kernel)
theorem fm_X6_outliers : Cond.instanceMethod yX6_outliers ∈ fo_W0 := fo_in 764 (by decide +kernel) (by decide +kernel)
theorem fs_X6_outliers : Cond.selects yX6_outliers.cls yX6_outliers yX6_outliers ∈ fo_W0 := fo_in 765 (by decide +kernel) (by decide +kernel)
theorem fc_X6_outliers : Cond.code yX6_outliers cX6_outliers 2 (some .int) ∈ fo_W0 := fo_in 766 (by decide +kernel) (by decide +kernel)
theorem fn_L_61 : Cond.methodLink RL 61 yX6_outliers ∈ fo_W0 := fo_in 763 (by decide +kernel) (by decide +kernel)
theorem lv_L_61 : fo_lv RL 61 yX6_outliers cX6_outliers 2 (some .int) 1 := fo_lv_of fn_L_61 fm_X6_outliers fs_X6_outliers fi_X6 fc_X6_outliers (by decide +kernel)
theorem fm_X6_longestRise : Cond.instanceMethod yX6_longestRise ∈ fo_W0 := fo_in 776 (by decide +kernel) (by decide +kernel)
theorem fs_X6_longestRise : Cond.selects yX6_longestRise.cls yX6_longestRise yX6_longestRise ∈ fo_W0 := fo_in 777 (by decide +kernel) (by decide +kernel)
theorem fc_X6_longestRise : Cond.code yX6_longestRise cX6_longestRise 2 (some .int) ∈ fo_W0 := fo_in 778 (by decide +kernel) (by decide +kernel)
theorem fn_L_64 : Cond.methodLink RL 64 yX6_longestRise ∈ fo_W0 := fo_in 775 (by decide +kernel) (by decide +kernel)
theorem lv_L_64 : fo_lv RL 64 yX6_longestRise cX6_longestRise 2 (some .int) 1 := fo_lv_of fn_L_64 fm_X6_longestRise fs_X6_longestRise fi_X6 fc_X6_longestRise (by decide +kernel)
theorem fm_X6_valuesBetween : Cond.instanceMethod yX6_valuesBetween ∈ fo_W0 := fo_in 787 (by decide +kernel) (by decide +kernel)
theorem fs_X6_valuesBetween : Cond.selects yX6_valuesBetween.cls yX6_valuesBetween yX6_valuesBetween ∈ fo_W0 := fo_in 788 (by decide +kernel) (by decide +kernel)
theorem fc_X6_valuesBetween : Cond.code yX6_valuesBetween cX6_valuesBetween 4 (some .int) ∈ fo_W0 := fo_in 789 (by decide +kernel) (by decide +kernel)
theorem fn_L_67 : Cond.methodLink RL 67 yX6_valuesBetween ∈ fo_W0 := fo_in 786 (by decide +kernel) (by decide +kernel)
theorem lv_L_67 : fo_lv RL 67 yX6_valuesBetween cX6_valuesBetween 4 (some .int) 3 := fo_lv_of fn_L_67 fm_X6_valuesBetween fs_X6_valuesBetween fi_X6 fc_X6_valuesBetween (by decide +kernel)
theorem fm_X6_kind : Cond.instanceMethod yX6_kind ∈ fo_W0 := fo_in 795 (by decide +kernel) (by decide +kernel)
theorem fs_X6_kind : Cond.selects yX6_kind.cls yX6_kind yX6_kind ∈ fo_W0 := fo_in 796 (by decide +kernel) (by decide +kernel)
theorem fc_X6_kind : Cond.code yX6_kind cX6_kind 2 (some .char) ∈ fo_W0 := fo_in 797 (by decide +kernel) (by decide +kernel)
theorem fn_L_71 : Cond.methodLink RL 71 yX6_kind ∈ fo_W0 := fo_in 794 (by decide +kernel) (by decide +kernel)
theorem lv_L_71 : fo_lv RL 71 yX6_kind cX6_kind 2 (some .char) 1 := fo_lv_of fn_L_71 fm_X6_kind fs_X6_kind fi_X6 fc_X6_kind (by decide +kernel)
theorem fm_X6_parameter : Cond.instanceMethod yX6_parameter ∈ fo_W0 := fo_in 806 (by decide +kernel) (by decide +kernel)
theorem fs_X6_parameter : Cond.selects yX6_parameter.cls yX6_parameter yX6_parameter ∈ fo_W0 := fo_in 807 (by decide +kernel) (by decide +kernel)
theorem fc_X6_parameter : Cond.code yX6_parameter cX6_parameter 2 (some .int) ∈ fo_W0 := fo_in 808 (by decide +kernel) (by decide +kernel)
theorem fn_L_75 : Cond.methodLink RL 75 yX6_parameter ∈ fo_W0 := fo_in 805 (by decide +kernel) (by decide +kernel)
theorem lv_L_75 : fo_lv RL 75 yX6_parameter cX6_parameter 2 (some .int) 1 := fo_lv_of fn_L_75 fm_X6_parameter fs_X6_parameter fi_X6 fc_X6_parameter (by decide +kernel)
theorem fm_X6_hasForecast : Cond.instanceMethod yX6_hasForecast ∈ fo_W0 := fo_in 813 (by decide +kernel) (by decide +kernel)
theorem fs_X6_hasForecast : Cond.selects yX6_hasForecast.cls yX6_hasForecast yX6_hasForecast ∈ fo_W0 := fo_in 814 (by decide +kernel) (by decide +kernel)
theorem fc_X6_hasForecast : Cond.code yX6_hasForecast cX6_hasForecast 4 (some .boolean) ∈ fo_W0 := fo_in 815 (by decide +kernel) (by decide +kernel)
theorem fn_L_78 : Cond.methodLink RL 78 yX6_hasForecast ∈ fo_W0 := fo_in 812 (by decide +kernel) (by decide +kernel)
theorem lv_L_78 : fo_lv RL 78 yX6_hasForecast cX6_hasForecast 4 (some .boolean) 2 := fo_lv_of fn_L_78 fm_X6_hasForecast fs_X6_hasForecast fi_X6 fc_X6_hasForecast (by decide +kernel)
theorem fm_X6_forecast : Cond.instanceMethod yX6_forecast ∈ fo_W0 := fo_in 821 (by decide +kernel) (by decide +kernel)
theorem fs_X6_forecast : Cond.selects yX6_forecast.cls yX6_forecast yX6_forecast ∈ fo_W0 := fo_in 822 (by decide +kernel) (by decide +kernel)
theorem fc_X6_forecast : Cond.code yX6_forecast cX6_forecast 3 (some .double) ∈ fo_W0 := fo_in 823 (by decide +kernel) (by decide +kernel)
theorem fn_L_81 : Cond.methodLink RL 81 yX6_forecast ∈ fo_W0 := fo_in 820 (by decide +kernel) (by decide +kernel)
theorem lv_L_81 : fo_lv RL 81 yX6_forecast cX6_forecast 3 (some .double) 2 := fo_lv_of fn_L_81 fm_X6_forecast fs_X6_forecast fi_X6 fc_X6_forecast (by decide +kernel)
theorem fm_X6_forecastBits : Cond.instanceMethod yX6_forecastBits ∈ fo_W0 := fo_in 833 (by decide +kernel) (by decide +kernel)
theorem fs_X6_forecastBits : Cond.selects yX6_forecastBits.cls yX6_forecastBits yX6_forecastBits ∈ fo_W0 := fo_in 834 (by decide +kernel) (by decide +kernel)
theorem fc_X6_forecastBits : Cond.code yX6_forecastBits cX6_forecastBits 3 (some .long) ∈ fo_W0 := fo_in 835 (by decide +kernel) (by decide +kernel)
theorem fn_L_84 : Cond.methodLink RL 84 yX6_forecastBits ∈ fo_W0 := fo_in 832 (by decide +kernel) (by decide +kernel)
theorem lv_L_84 : fo_lv RL 84 yX6_forecastBits cX6_forecastBits 3 (some .long) 2 := fo_lv_of fn_L_84 fm_X6_forecastBits fs_X6_forecastBits fi_X6 fc_X6_forecastBits (by decide +kernel)
theorem fm_X6_errors : Cond.instanceMethod yX6_errors ∈ fo_W0 := fo_in 848 (by decide +kernel) (by decide +kernel)
theorem fs_X6_errors : Cond.selects yX6_errors.cls yX6_errors yX6_errors ∈ fo_W0 := fo_in 849 (by decide +kernel) (by decide +kernel)
theorem fc_X6_errors : Cond.code yX6_errors cX6_errors 4 (some .int) ∈ fo_W0 := fo_in 850 (by decide +kernel) (by decide +kernel)
theorem fn_L_88 : Cond.methodLink RL 88 yX6_errors ∈ fo_W0 := fo_in 847 (by decide +kernel) (by decide +kernel)
theorem lv_L_88 : fo_lv RL 88 yX6_errors cX6_errors 4 (some .int) 2 := fo_lv_of fn_L_88 fm_X6_errors fs_X6_errors fi_X6 fc_X6_errors (by decide +kernel)
theorem fm_X6_errorSum : Cond.instanceMethod yX6_errorSum ∈ fo_W0 := fo_in 855 (by decide +kernel) (by decide +kernel)
theorem fs_X6_errorSum : Cond.selects yX6_errorSum.cls yX6_errorSum yX6_errorSum ∈ fo_W0 := fo_in 856 (by decide +kernel) (by decide +kernel)
theorem fc_X6_errorSum : Cond.code yX6_errorSum cX6_errorSum 4 (some .double) ∈ fo_W0 := fo_in 857 (by decide +kernel) (by decide +kernel)
theorem fn_L_91 : Cond.methodLink RL 91 yX6_errorSum ∈ fo_W0 := fo_in 854 (by decide +kernel) (by decide +kernel)
theorem lv_L_91 : fo_lv RL 91 yX6_errorSum cX6_errorSum 4 (some .double) 2 := fo_lv_of fn_L_91 fm_X6_errorSum fs_X6_errorSum fi_X6 fc_X6_errorSum (by decide +kernel)
theorem fm_X6_errorSumByBacktest : Cond.instanceMethod yX6_errorSumByBacktest ∈ fo_W0 := fo_in 862 (by decide +kernel) (by decide +kernel)
theorem fs_X6_errorSumByBacktest : Cond.selects yX6_errorSumByBacktest.cls yX6_errorSumByBacktest yX6_errorSumByBacktest ∈ fo_W0 := fo_in 863 (by decide +kernel) (by decide +kernel)
theorem fc_X6_errorSumByBacktest : Cond.code yX6_errorSumByBacktest cX6_errorSumByBacktest 4 (some .double) ∈ fo_W0 := fo_in 864 (by decide +kernel) (by decide +kernel)
theorem fn_L_94 : Cond.methodLink RL 94 yX6_errorSumByBacktest ∈ fo_W0 := fo_in 861 (by decide +kernel) (by decide +kernel)
theorem lv_L_94 : fo_lv RL 94 yX6_errorSumByBacktest cX6_errorSumByBacktest 4 (some .double) 2 := fo_lv_of fn_L_94 fm_X6_errorSumByBacktest fs_X6_errorSumByBacktest fi_X6 fc_X6_errorSumByBacktest (by decide +kernel)
theorem fm_X6_points : Cond.instanceMethod yX6_points ∈ fo_W0 := fo_in 870 (by decide +kernel) (by decide +kernel)
theorem fs_X6_points : Cond.selects yX6_points.cls yX6_points yX6_points ∈ fo_W0 := fo_in 871 (by decide +kernel) (by decide +kernel)
theorem fc_X6_points : Cond.code yX6_points cX6_points 4 (some .int) ∈ fo_W0 := fo_in 872 (by decide +kernel) (by decide +kernel)
theorem fn_L_97 : Cond.methodLink RL 97 yX6_points ∈ fo_W0 := fo_in 869 (by decide +kernel) (by decide +kernel)
theorem lv_L_97 : fo_lv RL 97 yX6_points cX6_points 4 (some .int) 2 := fo_lv_of fn_L_97 fm_X6_points fs_X6_points fi_X6 fc_X6_points (by decide +kernel)
theorem fm_X6_meanError : Cond.instanceMethod yX6_meanError ∈ fo_W0 := fo_in 891 (by decide +kernel) (by decide +kernel)
theorem fs_X6_meanError : Cond.selects yX6_meanError.cls yX6_meanError yX6_meanError ∈ fo_W0 := fo_in 892 (by decide +kernel) (by decide +kernel)
theorem fc_X6_meanError : Cond.code yX6_meanError cX6_meanError 4 (some .double) ∈ fo_W0 := fo_in 893 (by decide +kernel) (by decide +kernel)
theorem fn_L_100 : Cond.methodLink RL 100 yX6_meanError ∈ fo_W0 := fo_in 890 (by decide +kernel) (by decide +kernel)
theorem lv_L_100 : fo_lv RL 100 yX6_meanError cX6_meanError 4 (some .double) 1 := fo_lv_of fn_L_100 fm_X6_meanError fs_X6_meanError fi_X6 fc_X6_meanError (by decide +kernel)
theorem fm_X6_prophetByPoints : Cond.instanceMethod yX6_prophetByPoints ∈ fo_W0 := fo_in 911 (by decide +kernel) (by decide +kernel)
theorem fs_X6_prophetByPoints : Cond.selects yX6_prophetByPoints.cls yX6_prophetByPoints yX6_prophetByPoints ∈ fo_W0 := fo_in 912 (by decide +kernel) (by decide +kernel)
theorem fc_X6_prophetByPoints : Cond.code yX6_prophetByPoints cX6_prophetByPoints 3 (some .int) ∈ fo_W0 := fo_in 913 (by decide +kernel) (by decide +kernel)
theorem fn_L_106 : Cond.methodLink RL 106 yX6_prophetByPoints ∈ fo_W0 := fo_in 910 (by decide +kernel) (by decide +kernel)
theorem lv_L_106 : fo_lv RL 106 yX6_prophetByPoints cX6_prophetByPoints 3 (some .int) 1 := fo_lv_of fn_L_106 fm_X6_prophetByPoints fs_X6_prophetByPoints fi_X6 fc_X6_prophetByPoints (by decide +kernel)
theorem fm_X6_bestProphet : Cond.instanceMethod yX6_bestProphet ∈ fo_W0 := fo_in 927 (by decide +kernel) (by decide +kernel)
theorem fs_X6_bestProphet : Cond.selects yX6_bestProphet.cls yX6_bestProphet yX6_bestProphet ∈ fo_W0 := fo_in 928 (by decide +kernel) (by decide +kernel)
theorem fc_X6_bestProphet : Cond.code yX6_bestProphet cX6_bestProphet 2 (some .int) ∈ fo_W0 := fo_in 929 (by decide +kernel) (by decide +kernel)
theorem fn_L_109 : Cond.methodLink RL 109 yX6_bestProphet ∈ fo_W0 := fo_in 926 (by decide +kernel) (by decide +kernel)
theorem lv_L_109 : fo_lv RL 109 yX6_bestProphet cX6_bestProphet 2 (some .int) 0 := fo_lv_of fn_L_109 fm_X6_bestProphet fs_X6_bestProphet fi_X6 fc_X6_bestProphet (by decide +kernel)
theorem fm_X6_outlierShare : Cond.instanceMethod yX6_outlierShare ∈ fo_W0 := fo_in 940 (by decide +kernel) (by decide +kernel)
theorem fs_X6_outlierShare : Cond.selects yX6_outlierShare.cls yX6_outlierShare yX6_outlierShare ∈ fo_W0 := fo_in 941 (by decide +kernel) (by decide +kernel)
theorem fc_X6_outlierShare : Cond.code yX6_outlierShare cX6_outlierShare 2 (some .float) ∈ fo_W0 := fo_in 942 (by decide +kernel) (by decide +kernel)
theorem fn_L_113 : Cond.methodLink RL 113 yX6_outlierShare ∈ fo_W0 := fo_in 939 (by decide +kernel) (by decide +kernel)
theorem lv_L_113 : fo_lv RL 113 yX6_outlierShare cX6_outlierShare 2 (some .float) 0 := fo_lv_of fn_L_113 fm_X6_outlierShare fs_X6_outlierShare fi_X6 fc_X6_outlierShare (by decide +kernel)
theorem fm_X6_writeSeries : Cond.instanceMethod yX6_writeSeries ∈ fo_W0 := fo_in 953 (by decide +kernel) (by decide +kernel)
theorem fs_X6_writeSeries : Cond.selects yX6_writeSeries.cls yX6_writeSeries yX6_writeSeries ∈ fo_W0 := fo_in 954 (by decide +kernel) (by decide +kernel)
theorem fc_X6_writeSeries : Cond.code yX6_writeSeries cX6_writeSeries 4 (some .int) ∈ fo_W0 := fo_in 955 (by decide +kernel) (by decide +kernel)
theorem fn_L_117 : Cond.methodLink RL 117 yX6_writeSeries ∈ fo_W0 := fo_in 952 (by decide +kernel) (by decide +kernel)
theorem lv_L_117 : fo_lv RL 117 yX6_writeSeries cX6_writeSeries 4 (some .int) 1 := fo_lv_of fn_L_117 fm_X6_writeSeries fs_X6_writeSeries fi_X6 fc_X6_writeSeries (by decide +kernel)
theorem fm_X6_charAt : Cond.instanceMethod yX6_charAt ∈ fo_W0 := fo_in 960 (by decide +kernel) (by decide +kernel)
theorem fs_X6_charAt : Cond.selects yX6_charAt.cls yX6_charAt yX6_charAt ∈ fo_W0 := fo_in 961 (by decide +kernel) (by decide +kernel)
theorem fc_X6_charAt : Cond.code yX6_charAt cX6_charAt 2 (some .char) ∈ fo_W0 := fo_in 962 (by decide +kernel) (by decide +kernel)
theorem fn_L_120 : Cond.methodLink RL 120 yX6_charAt ∈ fo_W0 := fo_in 959 (by decide +kernel) (by decide +kernel)
theorem lv_L_120 : fo_lv RL 120 yX6_charAt cX6_charAt 2 (some .char) 1 := fo_lv_of fn_L_120 fm_X6_charAt fs_X6_charAt fi_X6 fc_X6_charAt (by decide +kernel)
theorem fm_X6_type : Cond.instanceMethod yX6_type ∈ fo_W0 := fo_in 967 (by decide +kernel) (by decide +kernel)
theorem fs_X6_type : Cond.selects yX6_type.cls yX6_type yX6_type ∈ fo_W0 := fo_in 968 (by decide +kernel) (by decide +kernel)
theorem fc_X6_type : Cond.code yX6_type cX6_type 2 (some .int) ∈ fo_W0 := fo_in 969 (by decide +kernel) (by decide +kernel)
theorem fn_L_123 : Cond.methodLink RL 123 yX6_type ∈ fo_W0 := fo_in 966 (by decide +kernel) (by decide +kernel)
theorem lv_L_123 : fo_lv RL 123 yX6_type cX6_type 2 (some .int) 1 := fo_lv_of fn_L_123 fm_X6_type fs_X6_type fi_X6 fc_X6_type (by decide +kernel)
theorem fm_X6_run : Cond.instanceMethod yX6_run ∈ fo_W0 := fo_in 979 (by decide +kernel) (by decide +kernel)
theorem fs_X6_run : Cond.selects yX6_run.cls yX6_run yX6_run ∈ fo_W0 := fo_in 980 (by decide +kernel) (by decide +kernel)
theorem fc_X6_run : Cond.code yX6_run cX6_run 3 (some .int) ∈ fo_W0 := fo_in 981 (by decide +kernel) (by decide +kernel)
theorem fn_L_127 : Cond.methodLink RL 127 yX6_run ∈ fo_W0 := fo_in 978 (by decide +kernel) (by decide +kernel)
theorem lv_L_127 : fo_lv RL 127 yX6_run cX6_run 3 (some .int) 0 := fo_lv_of fn_L_127 fm_X6_run fs_X6_run fi_X6 fc_X6_run (by decide +kernel)
theorem fm_X6_errorPosition : Cond.instanceMethod yX6_errorPosition ∈ fo_W0 := fo_in 1113 (by decide +kernel) (by decide +kernel)
theorem fs_X6_errorPosition : Cond.selects yX6_errorPosition.cls yX6_errorPosition yX6_errorPosition ∈ fo_W0 := fo_in 1114 (by decide +kernel) (by decide +kernel)
theorem fc_X6_errorPosition : Cond.code yX6_errorPosition cX6_errorPosition 1 (some .int) ∈ fo_W0 := fo_in 1115 (by decide +kernel) (by decide +kernel)
theorem fn_L_132 : Cond.methodLink RL 132 yX6_errorPosition ∈ fo_W0 := fo_in 1112 (by decide +kernel) (by decide +kernel)
theorem lv_L_132 : fo_lv RL 132 yX6_errorPosition cX6_errorPosition 1 (some .int) 0 := fo_lv_of fn_L_132 fm_X6_errorPosition fs_X6_errorPosition fi_X6 fc_X6_errorPosition (by decide +kernel)
theorem fm_X6_failedCommand : Cond.instanceMethod yX6_failedCommand ∈ fo_W0 := fo_in 1120 (by decide +kernel) (by decide +kernel)
theorem fs_X6_failedCommand : Cond.selects yX6_failedCommand.cls yX6_failedCommand yX6_failedCommand ∈ fo_W0 := fo_in 1121 (by decide +kernel) (by decide +kernel)
theorem fc_X6_failedCommand : Cond.code yX6_failedCommand cX6_failedCommand 1 (some .int) ∈ fo_W0 := fo_in 1122 (by decide +kernel) (by decide +kernel)
theorem fn_L_135 : Cond.methodLink RL 135 yX6_failedCommand ∈ fo_W0 := fo_in 1119 (by decide +kernel) (by decide +kernel)
theorem lv_L_135 : fo_lv RL 135 yX6_failedCommand cX6_failedCommand 1 (some .int) 0 := fo_lv_of fn_L_135 fm_X6_failedCommand fs_X6_failedCommand fi_X6 fc_X6_failedCommand (by decide +kernel)
theorem fm_X6_undo : Cond.instanceMethod yX6_undo ∈ fo_W0 := fo_in 1127 (by decide +kernel) (by decide +kernel)
theorem fs_X6_undo : Cond.selects yX6_undo.cls yX6_undo yX6_undo ∈ fo_W0 := fo_in 1128 (by decide +kernel) (by decide +kernel)
theorem fc_X6_undo : Cond.code yX6_undo cX6_undo 1 (some .int) ∈ fo_W0 := fo_in 1129 (by decide +kernel) (by decide +kernel)
theorem fn_L_138 : Cond.methodLink RL 138 yX6_undo ∈ fo_W0 := fo_in 1126 (by decide +kernel) (by decide +kernel)
theorem lv_L_138 : fo_lv RL 138 yX6_undo cX6_undo 1 (some .int) 0 := fo_lv_of fn_L_138 fm_X6_undo fs_X6_undo fi_X6 fc_X6_undo (by decide +kernel)
theorem fm_X6_restore : Cond.instanceMethod yX6_restore ∈ fo_W0 := fo_in 1138 (by decide +kernel) (by decide +kernel)
theorem fs_X6_restore : Cond.selects yX6_restore.cls yX6_restore yX6_restore ∈ fo_W0 := fo_in 1139 (by decide +kernel) (by decide +kernel)
theorem fc_X6_restore : Cond.code yX6_restore cX6_restore 1 (some .int) ∈ fo_W0 := fo_in 1140 (by decide +kernel) (by decide +kernel)
theorem fn_L_141 : Cond.methodLink RL 141 yX6_restore ∈ fo_W0 := fo_in 1137 (by decide +kernel) (by decide +kernel)
theorem lv_L_141 : fo_lv RL 141 yX6_restore cX6_restore 1 (some .int) 0 := fo_lv_of fn_L_141 fm_X6_restore fs_X6_restore fi_X6 fc_X6_restore (by decide +kernel)
theorem ft_L_addProphet : Cond.static yL_addProphet ∈ fo_W0 := fo_in 411 (by decide +kernel) (by decide +kernel)
set_option maxRecDepth 20000 in
theorem fc_L_addProphet : Cond.codeWith yL_addProphet cL_addProphet 5 (some .int) [(0, 10, 13, 13), (0, 10, 17, 15)] ∈ fo_W0 := fo_in 412 rfl rfl
theorem fn_L_148 : Cond.methodLink RL 148 yL_addProphet ∈ fo_W0 := fo_in 410 (by decide +kernel) (by decide +kernel)
theorem fm_X7_addProphet : Cond.instanceMethod yX7_addProphet ∈ fo_W0 := fo_in 1225 (by decide +kernel) (by decide +kernel)
theorem fs_X7_addProphet : Cond.selects yX7_addProphet.cls yX7_addProphet yX7_addProphet ∈ fo_W0 := fo_in 1226 (by decide +kernel) (by decide +kernel)
theorem fc_X7_addProphet : Cond.code yX7_addProphet cX7_addProphet 4 (some .int) ∈ fo_W0 := fo_in 1227 (by decide +kernel) (by decide +kernel)
theorem fn_L_153 : Cond.methodLink RL 153 yX7_addProphet ∈ fo_W0 := fo_in 1224 (by decide +kernel) (by decide +kernel)
theorem lv_L_153 : fo_lv RL 153 yX7_addProphet cX7_addProphet 4 (some .int) 2 := fo_lv_of fn_L_153 fm_X7_addProphet fs_X7_addProphet fi_X7 fc_X7_addProphet (by decide +kernel)
theorem fm_X7_thrown : Cond.instanceMethod yX7_thrown ∈ fo_W0 := fo_in 1221 (by decide +kernel) (by decide +kernel)
theorem fs_X7_thrown : Cond.selects yX7_thrown.cls yX7_thrown yX7_thrown ∈ fo_W0 := fo_in 1222 (by decide +kernel) (by decide +kernel)
theorem fc_X7_thrown : Cond.code yX7_thrown cX7_thrown 1 (some .int) ∈ fo_W0 := fo_in 1223 (by decide +kernel) (by decide +kernel)
theorem fn_L_154 : Cond.methodLink RL 154 yX7_thrown ∈ fo_W0 := fo_in 1220 (by decide +kernel) (by decide +kernel)
theorem lv_L_154 : fo_lv RL 154 yX7_thrown cX7_thrown 1 (some .int) 0 := fo_lv_of fn_L_154 fm_X7_thrown fs_X7_thrown fi_X7 fc_X7_thrown (by decide +kernel)
theorem ft_L_observe : Cond.static yL_observe ∈ fo_W0 := fo_in 538 (by decide +kernel) (by decide +kernel)
set_option maxRecDepth 20000 in
theorem fc_L_observe : Cond.codeWith yL_observe cL_observe 5 (some .int) [(0, 10, 13, 21), (0, 10, 17, 13), (0, 10, 21, 15)] ∈ fo_W0 := fo_in 539 rfl rfl
theorem fn_L_157 : Cond.methodLink RL 157 yL_observe ∈ fo_W0 := fo_in 537 (by decide +kernel) (by decide +kernel)
theorem fm_X7_observe : Cond.instanceMethod yX7_observe ∈ fo_W0 := fo_in 1266 (by decide +kernel) (by decide +kernel)
theorem fs_X7_observe : Cond.selects yX7_observe.cls yX7_observe yX7_observe ∈ fo_W0 := fo_in 1267 (by decide +kernel) (by decide +kernel)
theorem fc_X7_observe : Cond.code yX7_observe cX7_observe 4 (some .int) ∈ fo_W0 := fo_in 1268 (by decide +kernel) (by decide +kernel)
theorem fn_L_160 : Cond.methodLink RL 160 yX7_observe ∈ fo_W0 := fo_in 1265 (by decide +kernel) (by decide +kernel)
theorem lv_L_160 : fo_lv RL 160 yX7_observe cX7_observe 4 (some .int) 2 := fo_lv_of fn_L_160 fm_X7_observe fs_X7_observe fi_X7 fc_X7_observe (by decide +kernel)
theorem ft_L_setLimit : Cond.static yL_setLimit ∈ fo_W0 := fo_in 624 (by decide +kernel) (by decide +kernel)
set_option maxRecDepth 20000 in
theorem fc_L_setLimit : Cond.codeWith yL_setLimit cL_setLimit 4 (some .int) [(0, 9, 12, 13)] ∈ fo_W0 := fo_in 625 rfl rfl
theorem fn_L_161 : Cond.methodLink RL 161 yL_setLimit ∈ fo_W0 := fo_in 623 (by decide +kernel) (by decide +kernel)
theorem fm_X7_setLimit : Cond.instanceMethod yX7_setLimit ∈ fo_W0 := fo_in 1281 (by decide +kernel) (by decide +kernel)
theorem fs_X7_setLimit : Cond.selects yX7_setLimit.cls yX7_setLimit yX7_setLimit ∈ fo_W0 := fo_in 1282 (by decide +kernel) (by decide +kernel)
theorem fc_X7_setLimit : Cond.code yX7_setLimit cX7_setLimit 2 (some .int) ∈ fo_W0 := fo_in 1283 (by decide +kernel) (by decide +kernel)
theorem fn_L_164 : Cond.methodLink RL 164 yX7_setLimit ∈ fo_W0 := fo_in 1280 (by decide +kernel) (by decide +kernel)
theorem lv_L_164 : fo_lv RL 164 yX7_setLimit cX7_setLimit 2 (some .int) 1 := fo_lv_of fn_L_164 fm_X7_setLimit fs_X7_setLimit fi_X7 fc_X7_setLimit (by decide +kernel)
theorem ft_L_forget : Cond.static yL_forget ∈ fo_W0 := fo_in 631 (by decide +kernel) (by decide +kernel)
set_option maxRecDepth 20000 in
theorem fc_L_forget : Cond.codeWith yL_forget cL_forget 4 (some .int) [(0, 9, 12, 21)] ∈ fo_W0 := fo_in 632 rfl rfl
theorem fn_L_165 : Cond.methodLink RL 165 yL_forget ∈ fo_W0 := fo_in 630 (by decide +kernel) (by decide +kernel)
theorem fm_X7_forget : Cond.instanceMethod yX7_forget ∈ fo_W0 := fo_in 1289 (by decide +kernel) (by decide +kernel)
theorem fs_X7_forget : Cond.selects yX7_forget.cls yX7_forget yX7_forget ∈ fo_W0 := fo_in 1290 (by decide +kernel) (by decide +kernel)
theorem fc_X7_forget : Cond.code yX7_forget cX7_forget 2 (some .int) ∈ fo_W0 := fo_in 1291 (by decide +kernel) (by decide +kernel)
theorem fn_L_167 : Cond.methodLink RL 167 yX7_forget ∈ fo_W0 := fo_in 1288 (by decide +kernel) (by decide +kernel)
theorem lv_L_167 : fo_lv RL 167 yX7_forget cX7_forget 2 (some .int) 1 := fo_lv_of fn_L_167 fm_X7_forget fs_X7_forget fi_X7 fc_X7_forget (by decide +kernel)
theorem ft_L_days : Cond.static yL_days ∈ fo_W0 := fo_in 643 (by decide +kernel) (by decide +kernel)
set_option maxRecDepth 20000 in
theorem fc_L_days : Cond.codeWith yL_days cL_days 4 (some .int) [(0, 9, 12, 21)] ∈ fo_W0 := fo_in 644 rfl rfl
theorem fn_L_168 : Cond.methodLink RL 168 yL_days ∈ fo_W0 := fo_in 642 (by decide +kernel) (by decide +kernel)
theorem fm_X7_days : Cond.instanceMethod yX7_days ∈ fo_W0 := fo_in 1297 (by decide +kernel) (by decide +kernel)
theorem fs_X7_days : Cond.selects yX7_days.cls yX7_days yX7_days ∈ fo_W0 := fo_in 1298 (by decide +kernel) (by decide +kernel)
theorem fc_X7_days : Cond.code yX7_days cX7_days 2 (some .int) ∈ fo_W0 := fo_in 1299 (by decide +kernel) (by decide +kernel)
theorem fn_L_170 : Cond.methodLink RL 170 yX7_days ∈ fo_W0 := fo_in 1296 (by decide +kernel) (by decide +kernel)
theorem lv_L_170 : fo_lv RL 170 yX7_days cX7_days 2 (some .int) 1 := fo_lv_of fn_L_170 fm_X7_days fs_X7_days fi_X7 fc_X7_days (by decide +kernel)
theorem ft_L_value : Cond.static yL_value ∈ fo_W0 := fo_in 650 (by decide +kernel) (by decide +kernel)
set_option maxRecDepth 20000 in
theorem fc_L_value : Cond.codeWith yL_value cL_value 5 (some .int) [(0, 10, 13, 21), (0, 10, 17, 36)] ∈ fo_W0 := fo_in 651 rfl rfl
theorem fn_L_171 : Cond.methodLink RL 171 yL_value ∈ fo_W0 := fo_in 649 (by decide +kernel) (by decide +kernel)
theorem fm_X7_value : Cond.instanceMethod yX7_value ∈ fo_W0 := fo_in 1305 (by decide +kernel) (by decide +kernel)
theorem fs_X7_value : Cond.selects yX7_value.cls yX7_value yX7_value ∈ fo_W0 := fo_in 1306 (by decide +kernel) (by decide +kernel)
theorem fc_X7_value : Cond.code yX7_value cX7_value 3 (some .int) ∈ fo_W0 := fo_in 1307 (by decide +kernel) (by decide +kernel)
theorem fn_L_173 : Cond.methodLink RL 173 yX7_value ∈ fo_W0 := fo_in 1304 (by decide +kernel) (by decide +kernel)
theorem lv_L_173 : fo_lv RL 173 yX7_value cX7_value 3 (some .int) 2 := fo_lv_of fn_L_173 fm_X7_value fs_X7_value fi_X7 fc_X7_value (by decide +kernel)
theorem ft_L_range : Cond.static yL_range ∈ fo_W0 := fo_in 677 (by decide +kernel) (by decide +kernel)
set_option maxRecDepth 20000 in
theorem fc_L_range : Cond.codeWith yL_range cL_range 4 (some .int) [(0, 9, 12, 21), (0, 9, 15, 36)] ∈ fo_W0 := fo_in 678 rfl rfl
theorem fn_L_174 : Cond.methodLink RL 174 yL_range ∈ fo_W0 := fo_in 676 (by decide +kernel) (by decide +kernel)
theorem fm_X7_range : Cond.instanceMethod yX7_range ∈ fo_W0 := fo_in 1317 (by decide +kernel) (by decide +kernel)
theorem fs_X7_range : Cond.selects yX7_range.cls yX7_range yX7_range ∈ fo_W0 := fo_in 1318 (by decide +kernel) (by decide +kernel)
theorem fc_X7_range : Cond.code yX7_range cX7_range 5 (some .int) ∈ fo_W0 := fo_in 1319 (by decide +kernel) (by decide +kernel)
theorem fn_L_176 : Cond.methodLink RL 176 yX7_range ∈ fo_W0 := fo_in 1316 (by decide +kernel) (by decide +kernel)
theorem lv_L_176 : fo_lv RL 176 yX7_range cX7_range 5 (some .int) 1 := fo_lv_of fn_L_176 fm_X7_range fs_X7_range fi_X7 fc_X7_range (by decide +kernel)
theorem ft_L_movingAverage : Cond.static yL_movingAverage ∈ fo_W0 := fo_in 692 (by decide +kernel) (by decide +kernel)
set_option maxRecDepth 20000 in
theorem fc_L_movingAverage : Cond.codeWith yL_movingAverage cL_movingAverage 5 (some .int) [(0, 9, 12, 21), (0, 9, 16, 13), (0, 9, 20, 36)] ∈ fo_W0 := fo_in 693 rfl rfl
theorem fn_L_177 : Cond.methodLink RL 177 yL_movingAverage ∈ fo_W0 := fo_in 691 (by decide +kernel) (by decide +kernel)
theorem fm_X7_movingAverage : Cond.instanceMethod yX7_movingAverage ∈ fo_W0 := fo_in 1321 (by decide +kernel) (by decide +kernel)
theorem fs_X7_movingAverage : Cond.selects yX7_movingAverage.cls yX7_movingAverage yX7_movingAverage ∈ fo_W0 := fo_in 1322 (by decide +kernel) (by decide +kernel)
theorem fc_X7_movingAverage : Cond.code yX7_movingAverage cX7_movingAverage 3 (some .double) ∈ fo_W0 := fo_in 1323 (by decide +kernel) (by decide +kernel)
theorem fn_L_180 : Cond.methodLink RL 180 yX7_movingAverage ∈ fo_W0 := fo_in 1320 (by decide +kernel) (by decide +kernel)
theorem lv_L_180 : fo_lv RL 180 yX7_movingAverage cX7_movingAverage 3 (some .double) 2 := fo_lv_of fn_L_180 fm_X7_movingAverage fs_X7_movingAverage fi_X7 fc_X7_movingAverage (by decide +kernel)
theorem ft_L_movingAverageBySums : Cond.static yL_movingAverageBySums ∈ fo_W0 := fo_in 704 (by decide +kernel) (by decide +kernel)
set_option maxRecDepth 20000 in
theorem fc_L_movingAverageBySums : Cond.codeWith yL_movingAverageBySums cL_movingAverageBySums 5 (some .int) [(0, 9, 12, 21), (0, 9, 16, 13), (0, 9, 20, 36)] ∈ fo_W0 := fo_in 705 rfl rfl
theorem fn_L_181 : Cond.methodLink RL 181 yL_movingAverageBySums ∈ fo_W0 := fo_in 703 (by decide +kernel) (by decide +kernel)
theorem fm_X7_movingAverageBySums : Cond.instanceMethod yX7_movingAverageBySums ∈ fo_W0 := fo_in 1337 (by decide +kernel) (by decide +kernel)
theorem fs_X7_movingAverageBySums : Cond.selects yX7_movingAverageBySums.cls yX7_movingAverageBySums yX7_movingAverageBySums ∈ fo_W0 := fo_in 1338 (by decide +kernel) (by decide +kernel)
theorem fc_X7_movingAverageBySums : Cond.code yX7_movingAverageBySums cX7_movingAverageBySums 3 (some .double) ∈ fo_W0 := fo_in 1339 (by decide +kernel) (by decide +kernel)
theorem fn_L_183 : Cond.methodLink RL 183 yX7_movingAverageBySums ∈ fo_W0 := fo_in 1336 (by decide +kernel) (by decide +kernel)
theorem lv_L_183 : fo_lv RL 183 yX7_movingAverageBySums cX7_movingAverageBySums 3 (some .double) 2 := fo_lv_of fn_L_183 fm_X7_movingAverageBySums fs_X7_movingAverageBySums fi_X7 fc_X7_movingAverageBySums (by decide +kernel)
theorem ft_L_median : Cond.static yL_median ∈ fo_W0 := fo_in 715 (by decide +kernel) (by decide +kernel)
set_option maxRecDepth 20000 in
theorem fc_L_median : Cond.codeWith yL_median cL_median 5 (some .int) [(0, 10, 13, 21), (0, 10, 17, 13), (0, 10, 21, 36)] ∈ fo_W0 := fo_in 716 rfl rfl
theorem fn_L_184 : Cond.methodLink RL 184 yL_median ∈ fo_W0 := fo_in 714 (by decide +kernel) (by decide +kernel)
theorem fm_X7_median : Cond.instanceMethod yX7_median ∈ fo_W0 := fo_in 1341 (by decide +kernel) (by decide +kernel)
theorem fs_X7_median : Cond.selects yX7_median.cls yX7_median yX7_median ∈ fo_W0 := fo_in 1342 (by decide +kernel) (by decide +kernel)
theorem fc_X7_median : Cond.code yX7_median cX7_median 3 (some .int) ∈ fo_W0 := fo_in 1343 (by decide +kernel) (by decide +kernel)
theorem fn_L_186 : Cond.methodLink RL 186 yX7_median ∈ fo_W0 := fo_in 1340 (by decide +kernel) (by decide +kernel)
theorem lv_L_186 : fo_lv RL 186 yX7_median cX7_median 3 (some .int) 2 := fo_lv_of fn_L_186 fm_X7_median fs_X7_median fi_X7 fc_X7_median (by decide +kernel)
theorem ft_L_medianByCounting : Cond.static yL_medianByCounting ∈ fo_W0 := fo_in 723 (by decide +kernel) (by decide +kernel)
set_option maxRecDepth 20000 in
theorem fc_L_medianByCounting : Cond.codeWith yL_medianByCounting cL_medianByCounting 5 (some .int) [(0, 10, 13, 21), (0, 10, 17, 13), (0, 10, 21, 36)] ∈ fo_W0 := fo_in 724 rfl rfl
theorem fn_L_187 : Cond.methodLink RL 187 yL_medianByCounting ∈ fo_W0 := fo_in 722 (by decide +kernel) (by decide +kernel)
theorem fm_X7_medianByCounting : Cond.instanceMethod yX7_medianByCounting ∈ fo_W0 := fo_in 1357 (by decide +kernel) (by decide +kernel)
theorem fs_X7_medianByCounting : Cond.selects yX7_medianByCounting.cls yX7_medianByCounting yX7_medianByCounting ∈ fo_W0 := fo_in 1358 (by decide +kernel) (by decide +kernel)
theorem fc_X7_medianByCounting : Cond.code yX7_medianByCounting cX7_medianByCounting 3 (some .int) ∈ fo_W0 := fo_in 1359 (by decide +kernel) (by decide +kernel)
theorem fn_L_189 : Cond.methodLink RL 189 yX7_medianByCounting ∈ fo_W0 := fo_in 1356 (by decide +kernel) (by decide +kernel)
theorem lv_L_189 : fo_lv RL 189 yX7_medianByCounting cX7_medianByCounting 3 (some .int) 2 := fo_lv_of fn_L_189 fm_X7_medianByCounting fs_X7_medianByCounting fi_X7 fc_X7_medianByCounting (by decide +kernel)
theorem ft_L_smoothed : Cond.static yL_smoothed ∈ fo_W0 := fo_in 738 (by decide +kernel) (by decide +kernel)
set_option maxRecDepth 20000 in
theorem fc_L_smoothed : Cond.codeWith yL_smoothed cL_smoothed 5 (some .int) [(0, 9, 12, 21), (0, 9, 16, 13), (0, 9, 20, 36)] ∈ fo_W0 := fo_in 739 rfl rfl
theorem fn_L_190 : Cond.methodLink RL 190 yL_smoothed ∈ fo_W0 := fo_in 737 (by decide +kernel) (by decide +kernel)
theorem fm_X7_smoothed : Cond.instanceMethod yX7_smoothed ∈ fo_W0 := fo_in 1361 (by decide +kernel) (by decide +kernel)
theorem fs_X7_smoothed : Cond.selects yX7_smoothed.cls yX7_smoothed yX7_smoothed ∈ fo_W0 := fo_in 1362 (by decide +kernel) (by decide +kernel)
theorem fc_X7_smoothed : Cond.code yX7_smoothed cX7_smoothed 3 (some .double) ∈ fo_W0 := fo_in 1363 (by decide +kernel) (by decide +kernel)
theorem fn_L_192 : Cond.methodLink RL 192 yX7_smoothed ∈ fo_W0 := fo_in 1360 (by decide +kernel) (by decide +kernel)
theorem lv_L_192 : fo_lv RL 192 yX7_smoothed cX7_smoothed 3 (some .double) 2 := fo_lv_of fn_L_192 fm_X7_smoothed fs_X7_smoothed fi_X7 fc_X7_smoothed (by decide +kernel)
theorem ft_L_isOutlier : Cond.static yL_isOutlier ∈ fo_W0 := fo_in 746 (by decide +kernel) (by decide +kernel)
set_option maxRecDepth 20000 in
theorem fc_L_isOutlier : Cond.codeWith yL_isOutlier cL_isOutlier 5 (some .int) [(0, 17, 20, 21), (0, 17, 24, 36)] ∈ fo_W0 := fo_in 747 rfl rfl
theorem fn_L_193 : Cond.methodLink RL 193 yL_isOutlier ∈ fo_W0 := fo_in 745 (by decide +kernel) (by decide +kernel)
theorem fm_X7_isOutlier : Cond.instanceMethod yX7_isOutlier ∈ fo_W0 := fo_in 1370 (by decide +kernel) (by decide +kernel)
theorem fs_X7_isOutlier : Cond.selects yX7_isOutlier.cls yX7_isOutlier yX7_isOutlier ∈ fo_W0 := fo_in 1371 (by decide +kernel) (by decide +kernel)
theorem fc_X7_isOutlier : Cond.code yX7_isOutlier cX7_isOutlier 3 (some .boolean) ∈ fo_W0 := fo_in 1372 (by decide +kernel) (by decide +kernel)
theorem fn_L_195 : Cond.methodLink RL 195 yX7_isOutlier ∈ fo_W0 := fo_in 1369 (by decide +kernel) (by decide +kernel)
theorem lv_L_195 : fo_lv RL 195 yX7_isOutlier cX7_isOutlier 3 (some .boolean) 2 := fo_lv_of fn_L_195 fm_X7_isOutlier fs_X7_isOutlier fi_X7 fc_X7_isOutlier (by decide +kernel)
theorem ft_L_outliers : Cond.static yL_outliers ∈ fo_W0 := fo_in 761 (by decide +kernel) (by decide +kernel)
set_option maxRecDepth 20000 in
theorem fc_L_outliers : Cond.codeWith yL_outliers cL_outliers 4 (some .int) [(0, 9, 12, 21)] ∈ fo_W0 := fo_in 762 rfl rfl
theorem fn_L_196 : Cond.methodLink RL 196 yL_outliers ∈ fo_W0 := fo_in 760 (by decide +kernel) (by decide +kernel)
theorem fm_X7_outliers : Cond.instanceMethod yX7_outliers ∈ fo_W0 := fo_in 1381 (by decide +kernel) (by decide +kernel)
theorem fs_X7_outliers : Cond.selects yX7_outliers.cls yX7_outliers yX7_outliers ∈ fo_W0 := fo_in 1382 (by decide +kernel) (by decide +kernel)
theorem fc_X7_outliers : Cond.code yX7_outliers cX7_outliers 2 (some .int) ∈ fo_W0 := fo_in 1383 (by decide +kernel) (by decide +kernel)
theorem fn_L_198 : Cond.methodLink RL 198 yX7_outliers ∈ fo_W0 := fo_in 1380 (by decide +kernel) (by decide +kernel)
theorem lv_L_198 : fo_lv RL 198 yX7_outliers cX7_outliers 2 (some .int) 1 := fo_lv_of fn_L_198 fm_X7_outliers fs_X7_outliers fi_X7 fc_X7_outliers (by decide +kernel)
theorem ft_L_longestRise : Cond.static yL_longestRise ∈ fo_W0 := fo_in 773 (by decide +kernel) (by decide +kernel)
set_option maxRecDepth 20000 in
theorem fc_L_longestRise : Cond.codeWith yL_longestRise cL_longestRise 4 (some .int) [(0, 9, 12, 21)] ∈ fo_W0 := fo_in 774 rfl rfl
theorem fn_L_199 : Cond.methodLink RL 199 yL_longestRise ∈ fo_W0 := fo_in 772 (by decide +kernel) (by decide +kernel)
theorem fm_X7_longestRise : Cond.instanceMethod yX7_longestRise ∈ fo_W0 := fo_in 1389 (by decide +kernel) (by decide +kernel)
theorem fs_X7_longestRise : Cond.selects yX7_longestRise.cls yX7_longestRise yX7_longestRise ∈ fo_W0 := fo_in 1390 (by decide +kernel) (by decide +kernel)
theorem fc_X7_longestRise : Cond.code yX7_longestRise cX7_longestRise 5 (some .int) ∈ fo_W0 := fo_in 1391 (by decide +kernel) (by decide +kernel)
theorem fn_L_201 : Cond.methodLink RL 201 yX7_longestRise ∈ fo_W0 := fo_in 1388 (by decide +kernel) (by decide +kernel)
theorem lv_L_201 : fo_lv RL 201 yX7_longestRise cX7_longestRise 5 (some .int) 1 := fo_lv_of fn_L_201 fm_X7_longestRise fs_X7_longestRise fi_X7 fc_X7_longestRise (by decide +kernel)
theorem ft_L_valuesBetween : Cond.static yL_valuesBetween ∈ fo_W0 := fo_in 784 (by decide +kernel) (by decide +kernel)
set_option maxRecDepth 20000 in
theorem fc_L_valuesBetween : Cond.codeWith yL_valuesBetween cL_valuesBetween 6 (some .int) [(0, 12, 15, 21)] ∈ fo_W0 := fo_in 785 rfl rfl
theorem fn_L_202 : Cond.methodLink RL 202 yL_valuesBetween ∈ fo_W0 := fo_in 783 (by decide +kernel) (by decide +kernel)
theorem fm_X7_valuesBetween : Cond.instanceMethod yX7_valuesBetween ∈ fo_W0 := fo_in 1393 (by decide +kernel) (by decide +kernel)
theorem fs_X7_valuesBetween : Cond.selects yX7_valuesBetween.cls yX7_valuesBetween yX7_valuesBetween ∈ fo_W0 := fo_in 1394 (by decide +kernel) (by decide +kernel)
theorem fc_X7_valuesBetween : Cond.code yX7_valuesBetween cX7_valuesBetween 6 (some .int) ∈ fo_W0 := fo_in 1395 (by decide +kernel) (by decide +kernel)
theorem fn_L_205 : Cond.methodLink RL 205 yX7_valuesBetween ∈ fo_W0 := fo_in 1392 (by decide +kernel) (by decide +kernel)
theorem lv_L_205 : fo_lv RL 205 yX7_valuesBetween cX7_valuesBetween 6 (some .int) 3 := fo_lv_of fn_L_205 fm_X7_valuesBetween fs_X7_valuesBetween fi_X7 fc_X7_valuesBetween (by decide +kernel)
theorem fm_X6_limit : Cond.instanceMethod yX6_limit ∈ fo_W0 := fo_in 296 (by decide +kernel) (by decide +kernel)
theorem fs_X6_limit : Cond.selects yX6_limit.cls yX6_limit yX6_limit ∈ fo_W0 := fo_in 297 (by decide +kernel) (by decide +kernel)
theorem fc_X6_limit : Cond.code yX6_limit cX6_limit 1 (some .int) ∈ fo_W0 := fo_in 298 (by decide +kernel) (by decide +kernel)
theorem fn_L_206 : Cond.methodLink RL 206 yX6_limit ∈ fo_W0 := fo_in 295 (by decide +kernel) (by decide +kernel)
theorem lv_L_206 : fo_lv RL 206 yX6_limit cX6_limit 1 (some .int) 0 := fo_lv_of fn_L_206 fm_X6_limit fs_X6_limit fi_X6 fc_X6_limit (by decide +kernel)
theorem fm_X7_limit : Cond.instanceMethod yX7_limit ∈ fo_W0 := fo_in 1397 (by decide +kernel) (by decide +kernel)
theorem fs_X7_limit : Cond.selects yX7_limit.cls yX7_limit yX7_limit ∈ fo_W0 := fo_in 1398 (by decide +kernel) (by decide +kernel)
theorem fc_X7_limit : Cond.code yX7_limit cX7_limit 1 (some .int) ∈ fo_W0 := fo_in 1399 (by decide +kernel) (by decide +kernel)
theorem fn_L_209 : Cond.methodLink RL 209 yX7_limit ∈ fo_W0 := fo_in 1396 (by decide +kernel) (by decide +kernel)
theorem lv_L_209 : fo_lv RL 209 yX7_limit cX7_limit 1 (some .int) 0 := fo_lv_of fn_L_209 fm_X7_limit fs_X7_limit fi_X7 fc_X7_limit (by decide +kernel)
theorem fm_X6_prophets : Cond.instanceMethod yX6_prophets ∈ fo_W0 := fo_in 300 (by decide +kernel) (by decide +kernel)
theorem fs_X6_prophets : Cond.selects yX6_prophets.cls yX6_prophets yX6_prophets ∈ fo_W0 := fo_in 301 (by decide +kernel) (by decide +kernel)
theorem fc_X6_prophets : Cond.code yX6_prophets cX6_prophets 1 (some .int) ∈ fo_W0 := fo_in 302 (by decide +kernel) (by decide +kernel)
theorem fn_L_210 : Cond.methodLink RL 210 yX6_prophets ∈ fo_W0 := fo_in 299 (by decide +kernel) (by decide +kernel)
theorem lv_L_210 : fo_lv RL 210 yX6_prophets cX6_prophets 1 (some .int) 0 := fo_lv_of fn_L_210 fm_X6_prophets fs_X6_prophets fi_X6 fc_X6_prophets (by decide +kernel)
theorem fm_X7_prophets : Cond.instanceMethod yX7_prophets ∈ fo_W0 := fo_in 1405 (by decide +kernel) (by decide +kernel)
theorem fs_X7_prophets : Cond.selects yX7_prophets.cls yX7_prophets yX7_prophets ∈ fo_W0 := fo_in 1406 (by decide +kernel) (by decide +kernel)
theorem fc_X7_prophets : Cond.code yX7_prophets cX7_prophets 1 (some .int) ∈ fo_W0 := fo_in 1407 (by decide +kernel) (by decide +kernel)
theorem fn_L_213 : Cond.methodLink RL 213 yX7_prophets ∈ fo_W0 := fo_in 1404 (by decide +kernel) (by decide +kernel)
theorem lv_L_213 : fo_lv RL 213 yX7_prophets cX7_prophets 1 (some .int) 0 := fo_lv_of fn_L_213 fm_X7_prophets fs_X7_prophets fi_X7 fc_X7_prophets (by decide +kernel)
theorem ft_L_kind : Cond.static yL_kind ∈ fo_W0 := fo_in 792 (by decide +kernel) (by decide +kernel)
set_option maxRecDepth 20000 in
theorem fc_L_kind : Cond.codeWith yL_kind cL_kind 4 (some .int) [(0, 9, 12, 21)] ∈ fo_W0 := fo_in 793 rfl rfl
theorem fn_L_214 : Cond.methodLink RL 214 yL_kind ∈ fo_W0 := fo_in 791 (by decide +kernel) (by decide +kernel)
theorem fm_X7_kind : Cond.instanceMethod yX7_kind ∈ fo_W0 := fo_in 1409 (by decide +kernel) (by decide +kernel)
theorem fs_X7_kind : Cond.selects yX7_kind.cls yX7_kind yX7_kind ∈ fo_W0 := fo_in 1410 (by decide +kernel) (by decide +kernel)
theorem fc_X7_kind : Cond.code yX7_kind cX7_kind 2 (some .char) ∈ fo_W0 := fo_in 1411 (by decide +kernel) (by decide +kernel)
theorem fn_L_216 : Cond.methodLink RL 216 yX7_kind ∈ fo_W0 := fo_in 1408 (by decide +kernel) (by decide +kernel)
theorem lv_L_216 : fo_lv RL 216 yX7_kind cX7_kind 2 (some .char) 1 := fo_lv_of fn_L_216 fm_X7_kind fs_X7_kind fi_X7 fc_X7_kind (by decide +kernel)
theorem ft_L_parameter : Cond.static yL_parameter ∈ fo_W0 := fo_in 803 (by decide +kernel) (by decide +kernel)
set_option maxRecDepth 20000 in
theorem fc_L_parameter : Cond.codeWith yL_parameter cL_parameter 4 (some .int) [(0, 9, 12, 21)] ∈ fo_W0 := fo_in 804 rfl rfl
theorem fn_L_217 : Cond.methodLink RL 217 yL_parameter ∈ fo_W0 := fo_in 802 (by decide +kernel) (by decide +kernel)
theorem fm_X7_parameter : Cond.instanceMethod yX7_parameter ∈ fo_W0 := fo_in 1417 (by decide +kernel) (by decide +kernel)
theorem fs_X7_parameter : Cond.selects yX7_parameter.cls yX7_parameter yX7_parameter ∈ fo_W0 := fo_in 1418 (by decide +kernel) (by decide +kernel)
theorem fc_X7_parameter : Cond.code yX7_parameter cX7_parameter 2 (some .int) ∈ fo_W0 := fo_in 1419 (by decide +kernel) (by decide +kernel)
theorem fn_L_219 : Cond.methodLink RL 219 yX7_parameter ∈ fo_W0 := fo_in 1416 (by decide +kernel) (by decide +kernel)
theorem lv_L_219 : fo_lv RL 219 yX7_parameter cX7_parameter 2 (some .int) 1 := fo_lv_of fn_L_219 fm_X7_parameter fs_X7_parameter fi_X7 fc_X7_parameter (by decide +kernel)
theorem ft_L_hasForecast : Cond.static yL_hasForecast ∈ fo_W0 := fo_in 810 (by decide +kernel) (by decide +kernel)
set_option maxRecDepth 20000 in
theorem fc_L_hasForecast : Cond.codeWith yL_hasForecast cL_hasForecast 5 (some .int) [(0, 17, 20, 21)] ∈ fo_W0 := fo_in 811 rfl rfl
theorem fn_L_220 : Cond.methodLink RL 220 yL_hasForecast ∈ fo_W0 := fo_in 809 (by decide +kernel) (by decide +kernel)
theorem fm_X7_hasForecast : Cond.instanceMethod yX7_hasForecast ∈ fo_W0 := fo_in 1421 (by decide +kernel) (by decide +kernel)
theorem fs_X7_hasForecast : Cond.selects yX7_hasForecast.cls yX7_hasForecast yX7_hasForecast ∈ fo_W0 := fo_in 1422 (by decide +kernel) (by decide +kernel)
theorem fc_X7_hasForecast : Cond.code yX7_hasForecast cX7_hasForecast 3 (some .boolean) ∈ fo_W0 := fo_in 1423 (by decide +kernel) (by decide +kernel)
theorem fn_L_222 : Cond.methodLink RL 222 yX7_hasForecast ∈ fo_W0 := fo_in 1420 (by decide +kernel) (by decide +kernel)
theorem lv_L_222 : fo_lv RL 222 yX7_hasForecast cX7_hasForecast 3 (some .boolean) 2 := fo_lv_of fn_L_222 fm_X7_hasForecast fs_X7_hasForecast fi_X7 fc_X7_hasForecast (by decide +kernel)
theorem ft_L_forecast : Cond.static yL_forecast ∈ fo_W0 := fo_in 818 (by decide +kernel) (by decide +kernel)
set_option maxRecDepth 20000 in
theorem fc_L_forecast : Cond.codeWith yL_forecast cL_forecast 5 (some .int) [(0, 9, 12, 21), (0, 9, 16, 36)] ∈ fo_W0 := fo_in 819 rfl rfl
theorem fn_L_223 : Cond.methodLink RL 223 yL_forecast ∈ fo_W0 := fo_in 817 (by decide +kernel) (by decide +kernel)
theorem fm_X7_forecast : Cond.instanceMethod yX7_forecast ∈ fo_W0 := fo_in 1433 (by decide +kernel) (by decide +kernel)
theorem fs_X7_forecast : Cond.selects yX7_forecast.cls yX7_forecast yX7_forecast ∈ fo_W0 := fo_in 1434 (by decide +kernel) (by decide +kernel)
theorem fc_X7_forecast : Cond.code yX7_forecast cX7_forecast 3 (some .double) ∈ fo_W0 := fo_in 1435 (by decide +kernel) (by decide +kernel)
theorem fn_L_225 : Cond.methodLink RL 225 yX7_forecast ∈ fo_W0 := fo_in 1432 (by decide +kernel) (by decide +kernel)
theorem lv_L_225 : fo_lv RL 225 yX7_forecast cX7_forecast 3 (some .double) 2 := fo_lv_of fn_L_225 fm_X7_forecast fs_X7_forecast fi_X7 fc_X7_forecast (by decide +kernel)
theorem ft_L_forecastBits : Cond.static yL_forecastBits ∈ fo_W0 := fo_in 830 (by decide +kernel) (by decide +kernel)
set_option maxRecDepth 20000 in
theorem fc_L_forecastBits : Cond.codeWith yL_forecastBits cL_forecastBits 5 (some .int) [(0, 9, 12, 21), (0, 9, 16, 36)] ∈ fo_W0 := fo_in 831 rfl rfl
theorem fn_L_226 : Cond.methodLink RL 226 yL_forecastBits ∈ fo_W0 := fo_in 829 (by decide +kernel) (by decide +kernel)
theorem fm_X7_forecastBits : Cond.instanceMethod yX7_forecastBits ∈ fo_W0 := fo_in 1445 (by decide +kernel) (by decide +kernel)
theorem fs_X7_forecastBits : Cond.selects yX7_forecastBits.cls yX7_forecastBits yX7_forecastBits ∈ fo_W0 := fo_in 1446 (by decide +kernel) (by decide +kernel)
theorem fc_X7_forecastBits : Cond.code yX7_forecastBits cX7_forecastBits 5 (some .long) ∈ fo_W0 := fo_in 1447 (by decide +kernel) (by decide +kernel)
theorem fn_L_228 : Cond.methodLink RL 228 yX7_forecastBits ∈ fo_W0 := fo_in 1444 (by decide +kernel) (by decide +kernel)
theorem lv_L_228 : fo_lv RL 228 yX7_forecastBits cX7_forecastBits 5 (some .long) 2 := fo_lv_of fn_L_228 fm_X7_forecastBits fs_X7_forecastBits fi_X7 fc_X7_forecastBits (by decide +kernel)
theorem ft_L_errors : Cond.static yL_errors ∈ fo_W0 := fo_in 845 (by decide +kernel) (by decide +kernel)
set_option maxRecDepth 20000 in
theorem fc_L_errors : Cond.codeWith yL_errors cL_errors 5 (some .int) [(0, 10, 13, 21)] ∈ fo_W0 := fo_in 846 rfl rfl
theorem fn_L_229 : Cond.methodLink RL 229 yL_errors ∈ fo_W0 := fo_in 844 (by decide +kernel) (by decide +kernel)
theorem fm_X7_errors : Cond.instanceMethod yX7_errors ∈ fo_W0 := fo_in 1459 (by decide +kernel) (by decide +kernel)
theorem fs_X7_errors : Cond.selects yX7_errors.cls yX7_errors yX7_errors ∈ fo_W0 := fo_in 1460 (by decide +kernel) (by decide +kernel)
theorem fc_X7_errors : Cond.code yX7_errors cX7_errors 3 (some .int) ∈ fo_W0 := fo_in 1461 (by decide +kernel) (by decide +kernel)
theorem fn_L_231 : Cond.methodLink RL 231 yX7_errors ∈ fo_W0 := fo_in 1458 (by decide +kernel) (by decide +kernel)
theorem lv_L_231 : fo_lv RL 231 yX7_errors cX7_errors 3 (some .int) 2 := fo_lv_of fn_L_231 fm_X7_errors fs_X7_errors fi_X7 fc_X7_errors (by decide +kernel)
theorem ft_L_errorSum : Cond.static yL_errorSum ∈ fo_W0 := fo_in 852 (by decide +kernel) (by decide +kernel)
set_option maxRecDepth 20000 in
theorem fc_L_errorSum : Cond.codeWith yL_errorSum cL_errorSum 5 (some .int) [(0, 9, 12, 21)] ∈ fo_W0 := fo_in 853 rfl rfl
theorem fn_L_232 : Cond.methodLink RL 232 yL_errorSum ∈ fo_W0 := fo_in 851 (by decide +kernel) (by decide +kernel)
theorem fm_X7_errorSum : Cond.instanceMethod yX7_errorSum ∈ fo_W0 := fo_in 1467 (by decide +kernel) (by decide +kernel)
theorem fs_X7_errorSum : Cond.selects yX7_errorSum.cls yX7_errorSum yX7_errorSum ∈ fo_W0 := fo_in 1468 (by decide +kernel) (by decide +kernel)
theorem fc_X7_errorSum : Cond.code yX7_errorSum cX7_errorSum 3 (some .double) ∈ fo_W0 := fo_in 1469 (by decide +kernel) (by decide +kernel)
theorem fn_L_234 : Cond.methodLink RL 234 yX7_errorSum ∈ fo_W0 := fo_in 1466 (by decide +kernel) (by decide +kernel)
theorem lv_L_234 : fo_lv RL 234 yX7_errorSum cX7_errorSum 3 (some .double) 2 := fo_lv_of fn_L_234 fm_X7_errorSum fs_X7_errorSum fi_X7 fc_X7_errorSum (by decide +kernel)
theorem ft_L_errorSumByBacktest : Cond.static yL_errorSumByBacktest ∈ fo_W0 := fo_in 859 (by decide +kernel) (by decide +kernel)
set_option maxRecDepth 20000 in
theorem fc_L_errorSumByBacktest : Cond.codeWith yL_errorSumByBacktest cL_errorSumByBacktest 5 (some .int) [(0, 9, 12, 21)] ∈ fo_W0 := fo_in 860 rfl rfl
theorem fn_L_235 : Cond.methodLink RL 235 yL_errorSumByBacktest ∈ fo_W0 := fo_in 858 (by decide +kernel) (by decide +kernel)
theorem fm_X7_errorSumByBacktest : Cond.instanceMethod yX7_errorSumByBacktest ∈ fo_W0 := fo_in 1479 (by decide +kernel) (by decide +kernel)
theorem fs_X7_errorSumByBacktest : Cond.selects yX7_errorSumByBacktest.cls yX7_errorSumByBacktest yX7_errorSumByBacktest ∈ fo_W0 := fo_in 1480 (by decide +kernel) (by decide +kernel)
theorem fc_X7_errorSumByBacktest : Cond.code yX7_errorSumByBacktest cX7_errorSumByBacktest 3 (some .double) ∈ fo_W0 := fo_in 1481 (by decide +kernel) (by decide +kernel)
theorem fn_L_237 : Cond.methodLink RL 237 yX7_errorSumByBacktest ∈ fo_W0 := fo_in 1478 (by decide +kernel) (by decide +kernel)
theorem lv_L_237 : fo_lv RL 237 yX7_errorSumByBacktest cX7_errorSumByBacktest 3 (some .double) 2 := fo_lv_of fn_L_237 fm_X7_errorSumByBacktest fs_X7_errorSumByBacktest fi_X7 fc_X7_errorSumByBacktest (by decide +kernel)
theorem ft_L_points : Cond.static yL_points ∈ fo_W0 := fo_in 867 (by decide +kernel) (by decide +kernel)
set_option maxRecDepth 20000 in
theorem fc_L_points : Cond.codeWith yL_points cL_points 5 (some .int) [(0, 10, 13, 21)] ∈ fo_W0 := fo_in 868 rfl rfl
theorem fn_L_238 : Cond.methodLink RL 238 yL_points ∈ fo_W0 := fo_in 866 (by decide +kernel) (by decide +kernel)
theorem fm_X7_points : Cond.instanceMethod yX7_points ∈ fo_W0 := fo_in 1483 (by decide +kernel) (by decide +kernel)
theorem fs_X7_points : Cond.selects yX7_points.cls yX7_points yX7_points ∈ fo_W0 := fo_in 1484 (by decide +kernel) (by decide +kernel)
theorem fc_X7_points : Cond.code yX7_points cX7_points 3 (some .int) ∈ fo_W0 := fo_in 1485 (by decide +kernel) (by decide +kernel)
theorem fn_L_240 : Cond.methodLink RL 240 yX7_points ∈ fo_W0 := fo_in 1482 (by decide +kernel) (by decide +kernel)
theorem lv_L_240 : fo_lv RL 240 yX7_points cX7_points 3 (some .int) 2 := fo_lv_of fn_L_240 fm_X7_points fs_X7_points fi_X7 fc_X7_points (by decide +kernel)
theorem ft_L_meanError : Cond.static yL_meanError ∈ fo_W0 := fo_in 874 (by decide +kernel) (by decide +kernel)
set_option maxRecDepth 20000 in
theorem fc_L_meanError : Cond.codeWith yL_meanError cL_meanError 4 (some .int) [(0, 8, 11, 21), (0, 8, 14, 104)] ∈ fo_W0 := fo_in 875 rfl rfl
theorem fn_L_241 : Cond.methodLink RL 241 yL_meanError ∈ fo_W0 := fo_in 873 (by decide +kernel) (by decide +kernel)
theorem fm_X7_meanError : Cond.instanceMethod yX7_meanError ∈ fo_W0 := fo_in 1495 (by decide +kernel) (by decide +kernel)
theorem fs_X7_meanError : Cond.selects yX7_meanError.cls yX7_meanError yX7_meanError ∈ fo_W0 := fo_in 1496 (by decide +kernel) (by decide +kernel)
theorem fc_X7_meanError : Cond.code yX7_meanError cX7_meanError 2 (some .double) ∈ fo_W0 := fo_in 1497 (by decide +kernel) (by decide +kernel)
theorem fn_L_244 : Cond.methodLink RL 244 yX7_meanError ∈ fo_W0 := fo_in 1494 (by decide +kernel) (by decide +kernel)
theorem lv_L_244 : fo_lv RL 244 yX7_meanError cX7_meanError 2 (some .double) 1 := fo_lv_of fn_L_244 fm_X7_meanError fs_X7_meanError fi_X7 fc_X7_meanError (by decide +kernel)
theorem ft_L_prophetByPoints : Cond.static yL_prophetByPoints ∈ fo_W0 := fo_in 908 (by decide +kernel) (by decide +kernel)
set_option maxRecDepth 20000 in
theorem fc_L_prophetByPoints : Cond.codeWith yL_prophetByPoints cL_prophetByPoints 4 (some .int) [(0, 9, 12, 36)] ∈ fo_W0 := fo_in 909 rfl rfl
theorem fn_L_245 : Cond.methodLink RL 245 yL_prophetByPoints ∈ fo_W0 := fo_in 907 (by decide +kernel) (by decide +kernel)
theorem fm_X7_prophetByPoints : Cond.instanceMethod yX7_prophetByPoints ∈ fo_W0 := fo_in 1507 (by decide +kernel) (by decide +kernel)
theorem fs_X7_prophetByPoints : Cond.selects yX7_prophetByPoints.cls yX7_prophetByPoints yX7_prophetByPoints ∈ fo_W0 := fo_in 1508 (by decide +kernel) (by decide +kernel)
theorem fc_X7_prophetByPoints : Cond.code yX7_prophetByPoints cX7_prophetByPoints 5 (some .int) ∈ fo_W0 := fo_in 1509 (by decide +kernel) (by decide +kernel)
theorem fn_L_247 : Cond.methodLink RL 247 yX7_prophetByPoints ∈ fo_W0 := fo_in 1506 (by decide +kernel) (by decide +kernel)
theorem lv_L_247 : fo_lv RL 247 yX7_prophetByPoints cX7_prophetByPoints 5 (some .int) 1 := fo_lv_of fn_L_247 fm_X7_prophetByPoints fs_X7_prophetByPoints fi_X7 fc_X7_prophetByPoints (by decide +kernel)
theorem ft_L_bestProphet : Cond.static yL_bestProphet ∈ fo_W0 := fo_in 924 (by decide +kernel) (by decide +kernel)
set_option maxRecDepth 20000 in
theorem fc_L_bestProphet : Cond.codeWith yL_bestProphet cL_bestProphet 3 (some .int) [(0, 8, 11, 36)] ∈ fo_W0 := fo_in 925 rfl rfl
theorem fn_L_248 : Cond.methodLink RL 248 yL_bestProphet ∈ fo_W0 := fo_in 923 (by decide +kernel) (by decide +kernel)
theorem fm_X7_bestProphet : Cond.instanceMethod yX7_bestProphet ∈ fo_W0 := fo_in 1515 (by decide +kernel) (by decide +kernel)
theorem fs_X7_bestProphet : Cond.selects yX7_bestProphet.cls yX7_bestProphet yX7_bestProphet ∈ fo_W0 := fo_in 1516 (by decide +kernel) (by decide +kernel)
theorem fc_X7_bestProphet : Cond.code yX7_bestProphet cX7_bestProphet 3 (some .int) ∈ fo_W0 := fo_in 1517 (by decide +kernel) (by decide +kernel)
theorem fn_L_251 : Cond.methodLink RL 251 yX7_bestProphet ∈ fo_W0 := fo_in 1514 (by decide +kernel) (by decide +kernel)
theorem lv_L_251 : fo_lv RL 251 yX7_bestProphet cX7_bestProphet 3 (some .int) 0 := fo_lv_of fn_L_251 fm_X7_bestProphet fs_X7_bestProphet fi_X7 fc_X7_bestProphet (by decide +kernel)
theorem ft_L_outlierShare : Cond.static yL_outlierShare ∈ fo_W0 := fo_in 937 (by decide +kernel) (by decide +kernel)
set_option maxRecDepth 20000 in
theorem fc_L_outlierShare : Cond.codeWith yL_outlierShare cL_outlierShare 3 (some .int) [(0, 8, 11, 104)] ∈ fo_W0 := fo_in 938 rfl rfl
theorem fn_L_252 : Cond.methodLink RL 252 yL_outlierShare ∈ fo_W0 := fo_in 936 (by decide +kernel) (by decide +kernel)
theorem fm_X7_outlierShare : Cond.instanceMethod yX7_outlierShare ∈ fo_W0 := fo_in 1519 (by decide +kernel) (by decide +kernel)
theorem fs_X7_outlierShare : Cond.selects yX7_outlierShare.cls yX7_outlierShare yX7_outlierShare ∈ fo_W0 := fo_in 1520 (by decide +kernel) (by decide +kernel)
theorem fc_X7_outlierShare : Cond.code yX7_outlierShare cX7_outlierShare 1 (some .float) ∈ fo_W0 := fo_in 1521 (by decide +kernel) (by decide +kernel)
theorem fn_L_255 : Cond.methodLink RL 255 yX7_outlierShare ∈ fo_W0 := fo_in 1518 (by decide +kernel) (by decide +kernel)
theorem lv_L_255 : fo_lv RL 255 yX7_outlierShare cX7_outlierShare 1 (some .float) 0 := fo_lv_of fn_L_255 fm_X7_outlierShare fs_X7_outlierShare fi_X7 fc_X7_outlierShare (by decide +kernel)
theorem fm_X6_isConsistent : Cond.instanceMethod yX6_isConsistent ∈ fo_W0 := fo_in 304 (by decide +kernel) (by decide +kernel)
theorem fs_X6_isConsistent : Cond.selects yX6_isConsistent.cls yX6_isConsistent yX6_isConsistent ∈ fo_W0 := fo_in 305 (by decide +kernel) (by decide +kernel)
theorem fc_X6_isConsistent : Cond.code yX6_isConsistent cX6_isConsistent 1 (some .boolean) ∈ fo_W0 := fo_in 306 (by decide +kernel) (by decide +kernel)
theorem fn_L_256 : Cond.methodLink RL 256 yX6_isConsistent ∈ fo_W0 := fo_in 303 (by decide +kernel) (by decide +kernel)
theorem lv_L_256 : fo_lv RL 256 yX6_isConsistent cX6_isConsistent 1 (some .boolean) 0 := fo_lv_of fn_L_256 fm_X6_isConsistent fs_X6_isConsistent fi_X6 fc_X6_isConsistent (by decide +kernel)
theorem fm_X7_isConsistent : Cond.instanceMethod yX7_isConsistent ∈ fo_W0 := fo_in 1523 (by decide +kernel) (by decide +kernel)
theorem fs_X7_isConsistent : Cond.selects yX7_isConsistent.cls yX7_isConsistent yX7_isConsistent ∈ fo_W0 := fo_in 1524 (by decide +kernel) (by decide +kernel)
theorem fc_X7_isConsistent : Cond.code yX7_isConsistent cX7_isConsistent 1 (some .boolean) ∈ fo_W0 := fo_in 1525 (by decide +kernel) (by decide +kernel)
theorem fn_L_260 : Cond.methodLink RL 260 yX7_isConsistent ∈ fo_W0 := fo_in 1522 (by decide +kernel) (by decide +kernel)
theorem lv_L_260 : fo_lv RL 260 yX7_isConsistent cX7_isConsistent 1 (some .boolean) 0 := fo_lv_of fn_L_260 fm_X7_isConsistent fs_X7_isConsistent fi_X7 fc_X7_isConsistent (by decide +kernel)
theorem ft_L_writeSeries : Cond.static yL_writeSeries ∈ fo_W0 := fo_in 950 (by decide +kernel) (by decide +kernel)
set_option maxRecDepth 20000 in
theorem fc_L_writeSeries : Cond.codeWith yL_writeSeries cL_writeSeries 4 (some .int) [(0, 9, 12, 21)] ∈ fo_W0 := fo_in 951 rfl rfl
theorem fn_L_261 : Cond.methodLink RL 261 yL_writeSeries ∈ fo_W0 := fo_in 949 (by decide +kernel) (by decide +kernel)
theorem fm_X7_writeSeries : Cond.instanceMethod yX7_writeSeries ∈ fo_W0 := fo_in 1527 (by decide +kernel) (by decide +kernel)
theorem fs_X7_writeSeries : Cond.selects yX7_writeSeries.cls yX7_writeSeries yX7_writeSeries ∈ fo_W0 := fo_in 1528 (by decide +kernel) (by decide +kernel)
theorem fc_X7_writeSeries : Cond.code yX7_writeSeries cX7_writeSeries 3 (some .int) ∈ fo_W0 := fo_in 1529 (by decide +kernel) (by decide +kernel)
theorem fn_L_263 : Cond.methodLink RL 263 yX7_writeSeries ∈ fo_W0 := fo_in 1526 (by decide +kernel) (by decide +kernel)
theorem lv_L_263 : fo_lv RL 263 yX7_writeSeries cX7_writeSeries 3 (some .int) 1 := fo_lv_of fn_L_263 fm_X7_writeSeries fs_X7_writeSeries fi_X7 fc_X7_writeSeries (by decide +kernel)
theorem fm_X6_writeProphets : Cond.instanceMethod yX6_writeProphets ∈ fo_W0 := fo_in 363 (by decide +kernel) (by decide +kernel)
theorem fs_X6_writeProphets : Cond.selects yX6_writeProphets.cls yX6_writeProphets yX6_writeProphets ∈ fo_W0 := fo_in 364 (by decide +kernel) (by decide +kernel)
theorem fc_X6_writeProphets : Cond.code yX6_writeProphets cX6_writeProphets 3 (some .int) ∈ fo_W0 := fo_in 365 (by decide +kernel) (by decide +kernel)
theorem fn_L_264 : Cond.methodLink RL 264 yX6_writeProphets ∈ fo_W0 := fo_in 362 (by decide +kernel) (by decide +kernel)
theorem lv_L_264 : fo_lv RL 264 yX6_writeProphets cX6_writeProphets 3 (some .int) 0 := fo_lv_of fn_L_264 fm_X6_writeProphets fs_X6_writeProphets fi_X6 fc_X6_writeProphets (by decide +kernel)
theorem fm_X7_writeProphets : Cond.instanceMethod yX7_writeProphets ∈ fo_W0 := fo_in 1539 (by decide +kernel) (by decide +kernel)
theorem fs_X7_writeProphets : Cond.selects yX7_writeProphets.cls yX7_writeProphets yX7_writeProphets ∈ fo_W0 := fo_in 1540 (by decide +kernel) (by decide +kernel)
theorem fc_X7_writeProphets : Cond.code yX7_writeProphets cX7_writeProphets 3 (some .int) ∈ fo_W0 := fo_in 1541 (by decide +kernel) (by decide +kernel)
theorem fn_L_267 : Cond.methodLink RL 267 yX7_writeProphets ∈ fo_W0 := fo_in 1538 (by decide +kernel) (by decide +kernel)
theorem lv_L_267 : fo_lv RL 267 yX7_writeProphets cX7_writeProphets 3 (some .int) 0 := fo_lv_of fn_L_267 fm_X7_writeProphets fs_X7_writeProphets fi_X7 fc_X7_writeProphets (by decide +kernel)
theorem ft_L_charAt : Cond.static yL_charAt ∈ fo_W0 := fo_in 957 (by decide +kernel) (by decide +kernel)
set_option maxRecDepth 20000 in
theorem fc_L_charAt : Cond.codeWith yL_charAt cL_charAt 4 (some .int) [(0, 9, 12, 21)] ∈ fo_W0 := fo_in 958 rfl rfl
theorem fn_L_268 : Cond.methodLink RL 268 yL_charAt ∈ fo_W0 := fo_in 956 (by decide +kernel) (by decide +kernel)
theorem fm_X7_charAt : Cond.instanceMethod yX7_charAt ∈ fo_W0 := fo_in 1543 (by decide +kernel) (by decide +kernel)
theorem fs_X7_charAt : Cond.selects yX7_charAt.cls yX7_charAt yX7_charAt ∈ fo_W0 := fo_in 1544 (by decide +kernel) (by decide +kernel)
theorem fc_X7_charAt : Cond.code yX7_charAt cX7_charAt 2 (some .char) ∈ fo_W0 := fo_in 1545 (by decide +kernel) (by decide +kernel)
theorem fn_L_270 : Cond.methodLink RL 270 yX7_charAt ∈ fo_W0 := fo_in 1542 (by decide +kernel) (by decide +kernel)
theorem lv_L_270 : fo_lv RL 270 yX7_charAt cX7_charAt 2 (some .char) 1 := fo_lv_of fn_L_270 fm_X7_charAt fs_X7_charAt fi_X7 fc_X7_charAt (by decide +kernel)
theorem ft_L_type : Cond.static yL_type ∈ fo_W0 := fo_in 964 (by decide +kernel) (by decide +kernel)
set_option maxRecDepth 20000 in
theorem fc_L_type : Cond.codeWith yL_type cL_type 4 (some .int) [(0, 9, 12, 15)] ∈ fo_W0 := fo_in 965 rfl rfl
theorem fn_L_271 : Cond.methodLink RL 271 yL_type ∈ fo_W0 := fo_in 963 (by decide +kernel) (by decide +kernel)
theorem fm_X7_type : Cond.instanceMethod yX7_type ∈ fo_W0 := fo_in 1547 (by decide +kernel) (by decide +kernel)
theorem fs_X7_type : Cond.selects yX7_type.cls yX7_type yX7_type ∈ fo_W0 := fo_in 1548 (by decide +kernel) (by decide +kernel)
theorem fc_X7_type : Cond.code yX7_type cX7_type 2 (some .int) ∈ fo_W0 := fo_in 1549 (by decide +kernel) (by decide +kernel)
theorem fn_L_274 : Cond.methodLink RL 274 yX7_type ∈ fo_W0 := fo_in 1546 (by decide +kernel) (by decide +kernel)
theorem lv_L_274 : fo_lv RL 274 yX7_type cX7_type 2 (some .int) 1 := fo_lv_of fn_L_274 fm_X7_type fs_X7_type fi_X7 fc_X7_type (by decide +kernel)
theorem ft_L_run : Cond.static yL_run ∈ fo_W0 := fo_in 975 (by decide +kernel) (by decide +kernel)
set_option maxRecDepth 20000 in
theorem fc_L_run : Cond.codeWith yL_run cL_run 3 (some .int) [(0, 8, 11, 13), (0, 8, 14, 130)] ∈ fo_W0 := fo_in 976 rfl rfl
theorem fn_L_275 : Cond.methodLink RL 275 yL_run ∈ fo_W0 := fo_in 974 (by decide +kernel) (by decide +kernel)
theorem fm_X7_run : Cond.instanceMethod yX7_run ∈ fo_W0 := fo_in 1551 (by decide +kernel) (by decide +kernel)
theorem fs_X7_run : Cond.selects yX7_run.cls yX7_run yX7_run ∈ fo_W0 := fo_in 1552 (by decide +kernel) (by decide +kernel)
theorem fc_X7_run : Cond.code yX7_run cX7_run 2 (some .int) ∈ fo_W0 := fo_in 1553 (by decide +kernel) (by decide +kernel)
theorem fn_L_277 : Cond.methodLink RL 277 yX7_run ∈ fo_W0 := fo_in 1550 (by decide +kernel) (by decide +kernel)
theorem lv_L_277 : fo_lv RL 277 yX7_run cX7_run 2 (some .int) 0 := fo_lv_of fn_L_277 fm_X7_run fs_X7_run fi_X7 fc_X7_run (by decide +kernel)
theorem ft_L_errorPosition : Cond.static yL_errorPosition ∈ fo_W0 := fo_in 1110 (by decide +kernel) (by decide +kernel)
set_option maxRecDepth 20000 in
theorem fc_L_errorPosition : Cond.codeWith yL_errorPosition cL_errorPosition 3 (some .int) [(0, 8, 11, 36)] ∈ fo_W0 := fo_in 1111 rfl rfl
theorem fn_L_278 : Cond.methodLink RL 278 yL_errorPosition ∈ fo_W0 := fo_in 1109 (by decide +kernel) (by decide +kernel)
theorem fm_X7_errorPosition : Cond.instanceMethod yX7_errorPosition ∈ fo_W0 := fo_in 1597 (by decide +kernel) (by decide +kernel)
theorem fs_X7_errorPosition : Cond.selects yX7_errorPosition.cls yX7_errorPosition yX7_errorPosition ∈ fo_W0 := fo_in 1598 (by decide +kernel) (by decide +kernel)
theorem fc_X7_errorPosition : Cond.code yX7_errorPosition cX7_errorPosition 1 (some .int) ∈ fo_W0 := fo_in 1599 (by decide +kernel) (by decide +kernel)
theorem fn_L_280 : Cond.methodLink RL 280 yX7_errorPosition ∈ fo_W0 := fo_in 1596 (by decide +kernel) (by decide +kernel)
theorem lv_L_280 : fo_lv RL 280 yX7_errorPosition cX7_errorPosition 1 (some .int) 0 := fo_lv_of fn_L_280 fm_X7_errorPosition fs_X7_errorPosition fi_X7 fc_X7_errorPosition (by decide +kernel)
theorem ft_L_failedCommand : Cond.static yL_failedCommand ∈ fo_W0 := fo_in 1117 (by decide +kernel) (by decide +kernel)
set_option maxRecDepth 20000 in
theorem fc_L_failedCommand : Cond.codeWith yL_failedCommand cL_failedCommand 3 (some .int) [(0, 8, 11, 36)] ∈ fo_W0 := fo_in 1118 rfl rfl
theorem fn_L_281 : Cond.methodLink RL 281 yL_failedCommand ∈ fo_W0 := fo_in 1116 (by decide +kernel) (by decide +kernel)
theorem fm_X7_failedCommand : Cond.instanceMethod yX7_failedCommand ∈ fo_W0 := fo_in 1605 (by decide +kernel) (by decide +kernel)
theorem fs_X7_failedCommand : Cond.selects yX7_failedCommand.cls yX7_failedCommand yX7_failedCommand ∈ fo_W0 := fo_in 1606 (by decide +kernel) (by decide +kernel)
theorem fc_X7_failedCommand : Cond.code yX7_failedCommand cX7_failedCommand 1 (some .int) ∈ fo_W0 := fo_in 1607 (by decide +kernel) (by decide +kernel)
theorem fn_L_283 : Cond.methodLink RL 283 yX7_failedCommand ∈ fo_W0 := fo_in 1604 (by decide +kernel) (by decide +kernel)
theorem lv_L_283 : fo_lv RL 283 yX7_failedCommand cX7_failedCommand 1 (some .int) 0 := fo_lv_of fn_L_283 fm_X7_failedCommand fs_X7_failedCommand fi_X7 fc_X7_failedCommand (by decide +kernel)
theorem ft_L_undo : Cond.static yL_undo ∈ fo_W0 := fo_in 1124 (by decide +kernel) (by decide +kernel)
set_option maxRecDepth 20000 in
theorem fc_L_undo : Cond.codeWith yL_undo cL_undo 3 (some .int) [(0, 8, 11, 15)] ∈ fo_W0 := fo_in 1125 rfl rfl
theorem fn_L_284 : Cond.methodLink RL 284 yL_undo ∈ fo_W0 := fo_in 1123 (by decide +kernel) (by decide +kernel)
theorem fm_X7_undo : Cond.instanceMethod yX7_undo ∈ fo_W0 := fo_in 1609 (by decide +kernel) (by decide +kernel)
theorem fs_X7_undo : Cond.selects yX7_undo.cls yX7_undo yX7_undo ∈ fo_W0 := fo_in 1610 (by decide +kernel) (by decide +kernel)
theorem fc_X7_undo : Cond.code yX7_undo cX7_undo 1 (some .int) ∈ fo_W0 := fo_in 1611 (by decide +kernel) (by decide +kernel)
theorem fn_L_286 : Cond.methodLink RL 286 yX7_undo ∈ fo_W0 := fo_in 1608 (by decide +kernel) (by decide +kernel)
theorem lv_L_286 : fo_lv RL 286 yX7_undo cX7_undo 1 (some .int) 0 := fo_lv_of fn_L_286 fm_X7_undo fs_X7_undo fi_X7 fc_X7_undo (by decide +kernel)
theorem fm_X6_save : Cond.instanceMethod yX6_save ∈ fo_W0 := fo_in 391 (by decide +kernel) (by decide +kernel)
theorem fs_X6_save : Cond.selects yX6_save.cls yX6_save yX6_save ∈ fo_W0 := fo_in 392 (by decide +kernel) (by decide +kernel)
theorem fc_X6_save : Cond.code yX6_save cX6_save 1 (some .int) ∈ fo_W0 := fo_in 393 (by decide +kernel) (by decide +kernel)
theorem fn_L_287 : Cond.methodLink RL 287 yX6_save ∈ fo_W0 := fo_in 390 (by decide +kernel) (by decide +kernel)
theorem lv_L_287 : fo_lv RL 287 yX6_save cX6_save 1 (some .int) 0 := fo_lv_of fn_L_287 fm_X6_save fs_X6_save fi_X6 fc_X6_save (by decide +kernel)
theorem fm_X7_save : Cond.instanceMethod yX7_save ∈ fo_W0 := fo_in 1613 (by decide +kernel) (by decide +kernel)
theorem fs_X7_save : Cond.selects yX7_save.cls yX7_save yX7_save ∈ fo_W0 := fo_in 1614 (by decide +kernel) (by decide +kernel)
theorem fc_X7_save : Cond.code yX7_save cX7_save 1 (some .int) ∈ fo_W0 := fo_in 1615 (by decide +kernel) (by decide +kernel)
theorem fn_L_290 : Cond.methodLink RL 290 yX7_save ∈ fo_W0 := fo_in 1612 (by decide +kernel) (by decide +kernel)
theorem lv_L_290 : fo_lv RL 290 yX7_save cX7_save 1 (some .int) 0 := fo_lv_of fn_L_290 fm_X7_save fs_X7_save fi_X7 fc_X7_save (by decide +kernel)
theorem ft_L_restore : Cond.static yL_restore ∈ fo_W0 := fo_in 1135 (by decide +kernel) (by decide +kernel)
set_option maxRecDepth 20000 in
theorem fc_L_restore : Cond.codeWith yL_restore cL_restore 3 (some .int) [(0, 8, 11, 15)] ∈ fo_W0 := fo_in 1136 rfl rfl
theorem fn_L_291 : Cond.methodLink RL 291 yL_restore ∈ fo_W0 := fo_in 1134 (by decide +kernel) (by decide +kernel)
theorem fm_X7_restore : Cond.instanceMethod yX7_restore ∈ fo_W0 := fo_in 1617 (by decide +kernel) (by decide +kernel)
theorem fs_X7_restore : Cond.selects yX7_restore.cls yX7_restore yX7_restore ∈ fo_W0 := fo_in 1618 (by decide +kernel) (by decide +kernel)
theorem fc_X7_restore : Cond.code yX7_restore cX7_restore 1 (some .int) ∈ fo_W0 := fo_in 1619 (by decide +kernel) (by decide +kernel)
theorem fn_L_293 : Cond.methodLink RL 293 yX7_restore ∈ fo_W0 := fo_in 1616 (by decide +kernel) (by decide +kernel)
theorem lv_L_293 : fo_lv RL 293 yX7_restore cX7_restore 1 (some .int) 0 := fo_lv_of fn_L_293 fm_X7_restore fs_X7_restore fi_X7 fc_X7_restore (by decide +kernel)
theorem ft_X0_digitOf : Cond.static yX0_digitOf ∈ fo_W0 := fo_in 383 (by decide +kernel) (by decide +kernel)
theorem fc_X0_digitOf : Cond.code yX0_digitOf cX0_digitOf 1 (some .char) ∈ fo_W0 := fo_in 384 (by decide +kernel) (by decide +kernel)
theorem fn_X0_19 : Cond.methodLink RX0 19 yX0_digitOf ∈ fo_W0 := fo_in 382 (by decide +kernel) (by decide +kernel)
theorem ls_X0_19 : fo_ls RX0 19 yX0_digitOf cX0_digitOf 1 (some .char) 1 := fo_ls_of fn_X0_19 ft_X0_digitOf fi_X0 fc_X0_digitOf (by decide +kernel)
theorem fm_X0_put : Cond.instanceMethod yX0_put ∈ fo_W0 := fo_in 371 (by decide +kernel) (by decide +kernel)
theorem fs_X0_put : Cond.selects yX0_put.cls yX0_put yX0_put ∈ fo_W0 := fo_in 372 (by decide +kernel) (by decide +kernel)
theorem fc_X0_put : Cond.code yX0_put cX0_put 2 none ∈ fo_W0 := fo_in 373 (by decide +kernel) (by decide +kernel)
theorem fn_X0_23 : Cond.methodLink RX0 23 yX0_put ∈ fo_W0 := fo_in 385 (by decide +kernel) (by decide +kernel)
theorem lv_X0_23 : fo_lv RX0 23 yX0_put cX0_put 2 none 1 := fo_lv_of fn_X0_23 fm_X0_put fs_X0_put fi_X0 fc_X0_put (by decide +kernel)
theorem fm_X5_copyFrom : Cond.instanceMethod yX5_copyFrom ∈ fo_W0 := fo_in 395 (by decide +kernel) (by decide +kernel)
theorem fs_X5_copyFrom : Cond.selects yX5_copyFrom.cls yX5_copyFrom yX5_copyFrom ∈ fo_W0 := fo_in 396 (by decide +kernel) (by decide +kernel)
theorem fc_X5_copyFrom : Cond.code yX5_copyFrom cX5_copyFrom 3 none ∈ fo_W0 := fo_in 397 (by decide +kernel) (by decide +kernel)
theorem fn_X1_22 : Cond.methodLink RX1 22 yX5_copyFrom ∈ fo_W0 := fo_in 520 (by decide +kernel) (by decide +kernel)
theorem lv_X1_22 : fo_lv RX1 22 yX5_copyFrom cX5_copyFrom 3 none 1 := fo_lv_of fn_X1_22 fm_X5_copyFrom fs_X5_copyFrom fi_X5 fc_X5_copyFrom (by decide +kernel)
theorem fm_X2_parseCommand : Cond.instanceMethod yX2_parseCommand ∈ fo_W0 := fo_in 988 (by decide +kernel) (by decide +kernel)
theorem fs_X2_parseCommand : Cond.selects yX2_parseCommand.cls yX2_parseCommand yX2_parseCommand ∈ fo_W0 := fo_in 9 (by decide +kernel) (by decide +kernel)
theorem fc_X2_parseCommand : Cond.code yX2_parseCommand cX2_parseCommand 1 (some .boolean) ∈ fo_W0 := fo_in 989 (by decide +kernel) (by decide +kernel)
theorem fn_X2_41 : Cond.methodLink RX2 41 yX2_parseCommand ∈ fo_W0 := fo_in 986 (by decide +kernel) (by decide +kernel)
theorem lv_X2_41 : fo_lv RX2 41 yX2_parseCommand cX2_parseCommand 1 (some .boolean) 0 := fo_lv_of fn_X2_41 fm_X2_parseCommand fs_X2_parseCommand fi_X2 fc_X2_parseCommand (by decide +kernel)
theorem fm_X2_accepts : Cond.instanceMethod yX2_accepts ∈ fo_W0 := fo_in 1049 (by decide +kernel) (by decide +kernel)
theorem fs_X2_accepts : Cond.selects yX2_accepts.cls yX2_accepts yX2_accepts ∈ fo_W0 := fo_in 12 (by decide +kernel) (by decide +kernel)
theorem fc_X2_accepts : Cond.code yX2_accepts cX2_accepts 2 (some .boolean) ∈ fo_W0 := fo_in 1050 (by decide +kernel) (by decide +kernel)
theorem fn_X2_45 : Cond.methodLink RX2 45 yX2_accepts ∈ fo_W0 := fo_in 1047 (by decide +kernel) (by decide +kernel)
theorem lv_X2_45 : fo_lv RX2 45 yX2_accepts cX2_accepts 2 (some .boolean) 1 := fo_lv_of fn_X2_45 fm_X2_accepts fs_X2_accepts fi_X2 fc_X2_accepts (by decide +kernel)
theorem fm_X2_isAt : Cond.instanceMethod yX2_isAt ∈ fo_W0 := fo_in 992 (by decide +kernel) (by decide +kernel)
theorem fs_X2_isAt : Cond.selects yX2_isAt.cls yX2_isAt yX2_isAt ∈ fo_W0 := fo_in 10 (by decide +kernel) (by decide +kernel)
theorem fc_X2_isAt : Cond.code yX2_isAt cX2_isAt 2 (some .boolean) ∈ fo_W0 := fo_in 993 (by decide +kernel) (by decide +kernel)
theorem fn_X2_49 : Cond.methodLink RX2 49 yX2_isAt ∈ fo_W0 := fo_in 990 (by decide +kernel) (by decide +kernel)
theorem lv_X2_49 : fo_lv RX2 49 yX2_isAt cX2_isAt 2 (some .boolean) 1 := fo_lv_of fn_X2_49 fm_X2_isAt fs_X2_isAt fi_X2 fc_X2_isAt (by decide +kernel)
theorem fm_X2_acceptsWord : Cond.instanceMethod yX2_acceptsWord ∈ fo_W0 := fo_in 997 (by decide +kernel) (by decide +kernel)
theorem fs_X2_acceptsWord : Cond.selects yX2_acceptsWord.cls yX2_acceptsWord yX2_acceptsWord ∈ fo_W0 := fo_in 11 (by decide +kernel) (by decide +kernel)
theorem fc_X2_acceptsWord : Cond.code yX2_acceptsWord cX2_acceptsWord 3 (some .boolean) ∈ fo_W0 := fo_in 998 (by decide +kernel) (by decide +kernel)
theorem fn_X2_54 : Cond.methodLink RX2 54 yX2_acceptsWord ∈ fo_W0 := fo_in 995 (by decide +kernel) (by decide +kernel)
theorem lv_X2_54 : fo_lv RX2 54 yX2_acceptsWord cX2_acceptsWord 3 (some .boolean) 1 := fo_lv_of fn_X2_54 fm_X2_acceptsWord fs_X2_acceptsWord fi_X2 fc_X2_acceptsWord (by decide +kernel)
theorem fm_X2_parseProphet : Cond.instanceMethod yX2_parseProphet ∈ fo_W0 := fo_in 1053 (by decide +kernel) (by decide +kernel)
theorem fs_X2_parseProphet : Cond.selects yX2_parseProphet.cls yX2_parseProphet yX2_parseProphet ∈ fo_W0 := fo_in 13 (by decide +kernel) (by decide +kernel)
theorem fc_X2_parseProphet : Cond.code yX2_parseProphet cX2_parseProphet 3 (some .boolean) ∈ fo_W0 := fo_in 1054 (by decide +kernel) (by decide +kernel)
theorem fn_X2_58 : Cond.methodLink RX2 58 yX2_parseProphet ∈ fo_W0 := fo_in 1051 (by decide +kernel) (by decide +kernel)
theorem lv_X2_58 : fo_lv RX2 58 yX2_parseProphet cX2_parseProphet 3 (some .boolean) 0 := fo_lv_of fn_X2_58 fm_X2_parseProphet fs_X2_parseProphet fi_X2 fc_X2_parseProphet (by decide +kernel)
theorem fm_X2_parseSee : Cond.instanceMethod yX2_parseSee ∈ fo_W0 := fo_in 1070 (by decide +kernel) (by decide +kernel)
theorem fs_X2_parseSee : Cond.selects yX2_parseSee.cls yX2_parseSee yX2_parseSee ∈ fo_W0 := fo_in 17 (by decide +kernel) (by decide +kernel)
theorem fc_X2_parseSee : Cond.code yX2_parseSee cX2_parseSee 3 (some .boolean) ∈ fo_W0 := fo_in 1071 (by decide +kernel) (by decide +kernel)
theorem fn_X2_63 : Cond.methodLink RX2 63 yX2_parseSee ∈ fo_W0 := fo_in 1068 (by decide +kernel) (by decide +kernel)
theorem lv_X2_63 : fo_lv RX2 63 yX2_parseSee cX2_parseSee 3 (some .boolean) 0 := fo_lv_of fn_X2_63 fm_X2_parseSee fs_X2_parseSee fi_X2 fc_X2_parseSee (by decide +kernel)
theorem fm_X2_parseDigit : Cond.instanceMethod yX2_parseDigit ∈ fo_W0 := fo_in 1079 (by decide +kernel) (by decide +kernel)
theorem fs_X2_parseDigit : Cond.selects yX2_parseDigit.cls yX2_parseDigit yX2_parseDigit ∈ fo_W0 := fo_in 19 (by decide +kernel) (by decide +kernel)
theorem fc_X2_parseDigit : Cond.code yX2_parseDigit cX2_parseDigit 2 (some .boolean) ∈ fo_W0 := fo_in 1080 (by decide +kernel) (by decide +kernel)
theorem fn_X2_68 : Cond.methodLink RX2 68 yX2_parseDigit ∈ fo_W0 := fo_in 1077 (by decide +kernel) (by decide +kernel)
theorem lv_X2_68 : fo_lv RX2 68 yX2_parseDigit cX2_parseDigit 2 (some .boolean) 1 := fo_lv_of fn_X2_68 fm_X2_parseDigit fs_X2_parseDigit fi_X2 fc_X2_parseDigit (by decide +kernel)
theorem fm_X2_isAtDigit : Cond.instanceMethod yX2_isAtDigit ∈ fo_W0 := fo_in 1057 (by decide +kernel) (by decide +kernel)
theorem fs_X2_isAtDigit : Cond.selects yX2_isAtDigit.cls yX2_isAtDigit yX2_isAtDigit ∈ fo_W0 := fo_in 14 (by decide +kernel) (by decide +kernel)
theorem fc_X2_isAtDigit : Cond.code yX2_isAtDigit cX2_isAtDigit 1 (some .boolean) ∈ fo_W0 := fo_in 1058 (by decide +kernel) (by decide +kernel)
theorem fn_X2_73 : Cond.methodLink RX2 73 yX2_isAtDigit ∈ fo_W0 := fo_in 1055 (by decide +kernel) (by decide +kernel)
theorem lv_X2_73 : fo_lv RX2 73 yX2_isAtDigit cX2_isAtDigit 1 (some .boolean) 0 := fo_lv_of fn_X2_73 fm_X2_isAtDigit fs_X2_isAtDigit fi_X2 fc_X2_isAtDigit (by decide +kernel)
theorem fm_X2_readDigit : Cond.instanceMethod yX2_readDigit ∈ fo_W0 := fo_in 1061 (by decide +kernel) (by decide +kernel)
theorem fs_X2_readDigit : Cond.selects yX2_readDigit.cls yX2_readDigit yX2_readDigit ∈ fo_W0 := fo_in 15 (by decide +kernel) (by decide +kernel)
theorem fc_X2_readDigit : Cond.code yX2_readDigit cX2_readDigit 2 (some .int) ∈ fo_W0 := fo_in 1062 (by decide +kernel) (by decide +kernel)
theorem fn_X2_76 : Cond.methodLink RX2 76 yX2_readDigit ∈ fo_W0 := fo_in 1059 (by decide +kernel) (by decide +kernel)
theorem lv_X2_76 : fo_lv RX2 76 yX2_readDigit cX2_readDigit 2 (some .int) 0 := fo_lv_of fn_X2_76 fm_X2_readDigit fs_X2_readDigit fi_X2 fc_X2_readDigit (by decide +kernel)
theorem fm_X2_addStep : Cond.instanceMethod yX2_addStep ∈ fo_W0 := fo_in 1065 (by decide +kernel) (by decide +kernel)
theorem fs_X2_addStep : Cond.selects yX2_addStep.cls yX2_addStep yX2_addStep ∈ fo_W0 := fo_in 16 (by decide +kernel) (by decide +kernel)
theorem fc_X2_addStep : Cond.code yX2_addStep cX2_addStep 4 none ∈ fo_W0 := fo_in 1066 (by decide +kernel) (by decide +kernel)
theorem fn_X2_80 : Cond.methodLink RX2 80 yX2_addStep ∈ fo_W0 := fo_in 1063 (by decide +kernel) (by decide +kernel)
theorem lv_X2_80 : fo_lv RX2 80 yX2_addStep cX2_addStep 4 none 3 := fo_lv_of fn_X2_80 fm_X2_addStep fs_X2_addStep fi_X2 fc_X2_addStep (by decide +kernel)
theorem fm_X2_readNumber : Cond.instanceMethod yX2_readNumber ∈ fo_W0 := fo_in 1074 (by decide +kernel) (by decide +kernel)
theorem fs_X2_readNumber : Cond.selects yX2_readNumber.cls yX2_readNumber yX2_readNumber ∈ fo_W0 := fo_in 18 (by decide +kernel) (by decide +kernel)
theorem fc_X2_readNumber : Cond.code yX2_readNumber cX2_readNumber 3 (some .int) ∈ fo_W0 := fo_in 1075 (by decide +kernel) (by decide +kernel)
theorem fn_X2_84 : Cond.methodLink RX2 84 yX2_readNumber ∈ fo_W0 := fo_in 1072 (by decide +kernel) (by decide +kernel)
theorem lv_X2_84 : fo_lv RX2 84 yX2_readNumber cX2_readNumber 3 (some .int) 0 := fo_lv_of fn_X2_84 fm_X2_readNumber fs_X2_readNumber fi_X2 fc_X2_readNumber (by decide +kernel)
theorem fm_X3_wipeScores : Cond.instanceMethod yX3_wipeScores ∈ fo_W0 := fo_in 534 (by decide +kernel) (by decide +kernel)
theorem fs_X3_wipeScores : Cond.selects yX3_wipeScores.cls yX3_wipeScores yX3_wipeScores ∈ fo_W0 := fo_in 535 (by decide +kernel) (by decide +kernel)
theorem fc_X3_wipeScores : Cond.code yX3_wipeScores cX3_wipeScores 2 none ∈ fo_W0 := fo_in 536 (by decide +kernel) (by decide +kernel)
theorem fn_X3_36 : Cond.methodLink RX3 36 yX3_wipeScores ∈ fo_W0 := fo_in 533 (by decide +kernel) (by decide +kernel)
theorem lv_X3_36 : fo_lv RX3 36 yX3_wipeScores cX3_wipeScores 2 none 1 := fo_lv_of fn_X3_36 fm_X3_wipeScores fs_X3_wipeScores fi_X3 fc_X3_wipeScores (by decide +kernel)
theorem fm_X3_neededValues : Cond.instanceMethod yX3_neededValues ∈ fo_W0 := fo_in 330 (by decide +kernel) (by decide +kernel)
theorem fs_X3_neededValues : Cond.selects yX3_neededValues.cls yX3_neededValues yX3_neededValues ∈ fo_W0 := fo_in 331 (by decide +kernel) (by decide +kernel)
theorem fc_X3_neededValues : Cond.code yX3_neededValues cX3_neededValues 1 (some .int) ∈ fo_W0 := fo_in 332 (by decide +kernel) (by decide +kernel)
theorem fn_X3_40 : Cond.methodLink RX3 40 yX3_neededValues ∈ fo_W0 := fo_in 340 (by decide +kernel) (by decide +kernel)
theorem lv_X3_40 : fo_lv RX3 40 yX3_neededValues cX3_neededValues 1 (some .int) 0 := fo_lv_of fn_X3_40 fm_X3_neededValues fs_X3_neededValues fi_X3 fc_X3_neededValues (by decide +kernel)
theorem fm_X4_meanBefore : Cond.instanceMethod yX4_meanBefore ∈ fo_W0 := fo_in 350 (by decide +kernel) (by decide +kernel)
theorem fs_X4_meanBefore : Cond.selects yX4_meanBefore.cls yX4_meanBefore yX4_meanBefore ∈ fo_W0 := fo_in 351 (by decide +kernel) (by decide +kernel)
theorem fc_X4_meanBefore : Cond.code yX4_meanBefore cX4_meanBefore 5 (some .double) ∈ fo_W0 := fo_in 352 (by decide +kernel) (by decide +kernel)
theorem fn_X3_44 : Cond.methodLink RX3 44 yX4_meanBefore ∈ fo_W0 := fo_in 349 (by decide +kernel) (by decide +kernel)
theorem lv_X3_44 : fo_lv RX3 44 yX4_meanBefore cX4_meanBefore 5 (some .double) 2 := fo_lv_of fn_X3_44 fm_X4_meanBefore fs_X4_meanBefore fi_X4 fc_X4_meanBefore (by decide +kernel)
theorem fm_X4_medianOf : Cond.instanceMethod yX4_medianOf ∈ fo_W0 := fo_in 354 (by decide +kernel) (by decide +kernel)
theorem fs_X4_medianOf : Cond.selects yX4_medianOf.cls yX4_medianOf yX4_medianOf ∈ fo_W0 := fo_in 355 (by decide +kernel) (by decide +kernel)
theorem fc_X4_medianOf : Cond.code yX4_medianOf cX4_medianOf 7 (some .int) ∈ fo_W0 := fo_in 356 (by decide +kernel) (by decide +kernel)
theorem fn_X3_53 : Cond.methodLink RX3 53 yX4_medianOf ∈ fo_W0 := fo_in 353 (by decide +kernel) (by decide +kernel)
theorem lv_X3_53 : fo_lv RX3 53 yX4_medianOf cX4_medianOf 7 (some .int) 3 := fo_lv_of fn_X3_53 fm_X4_medianOf fs_X4_medianOf fi_X4 fc_X4_medianOf (by decide +kernel)
theorem fm_X4_levelBefore : Cond.instanceMethod yX4_levelBefore ∈ fo_W0 := fo_in 358 (by decide +kernel) (by decide +kernel)
theorem fs_X4_levelBefore : Cond.selects yX4_levelBefore.cls yX4_levelBefore yX4_levelBefore ∈ fo_W0 := fo_in 359 (by decide +kernel) (by decide +kernel)
theorem fc_X4_levelBefore : Cond.code yX4_levelBefore cX4_levelBefore 6 (some .double) ∈ fo_W0 := fo_in 360 (by decide +kernel) (by decide +kernel)
theorem fn_X3_57 : Cond.methodLink RX3 57 yX4_levelBefore ∈ fo_W0 := fo_in 357 (by decide +kernel) (by decide +kernel)
theorem lv_X3_57 : fo_lv RX3 57 yX4_levelBefore cX4_levelBefore 6 (some .double) 2 := fo_lv_of fn_X3_57 fm_X4_levelBefore fs_X4_levelBefore fi_X4 fc_X4_levelBefore (by decide +kernel)
theorem fm_X3_foretell : Cond.instanceMethod yX3_foretell ∈ fo_W0 := fo_in 346 (by decide +kernel) (by decide +kernel)
theorem fs_X3_foretell : Cond.selects yX3_foretell.cls yX3_foretell yX3_foretell ∈ fo_W0 := fo_in 347 (by decide +kernel) (by decide +kernel)
theorem fc_X3_foretell : Cond.code yX3_foretell cX3_foretell 3 (some .double) ∈ fo_W0 := fo_in 348 (by decide +kernel) (by decide +kernel)
theorem fn_X3_60 : Cond.methodLink RX3 60 yX3_foretell ∈ fo_W0 := fo_in 345 (by decide +kernel) (by decide +kernel)
theorem lv_X3_60 : fo_lv RX3 60 yX3_foretell cX3_foretell 3 (some .double) 2 := fo_lv_of fn_X3_60 fm_X3_foretell fs_X3_foretell fi_X3 fc_X3_foretell (by decide +kernel)
theorem fm_X3_errorOn : Cond.instanceMethod yX3_errorOn ∈ fo_W0 := fo_in 342 (by decide +kernel) (by decide +kernel)
theorem fs_X3_errorOn : Cond.selects yX3_errorOn.cls yX3_errorOn yX3_errorOn ∈ fo_W0 := fo_in 343 (by decide +kernel) (by decide +kernel)
theorem fc_X3_errorOn : Cond.code yX3_errorOn cX3_errorOn 5 (some .double) ∈ fo_W0 := fo_in 344 (by decide +kernel) (by decide +kernel)
theorem fn_X3_67 : Cond.methodLink RX3 67 yX3_errorOn ∈ fo_W0 := fo_in 341 (by decide +kernel) (by decide +kernel)
theorem lv_X3_67 : fo_lv RX3 67 yX3_errorOn cX3_errorOn 5 (some .double) 2 := fo_lv_of fn_X3_67 fm_X3_errorOn fs_X3_errorOn fi_X3 fc_X3_errorOn (by decide +kernel)
theorem fm_X4_countBelow : Cond.instanceMethod yX4_countBelow ∈ fo_W0 := fo_in 735 (by decide +kernel) (by decide +kernel)
theorem fs_X4_countBelow : Cond.selects yX4_countBelow.cls yX4_countBelow yX4_countBelow ∈ fo_W0 := fo_in 5 (by decide +kernel) (by decide +kernel)
theorem fc_X4_countBelow : Cond.code yX4_countBelow cX4_countBelow 5 (some .int) ∈ fo_W0 := fo_in 736 (by decide +kernel) (by decide +kernel)
theorem fn_X4_43 : Cond.methodLink RX4 43 yX4_countBelow ∈ fo_W0 := fo_in 733 (by decide +kernel) (by decide +kernel)
theorem lv_X4_43 : fo_lv RX4 43 yX4_countBelow cX4_countBelow 5 (some .int) 2 := fo_lv_of fn_X4_43 fm_X4_countBelow fs_X4_countBelow fi_X4 fc_X4_countBelow (by decide +kernel)
theorem fn_X4_48 : Cond.methodLink RX4 48 yX4_medianOf ∈ fo_W0 := fo_in 756 (by decide +kernel) (by decide +kernel)
theorem lv_X4_48 : fo_lv RX4 48 yX4_medianOf cX4_medianOf 7 (some .int) 3 := fo_lv_of fn_X4_48 fm_X4_medianOf fs_X4_medianOf fi_X4 fc_X4_medianOf (by decide +kernel)
theorem fm_X4_strays : Cond.instanceMethod yX4_strays ∈ fo_W0 := fo_in 753 (by decide +kernel) (by decide +kernel)
theorem fs_X4_strays : Cond.selects yX4_strays.cls yX4_strays yX4_strays ∈ fo_W0 := fo_in 754 (by decide +kernel) (by decide +kernel)
theorem fc_X4_strays : Cond.code yX4_strays cX4_strays 6 (some .boolean) ∈ fo_W0 := fo_in 755 (by decide +kernel) (by decide +kernel)
theorem fn_X4_56 : Cond.methodLink RX4 56 yX4_strays ∈ fo_W0 := fo_in 771 (by decide +kernel) (by decide +kernel)
theorem lv_X4_56 : fo_lv RX4 56 yX4_strays cX4_strays 6 (some .boolean) 2 := fo_lv_of fn_X4_56 fm_X4_strays fs_X4_strays fi_X4 fc_X4_strays (by decide +kernel)
theorem fm_X4_countBetween : Cond.instanceMethod yX4_countBetween ∈ fo_W0 := fo_in 322 (by decide +kernel) (by decide +kernel)
theorem fs_X4_countBetween : Cond.selects yX4_countBetween.cls yX4_countBetween yX4_countBetween ∈ fo_W0 := fo_in 323 (by decide +kernel) (by decide +kernel)
theorem fc_X4_countBetween : Cond.code yX4_countBetween cX4_countBetween 5 (some .int) ∈ fo_W0 := fo_in 324 (by decide +kernel) (by decide +kernel)
theorem fn_X4_60 : Cond.methodLink RX4 60 yX4_countBetween ∈ fo_W0 := fo_in 321 (by decide +kernel) (by decide +kernel)
theorem lv_X4_60 : fo_lv RX4 60 yX4_countBetween cX4_countBetween 5 (some .int) 2 := fo_lv_of fn_X4_60 fm_X4_countBetween fs_X4_countBetween fi_X4 fc_X4_countBetween (by decide +kernel)
theorem fm_X4_copyFrom : Cond.instanceMethod yX4_copyFrom ∈ fo_W0 := fo_in 399 (by decide +kernel) (by decide +kernel)
theorem fs_X4_copyFrom : Cond.selects yX4_copyFrom.cls yX4_copyFrom yX4_copyFrom ∈ fo_W0 := fo_in 400 (by decide +kernel) (by decide +kernel)
theorem fc_X4_copyFrom : Cond.code yX4_copyFrom cX4_copyFrom 2 none ∈ fo_W0 := fo_in 401 (by decide +kernel) (by decide +kernel)
theorem fn_X5_29 : Cond.methodLink RX5 29 yX4_copyFrom ∈ fo_W0 := fo_in 398 (by decide +kernel) (by decide +kernel)
theorem lv_X5_29 : fo_lv RX5 29 yX4_copyFrom cX4_copyFrom 2 none 1 := fo_lv_of fn_X5_29 fm_X4_copyFrom fs_X4_copyFrom fi_X4 fc_X4_copyFrom (by decide +kernel)
theorem fm_X3_copyFrom : Cond.instanceMethod yX3_copyFrom ∈ fo_W0 := fo_in 406 (by decide +kernel) (by decide +kernel)
theorem fs_X3_copyFrom : Cond.selects yX3_copyFrom.cls yX3_copyFrom yX3_copyFrom ∈ fo_W0 := fo_in 407 (by decide +kernel) (by decide +kernel)
theorem fc_X3_copyFrom : Cond.code yX3_copyFrom cX3_copyFrom 2 none ∈ fo_W0 := fo_in 408 (by decide +kernel) (by decide +kernel)
theorem fn_X5_33 : Cond.methodLink RX5 33 yX3_copyFrom ∈ fo_W0 := fo_in 405 (by decide +kernel) (by decide +kernel)
theorem lv_X5_33 : fo_lv RX5 33 yX3_copyFrom cX3_copyFrom 2 none 1 := fo_lv_of fn_X5_33 fm_X3_copyFrom fs_X3_copyFrom fi_X3 fc_X3_copyFrom (by decide +kernel)
theorem fm_X5_countAllValues : Cond.instanceMethod yX5_countAllValues ∈ fo_W0 := fo_in 494 (by decide +kernel) (by decide +kernel)
theorem fs_X5_countAllValues : Cond.selects yX5_countAllValues.cls yX5_countAllValues yX5_countAllValues ∈ fo_W0 := fo_in 495 (by decide +kernel) (by decide +kernel)
theorem fc_X5_countAllValues : Cond.code yX5_countAllValues cX5_countAllValues 3 (some .int) ∈ fo_W0 := fo_in 496 (by decide +kernel) (by decide +kernel)
theorem fn_X5_39 : Cond.methodLink RX5 39 yX5_countAllValues ∈ fo_W0 := fo_in 493 (by decide +kernel) (by decide +kernel)
theorem lv_X5_39 : fo_lv RX5 39 yX5_countAllValues cX5_countAllValues 3 (some .int) 0 := fo_lv_of fn_X5_39 fm_X5_countAllValues fs_X5_countAllValues fi_X5 fc_X5_countAllValues (by decide +kernel)
theorem fm_X3_begin : Cond.instanceMethod yX3_begin ∈ fo_W0 := fo_in 530 (by decide +kernel) (by decide +kernel)
theorem fs_X3_begin : Cond.selects yX3_begin.cls yX3_begin yX3_begin ∈ fo_W0 := fo_in 531 (by decide +kernel) (by decide +kernel)
theorem fc_X3_begin : Cond.code yX3_begin cX3_begin 4 none ∈ fo_W0 := fo_in 532 (by decide +kernel) (by decide +kernel)
theorem fn_X5_43 : Cond.methodLink RX5 43 yX3_begin ∈ fo_W0 := fo_in 529 (by decide +kernel) (by decide +kernel)
theorem lv_X5_43 : fo_lv RX5 43 yX3_begin cX3_begin 4 none 2 := fo_lv_of fn_X5_43 fm_X3_begin fs_X3_begin fi_X3 fc_X3_begin (by decide +kernel)
theorem fm_X4_add : Cond.instanceMethod yX4_add ∈ fo_W0 := fo_in 611 (by decide +kernel) (by decide +kernel)
theorem fs_X4_add : Cond.selects yX4_add.cls yX4_add yX4_add ∈ fo_W0 := fo_in 612 (by decide +kernel) (by decide +kernel)
theorem fc_X4_add : Cond.code yX4_add cX4_add 2 (some .int) ∈ fo_W0 := fo_in 613 (by decide +kernel) (by decide +kernel)
theorem fn_X5_47 : Cond.methodLink RX5 47 yX4_add ∈ fo_W0 := fo_in 610 (by decide +kernel) (by decide +kernel)
theorem lv_X5_47 : fo_lv RX5 47 yX4_add cX4_add 2 (some .int) 1 := fo_lv_of fn_X5_47 fm_X4_add fs_X4_add fi_X4 fc_X4_add (by decide +kernel)
theorem fm_X3_foresees : Cond.instanceMethod yX3_foresees ∈ fo_W0 := fo_in 615 (by decide +kernel) (by decide +kernel)
theorem fs_X3_foresees : Cond.selects yX3_foresees.cls yX3_foresees yX3_foresees ∈ fo_W0 := fo_in 616 (by decide +kernel) (by decide +kernel)
theorem fc_X3_foresees : Cond.code yX3_foresees cX3_foresees 2 (some .boolean) ∈ fo_W0 := fo_in 617 (by decide +kernel) (by decide +kernel)
theorem fn_X5_51 : Cond.methodLink RX5 51 yX3_foresees ∈ fo_W0 := fo_in 614 (by decide +kernel) (by decide +kernel)
theorem lv_X5_51 : fo_lv RX5 51 yX3_foresees cX3_foresees 2 (some .boolean) 1 := fo_lv_of fn_X5_51 fm_X3_foresees fs_X3_foresees fi_X3 fc_X3_foresees (by decide +kernel)
theorem fn_X5_55 : Cond.methodLink RX5 55 yX3_errorOn ∈ fo_W0 := fo_in 618 (by decide +kernel) (by decide +kernel)
theorem lv_X5_55 : fo_lv RX5 55 yX3_errorOn cX3_errorOn 5 (some .double) 2 := fo_lv_of fn_X5_55 fm_X3_errorOn fs_X3_errorOn fi_X3 fc_X3_errorOn (by decide +kernel)
theorem fm_X3_addError : Cond.instanceMethod yX3_addError ∈ fo_W0 := fo_in 620 (by decide +kernel) (by decide +kernel)
theorem fs_X3_addError : Cond.selects yX3_addError.cls yX3_addError yX3_addError ∈ fo_W0 := fo_in 621 (by decide +kernel) (by decide +kernel)
theorem fc_X3_addError : Cond.code yX3_addError cX3_addError 4 none ∈ fo_W0 := fo_in 622 (by decide +kernel) (by decide +kernel)
theorem fn_X5_59 : Cond.methodLink RX5 59 yX3_addError ∈ fo_W0 := fo_in 619 (by decide +kernel) (by decide +kernel)
theorem lv_X5_59 : fo_lv RX5 59 yX3_addError cX3_addError 4 none 2 := fo_lv_of fn_X5_59 fm_X3_addError fs_X3_addError fi_X3 fc_X3_addError (by decide +kernel)
theorem fn_X5_70 : Cond.methodLink RX5 70 yX3_wipeScores ∈ fo_W0 := fo_in 641 (by decide +kernel) (by decide +kernel)
theorem lv_X5_70 : fo_lv RX5 70 yX3_wipeScores cX3_wipeScores 2 none 1 := fo_lv_of fn_X5_70 fm_X3_wipeScores fs_X3_wipeScores fi_X3 fc_X3_wipeScores (by decide +kernel)
theorem fm_X4_countStrays : Cond.instanceMethod yX4_countStrays ∈ fo_W0 := fo_in 768 (by decide +kernel) (by decide +kernel)
theorem fs_X4_countStrays : Cond.selects yX4_countStrays.cls yX4_countStrays yX4_countStrays ∈ fo_W0 := fo_in 769 (by decide +kernel) (by decide +kernel)
theorem fc_X4_countStrays : Cond.code yX4_countStrays cX4_countStrays 4 (some .int) ∈ fo_W0 := fo_in 770 (by decide +kernel) (by decide +kernel)
theorem fn_X5_74 : Cond.methodLink RX5 74 yX4_countStrays ∈ fo_W0 := fo_in 948 (by decide +kernel) (by decide +kernel)
theorem lv_X5_74 : fo_lv RX5 74 yX4_countStrays cX4_countStrays 4 (some .int) 1 := fo_lv_of fn_X5_74 fm_X4_countStrays fs_X4_countStrays fi_X4 fc_X4_countStrays (by decide +kernel)
theorem fm_X5_rankOf : Cond.instanceMethod yX5_rankOf ∈ fo_W0 := fo_in 920 (by decide +kernel) (by decide +kernel)
theorem fs_X5_rankOf : Cond.selects yX5_rankOf.cls yX5_rankOf yX5_rankOf ∈ fo_W0 := fo_in 8 (by decide +kernel) (by decide +kernel)
theorem fc_X5_rankOf : Cond.code yX5_rankOf cX5_rankOf 6 (some .int) ∈ fo_W0 := fo_in 921 (by decide +kernel) (by decide +kernel)
theorem fn_X5_77 : Cond.methodLink RX5 77 yX5_rankOf ∈ fo_W0 := fo_in 918 (by decide +kernel) (by decide +kernel)
theorem lv_X5_77 : fo_lv RX5 77 yX5_rankOf cX5_rankOf 6 (some .int) 1 := fo_lv_of fn_X5_77 fm_X5_rankOf fs_X5_rankOf fi_X5 fc_X5_rankOf (by decide +kernel)
theorem fm_X3_sumAllPoints : Cond.instanceMethod yX3_sumAllPoints ∈ fo_W0 := fo_in 387 (by decide +kernel) (by decide +kernel)
theorem fs_X3_sumAllPoints : Cond.selects yX3_sumAllPoints.cls yX3_sumAllPoints yX3_sumAllPoints ∈ fo_W0 := fo_in 388 (by decide +kernel) (by decide +kernel)
theorem fc_X3_sumAllPoints : Cond.code yX3_sumAllPoints cX3_sumAllPoints 3 (some .int) ∈ fo_W0 := fo_in 389 (by decide +kernel) (by decide +kernel)
theorem fn_X5_80 : Cond.methodLink RX5 80 yX3_sumAllPoints ∈ fo_W0 := fo_in 922 (by decide +kernel) (by decide +kernel)
theorem lv_X5_80 : fo_lv RX5 80 yX3_sumAllPoints cX3_sumAllPoints 3 (some .int) 0 := fo_lv_of fn_X5_80 fm_X3_sumAllPoints fs_X3_sumAllPoints fi_X3 fc_X3_sumAllPoints (by decide +kernel)
theorem fm_X3_countAllErrors : Cond.instanceMethod yX3_countAllErrors ∈ fo_W0 := fo_in 895 (by decide +kernel) (by decide +kernel)
theorem fs_X3_countAllErrors : Cond.selects yX3_countAllErrors.cls yX3_countAllErrors yX3_countAllErrors ∈ fo_W0 := fo_in 896 (by decide +kernel) (by decide +kernel)
theorem fc_X3_countAllErrors : Cond.code yX3_countAllErrors cX3_countAllErrors 3 (some .int) ∈ fo_W0 := fo_in 897 (by decide +kernel) (by decide +kernel)
theorem fn_X5_83 : Cond.methodLink RX5 83 yX3_countAllErrors ∈ fo_W0 := fo_in 934 (by decide +kernel) (by decide +kernel)
theorem lv_X5_83 : fo_lv RX5 83 yX3_countAllErrors cX3_countAllErrors 3 (some .int) 0 := fo_lv_of fn_X5_83 fm_X3_countAllErrors fs_X3_countAllErrors fi_X3 fc_X3_countAllErrors (by decide +kernel)
theorem fm_X3_sumAllErrors : Cond.instanceMethod yX3_sumAllErrors ∈ fo_W0 := fo_in 904 (by decide +kernel) (by decide +kernel)
theorem fs_X3_sumAllErrors : Cond.selects yX3_sumAllErrors.cls yX3_sumAllErrors yX3_sumAllErrors ∈ fo_W0 := fo_in 905 (by decide +kernel) (by decide +kernel)
theorem fc_X3_sumAllErrors : Cond.code yX3_sumAllErrors cX3_sumAllErrors 4 (some .double) ∈ fo_W0 := fo_in 906 (by decide +kernel) (by decide +kernel)
theorem fn_X5_86 : Cond.methodLink RX5 86 yX3_sumAllErrors ∈ fo_W0 := fo_in 935 (by decide +kernel) (by decide +kernel)
theorem lv_X5_86 : fo_lv RX5 86 yX3_sumAllErrors cX3_sumAllErrors 4 (some .double) 0 := fo_lv_of fn_X5_86 fm_X3_sumAllErrors fs_X3_sumAllErrors fi_X3 fc_X3_sumAllErrors (by decide +kernel)
theorem fm_X4_isSound : Cond.instanceMethod yX4_isSound ∈ fo_W0 := fo_in 318 (by decide +kernel) (by decide +kernel)
theorem fs_X4_isSound : Cond.selects yX4_isSound.cls yX4_isSound yX4_isSound ∈ fo_W0 := fo_in 319 (by decide +kernel) (by decide +kernel)
theorem fc_X4_isSound : Cond.code yX4_isSound cX4_isSound 1 (some .boolean) ∈ fo_W0 := fo_in 320 (by decide +kernel) (by decide +kernel)
theorem fn_X5_104 : Cond.methodLink RX5 104 yX4_isSound ∈ fo_W0 := fo_in 317 (by decide +kernel) (by decide +kernel)
theorem lv_X5_104 : fo_lv RX5 104 yX4_isSound cX4_isSound 1 (some .boolean) 0 := fo_lv_of fn_X5_104 fm_X4_isSound fs_X4_isSound fi_X4 fc_X4_isSound (by decide +kernel)
theorem fm_X5_areScoresSound : Cond.instanceMethod yX5_areScoresSound ∈ fo_W0 := fo_in 327 (by decide +kernel) (by decide +kernel)
theorem fs_X5_areScoresSound : Cond.selects yX5_areScoresSound.cls yX5_areScoresSound yX5_areScoresSound ∈ fo_W0 := fo_in 0 (by decide +kernel) (by decide +kernel)
theorem fc_X5_areScoresSound : Cond.code yX5_areScoresSound cX5_areScoresSound 7 (some .boolean) ∈ fo_W0 := fo_in 328 (by decide +kernel) (by decide +kernel)
theorem fn_X5_108 : Cond.methodLink RX5 108 yX5_areScoresSound ∈ fo_W0 := fo_in 325 (by decide +kernel) (by decide +kernel)
theorem lv_X5_108 : fo_lv RX5 108 yX5_areScoresSound cX5_areScoresSound 7 (some .boolean) 1 := fo_lv_of fn_X5_108 fm_X5_areScoresSound fs_X5_areScoresSound fi_X5 fc_X5_areScoresSound (by decide +kernel)
theorem fn_X5_111 : Cond.methodLink RX5 111 yX3_neededValues ∈ fo_W0 := fo_in 329 (by decide +kernel) (by decide +kernel)
theorem lv_X5_111 : fo_lv RX5 111 yX3_neededValues cX3_neededValues 1 (some .int) 0 := fo_lv_of fn_X5_111 fm_X3_neededValues fs_X3_neededValues fi_X3 fc_X3_neededValues (by decide +kernel)
theorem fm_X3_backtest : Cond.instanceMethod yX3_backtest ∈ fo_W0 := fo_in 337 (by decide +kernel) (by decide +kernel)
theorem fs_X3_backtest : Cond.selects yX3_backtest.cls yX3_backtest yX3_backtest ∈ fo_W0 := fo_in 338 (by decide +kernel) (by decide +kernel)
theorem fc_X3_backtest : Cond.code yX3_backtest cX3_backtest 5 (some .double) ∈ fo_W0 := fo_in 339 (by decide +kernel) (by decide +kernel)
theorem fn_X5_127 : Cond.methodLink RX5 127 yX3_backtest ∈ fo_W0 := fo_in 336 (by decide +kernel) (by decide +kernel)
theorem lv_X5_127 : fo_lv RX5 127 yX3_backtest cX3_backtest 5 (some .double) 1 := fo_lv_of fn_X5_127 fm_X3_backtest fs_X3_backtest fi_X3 fc_X3_backtest (by decide +kernel)
theorem ft_X6_isKind : Cond.static yX6_isKind ∈ fo_W0 := fo_in 315 (by decide +kernel) (by decide +kernel)
theorem fc_X6_isKind : Cond.code yX6_isKind cX6_isKind 1 (some .boolean) ∈ fo_W0 := fo_in 316 (by decide +kernel) (by decide +kernel)
theorem fn_X6_47 : Cond.methodLink RX6 47 yX6_isKind ∈ fo_W0 := fo_in 419 (by decide +kernel) (by decide +kernel)
theorem ls_X6_47 : fo_ls RX6 47 yX6_isKind cX6_isKind 1 (some .boolean) 1 := fo_ls_of fn_X6_47 ft_X6_isKind fi_X6 fc_X6_isKind (by decide +kernel)
theorem ft_X6_isOneToNine : Cond.static yX6_isOneToNine ∈ fo_W0 := fo_in 312 (by decide +kernel) (by decide +kernel)
theorem fc_X6_isOneToNine : Cond.code yX6_isOneToNine cX6_isOneToNine 1 (some .boolean) ∈ fo_W0 := fo_in 313 (by decide +kernel) (by decide +kernel)
theorem fn_X6_51 : Cond.methodLink RX6 51 yX6_isOneToNine ∈ fo_W0 := fo_in 420 (by decide +kernel) (by decide +kernel)
theorem ls_X6_51 : fo_ls RX6 51 yX6_isOneToNine cX6_isOneToNine 1 (some .boolean) 1 := fo_ls_of fn_X6_51 ft_X6_isOneToNine fi_X6 fc_X6_isOneToNine (by decide +kernel)
theorem fm_X5_takesProphet : Cond.instanceMethod yX5_takesProphet ∈ fo_W0 := fo_in 490 (by decide +kernel) (by decide +kernel)
theorem fs_X5_takesProphet : Cond.selects yX5_takesProphet.cls yX5_takesProphet yX5_takesProphet ∈ fo_W0 := fo_in 491 (by decide +kernel) (by decide +kernel)
theorem fc_X5_takesProphet : Cond.code yX5_takesProphet cX5_takesProphet 1 (some .boolean) ∈ fo_W0 := fo_in 492 (by decide +kernel) (by decide +kernel)
theorem fn_X6_58 : Cond.methodLink RX6 58 yX5_takesProphet ∈ fo_W0 := fo_in 489 (by decide +kernel) (by decide +kernel)
theorem lv_X6_58 : fo_lv RX6 58 yX5_takesProphet cX5_takesProphet 1 (some .boolean) 0 := fo_lv_of fn_X6_58 fm_X5_takesProphet fs_X5_takesProphet fi_X5 fc_X5_takesProphet (by decide +kernel)
theorem fm_X6_noteChange : Cond.instanceMethod yX6_noteChange ∈ fo_W0 := fo_in 514 (by decide +kernel) (by decide +kernel)
theorem fs_X6_noteChange : Cond.selects yX6_noteChange.cls yX6_noteChange yX6_noteChange ∈ fo_W0 := fo_in 2 (by decide +kernel) (by decide +kernel)
theorem fc_X6_noteChange : Cond.code yX6_noteChange cX6_noteChange 1 none ∈ fo_W0 := fo_in 515 (by decide +kernel) (by decide +kernel)
theorem fn_X6_65 : Cond.methodLink RX6 65 yX6_noteChange ∈ fo_W0 := fo_in 512 (by decide +kernel) (by decide +kernel)
theorem lv_X6_65 : fo_lv RX6 65 yX6_noteChange cX6_noteChange 1 none 0 := fo_lv_of fn_X6_65 fm_X6_noteChange fs_X6_noteChange fi_X6 fc_X6_noteChange (by decide +kernel)
theorem fm_X5_enlist : Cond.instanceMethod yX5_enlist ∈ fo_W0 := fo_in 526 (by decide +kernel) (by decide +kernel)
theorem fs_X5_enlist : Cond.selects yX5_enlist.cls yX5_enlist yX5_enlist ∈ fo_W0 := fo_in 527 (by decide +kernel) (by decide +kernel)
theorem fc_X5_enlist : Cond.code yX5_enlist cX5_enlist 3 (some .int) ∈ fo_W0 := fo_in 528 (by decide +kernel) (by decide +kernel)
theorem fn_X6_68 : Cond.methodLink RX6 68 yX5_enlist ∈ fo_W0 := fo_in 525 (by decide +kernel) (by decide +kernel)
theorem lv_X6_68 : fo_lv RX6 68 yX5_enlist cX5_enlist 3 (some .int) 2 := fo_lv_of fn_X6_68 fm_X5_enlist fs_X5_enlist fi_X5 fc_X5_enlist (by decide +kernel)
theorem fm_X6_seriesAt : Cond.instanceMethod yX6_seriesAt ∈ fo_W0 := fo_in 579 (by decide +kernel) (by decide +kernel)
theorem fs_X6_seriesAt : Cond.selects yX6_seriesAt.cls yX6_seriesAt yX6_seriesAt ∈ fo_W0 := fo_in 3 (by decide +kernel) (by decide +kernel)
theorem fc_X6_seriesAt : Cond.code yX6_seriesAt cX6_seriesAt 2 (some (.object "ForecastLab$Series")) ∈ fo_W0 := fo_in 580 (by decide +kernel) (by decide +kernel)
theorem fn_X6_72 : Cond.methodLink RX6 72 yX6_seriesAt ∈ fo_W0 := fo_in 577 (by decide +kernel) (by decide +kernel)
theorem lv_X6_72 : fo_lv RX6 72 yX6_seriesAt cX6_seriesAt 2 (some (.object "ForecastLab$Series")) 1 := fo_lv_of fn_X6_72 fm_X6_seriesAt fs_X6_seriesAt fi_X6 fc_X6_seriesAt (by decide +kernel)
theorem fm_X4_isFull : Cond.instanceMethod yX4_isFull ∈ fo_W0 := fo_in 603 (by decide +kernel) (by decide +kernel)
theorem fs_X4_isFull : Cond.selects yX4_isFull.cls yX4_isFull yX4_isFull ∈ fo_W0 := fo_in 604 (by decide +kernel) (by decide +kernel)
theorem fc_X4_isFull : Cond.code yX4_isFull cX4_isFull 1 (some .boolean) ∈ fo_W0 := fo_in 605 (by decide +kernel) (by decide +kernel)
theorem fn_X6_76 : Cond.methodLink RX6 76 yX4_isFull ∈ fo_W0 := fo_in 602 (by decide +kernel) (by decide +kernel)
theorem lv_X6_76 : fo_lv RX6 76 yX4_isFull cX4_isFull 1 (some .boolean) 0 := fo_lv_of fn_X6_76 fm_X4_isFull fs_X4_isFull fi_X4 fc_X4_isFull (by decide +kernel)
theorem fm_X5_append : Cond.instanceMethod yX5_append ∈ fo_W0 := fo_in 607 (by decide +kernel) (by decide +kernel)
theorem fs_X5_append : Cond.selects yX5_append.cls yX5_append yX5_append ∈ fo_W0 := fo_in 608 (by decide +kernel) (by decide +kernel)
theorem fc_X5_append : Cond.code yX5_append cX5_append 12 (some .int) ∈ fo_W0 := fo_in 609 (by decide +kernel) (by decide +kernel)
theorem fn_X6_81 : Cond.methodLink RX6 81 yX5_append ∈ fo_W0 := fo_in 606 (by decide +kernel) (by decide +kernel)
theorem lv_X6_81 : fo_lv RX6 81 yX5_append cX5_append 12 (some .int) 2 := fo_lv_of fn_X6_81 fm_X5_append fs_X5_append fi_X5 fc_X5_append (by decide +kernel)
theorem fm_X5_wipe : Cond.instanceMethod yX5_wipe ∈ fo_W0 := fo_in 638 (by decide +kernel) (by decide +kernel)
theorem fs_X5_wipe : Cond.selects yX5_wipe.cls yX5_wipe yX5_wipe ∈ fo_W0 := fo_in 639 (by decide +kernel) (by decide +kernel)
theorem fc_X5_wipe : Cond.code yX5_wipe cX5_wipe 3 none ∈ fo_W0 := fo_in 640 (by decide +kernel) (by decide +kernel)
theorem fn_X6_91 : Cond.methodLink RX6 91 yX5_wipe ∈ fo_W0 := fo_in 637 (by decide +kernel) (by decide +kernel)
theorem lv_X6_91 : fo_lv RX6 91 yX5_wipe cX5_wipe 3 none 1 := fo_lv_of fn_X6_91 fm_X5_wipe fs_X5_wipe fi_X5 fc_X5_wipe (by decide +kernel)
theorem fm_X4_hasDay : Cond.instanceMethod yX4_hasDay ∈ fo_W0 := fo_in 658 (by decide +kernel) (by decide +kernel)
theorem fs_X4_hasDay : Cond.selects yX4_hasDay.cls yX4_hasDay yX4_hasDay ∈ fo_W0 := fo_in 659 (by decide +kernel) (by decide +kernel)
theorem fc_X4_hasDay : Cond.code yX4_hasDay cX4_hasDay 2 (some .boolean) ∈ fo_W0 := fo_in 660 (by decide +kernel) (by decide +kernel)
theorem fn_X6_95 : Cond.methodLink RX6 95 yX4_hasDay ∈ fo_W0 := fo_in 657 (by decide +kernel) (by decide +kernel)
theorem lv_X6_95 : fo_lv RX6 95 yX4_hasDay cX4_hasDay 2 (some .boolean) 1 := fo_lv_of fn_X6_95 fm_X4_hasDay fs_X4_hasDay fi_X4 fc_X4_hasDay (by decide +kernel)
theorem fm_X4_spread : Cond.instanceMethod yX4_spread ∈ fo_W0 := fo_in 684 (by decide +kernel) (by decide +kernel)
theorem fs_X4_spread : Cond.selects yX4_spread.cls yX4_spread yX4_spread ∈ fo_W0 := fo_in 685 (by decide +kernel) (by decide +kernel)
theorem fc_X4_spread : Cond.code yX4_spread cX4_spread 4 (some .int) ∈ fo_W0 := fo_in 686 (by decide +kernel) (by decide +kernel)
theorem fn_X6_105 : Cond.methodLink RX6 105 yX4_spread ∈ fo_W0 := fo_in 683 (by decide +kernel) (by decide +kernel)
theorem lv_X6_105 : fo_lv RX6 105 yX4_spread cX4_spread 4 (some .int) 0 := fo_lv_of fn_X6_105 fm_X4_spread fs_X4_spread fi_X4 fc_X4_spread (by decide +kernel)
theorem fm_X6_seriesWithLast : Cond.instanceMethod yX6_seriesWithLast ∈ fo_W0 := fo_in 700 (by decide +kernel) (by decide +kernel)
theorem fs_X6_seriesWithLast : Cond.selects yX6_seriesWithLast.cls yX6_seriesWithLast yX6_seriesWithLast ∈ fo_W0 := fo_in 4 (by decide +kernel) (by decide +kernel)
theorem fc_X6_seriesWithLast : Cond.code yX6_seriesWithLast cX6_seriesWithLast 4 (some (.object "ForecastLab$Series")) ∈ fo_W0 := fo_in 701 (by decide +kernel) (by decide +kernel)
theorem fn_X6_109 : Cond.methodLink RX6 109 yX6_seriesWithLast ∈ fo_W0 := fo_in 698 (by decide +kernel) (by decide +kernel)
theorem lv_X6_109 : fo_lv RX6 109 yX6_seriesWithLast cX6_seriesWithLast 4 (some (.object "ForecastLab$Series")) 2 := fo_lv_of fn_X6_109 fm_X6_seriesWithLast fs_X6_seriesWithLast fi_X6 fc_X6_seriesWithLast (by decide +kernel)
theorem fn_X6_113 : Cond.methodLink RX6 113 yX4_meanBefore ∈ fo_W0 := fo_in 702 (by decide +kernel) (by decide +kernel)
theorem lv_X6_113 : fo_lv RX6 113 yX4_meanBefore cX4_meanBefore 5 (some .double) 2 := fo_lv_of fn_X6_113 fm_X4_meanBefore fs_X4_meanBefore fi_X4 fc_X4_meanBefore (by decide +kernel)
theorem fm_X4_meanBySums : Cond.instanceMethod yX4_meanBySums ∈ fo_W0 := fo_in 711 (by decide +kernel) (by decide +kernel)
theorem fs_X4_meanBySums : Cond.selects yX4_meanBySums.cls yX4_meanBySums yX4_meanBySums ∈ fo_W0 := fo_in 712 (by decide +kernel) (by decide +kernel)
theorem fc_X4_meanBySums : Cond.code yX4_meanBySums cX4_meanBySums 3 (some .double) ∈ fo_W0 := fo_in 713 (by decide +kernel) (by decide +kernel)
theorem fn_X6_117 : Cond.methodLink RX6 117 yX4_meanBySums ∈ fo_W0 := fo_in 710 (by decide +kernel) (by decide +kernel)
theorem lv_X6_117 : fo_lv RX6 117 yX4_meanBySums cX4_meanBySums 3 (some .double) 1 := fo_lv_of fn_X6_117 fm_X4_meanBySums fs_X4_meanBySums fi_X4 fc_X4_meanBySums (by decide +kernel)
theorem fn_X6_121 : Cond.methodLink RX6 121 yX4_medianOf ∈ fo_W0 := fo_in 721 (by decide +kernel) (by decide +kernel)
theorem lv_X6_121 : fo_lv RX6 121 yX4_medianOf cX4_medianOf 7 (some .int) 3 := fo_lv_of fn_X6_121 fm_X4_medianOf fs_X4_medianOf fi_X4 fc_X4_medianOf (by decide +kernel)
theorem fm_X4_countedMedian : Cond.instanceMethod yX4_countedMedian ∈ fo_W0 := fo_in 730 (by decide +kernel) (by decide +kernel)
theorem fs_X4_countedMedian : Cond.selects yX4_countedMedian.cls yX4_countedMedian yX4_countedMedian ∈ fo_W0 := fo_in 731 (by decide +kernel) (by decide +kernel)
theorem fc_X4_countedMedian : Cond.code yX4_countedMedian cX4_countedMedian 7 (some .int) ∈ fo_W0 := fo_in 732 (by decide +kernel) (by decide +kernel)
theorem fn_X6_125 : Cond.methodLink RX6 125 yX4_countedMedian ∈ fo_W0 := fo_in 729 (by decide +kernel) (by decide +kernel)
theorem lv_X6_125 : fo_lv RX6 125 yX4_countedMedian cX4_countedMedian 7 (some .int) 1 := fo_lv_of fn_X6_125 fm_X4_countedMedian fs_X4_countedMedian fi_X4 fc_X4_countedMedian (by decide +kernel)
theorem fn_X6_129 : Cond.methodLink RX6 129 yX4_levelBefore ∈ fo_W0 := fo_in 744 (by decide +kernel) (by decide +kernel)
theorem lv_X6_129 : fo_lv RX6 129 yX4_levelBefore cX4_levelBefore 6 (some .double) 2 := fo_lv_of fn_X6_129 fm_X4_levelBefore fs_X4_levelBefore fi_X4 fc_X4_levelBefore (by decide +kernel)
theorem fn_X6_132 : Cond.methodLink RX6 132 yX4_strays ∈ fo_W0 := fo_in 752 (by decide +kernel) (by decide +kernel)
theorem lv_X6_132 : fo_lv RX6 132 yX4_strays cX4_strays 6 (some .boolean) 2 := fo_lv_of fn_X6_132 fm_X4_strays fs_X4_strays fi_X4 fc_X4_strays (by decide +kernel)
theorem fn_X6_136 : Cond.methodLink RX6 136 yX4_countStrays ∈ fo_W0 := fo_in 767 (by decide +kernel) (by decide +kernel)
theorem lv_X6_136 : fo_lv RX6 136 yX4_countStrays cX4_countStrays 4 (some .int) 1 := fo_lv_of fn_X6_136 fm_X4_countStrays fs_X4_countStrays fi_X4 fc_X4_countStrays (by decide +kernel)
theorem fm_X4_longestClimb : Cond.instanceMethod yX4_longestClimb ∈ fo_W0 := fo_in 780 (by decide +kernel) (by decide +kernel)
theorem fs_X4_longestClimb : Cond.selects yX4_longestClimb.cls yX4_longestClimb yX4_longestClimb ∈ fo_W0 := fo_in 781 (by decide +kernel) (by decide +kernel)
theorem fc_X4_longestClimb : Cond.code yX4_longestClimb cX4_longestClimb 4 (some .int) ∈ fo_W0 := fo_in 782 (by decide +kernel) (by decide +kernel)
theorem fn_X6_139 : Cond.methodLink RX6 139 yX4_longestClimb ∈ fo_W0 := fo_in 779 (by decide +kernel) (by decide +kernel)
theorem lv_X6_139 : fo_lv RX6 139 yX4_longestClimb cX4_longestClimb 4 (some .int) 0 := fo_lv_of fn_X6_139 fm_X4_longestClimb fs_X4_longestClimb fi_X4 fc_X4_longestClimb (by decide +kernel)
theorem fn_X6_142 : Cond.methodLink RX6 142 yX4_countBetween ∈ fo_W0 := fo_in 790 (by decide +kernel) (by decide +kernel)
theorem lv_X6_142 : fo_lv RX6 142 yX4_countBetween cX4_countBetween 5 (some .int) 2 := fo_lv_of fn_X6_142 fm_X4_countBetween fs_X4_countBetween fi_X4 fc_X4_countBetween (by decide +kernel)
theorem fm_X6_prophetAt : Cond.instanceMethod yX6_prophetAt ∈ fo_W0 := fo_in 800 (by decide +kernel) (by decide +kernel)
theorem fs_X6_prophetAt : Cond.selects yX6_prophetAt.cls yX6_prophetAt yX6_prophetAt ∈ fo_W0 := fo_in 6 (by decide +kernel) (by decide +kernel)
theorem fc_X6_prophetAt : Cond.code yX6_prophetAt cX6_prophetAt 2 (some (.object "ForecastLab$Prophet")) ∈ fo_W0 := fo_in 801 (by decide +kernel) (by decide +kernel)
theorem fn_X6_148 : Cond.methodLink RX6 148 yX6_prophetAt ∈ fo_W0 := fo_in 798 (by decide +kernel) (by decide +kernel)
theorem lv_X6_148 : fo_lv RX6 148 yX6_prophetAt cX6_prophetAt 2 (some (.object "ForecastLab$Prophet")) 1 := fo_lv_of fn_X6_148 fm_X6_prophetAt fs_X6_prophetAt fi_X6 fc_X6_prophetAt (by decide +kernel)
theorem fn_X6_161 : Cond.methodLink RX6 161 yX3_foresees ∈ fo_W0 := fo_in 816 (by decide +kernel) (by decide +kernel)
theorem lv_X6_161 : fo_lv RX6 161 yX3_foresees cX3_foresees 2 (some .boolean) 1 := fo_lv_of fn_X6_161 fm_X3_foresees fs_X3_foresees fi_X3 fc_X3_foresees (by decide +kernel)
theorem fm_X6_nextForecast : Cond.instanceMethod yX6_nextForecast ∈ fo_W0 := fo_in 826 (by decide +kernel) (by decide +kernel)
theorem fs_X6_nextForecast : Cond.selects yX6_nextForecast.cls yX6_nextForecast yX6_nextForecast ∈ fo_W0 := fo_in 7 (by decide +kernel) (by decide +kernel)
theorem fc_X6_nextForecast : Cond.code yX6_nextForecast cX6_nextForecast 5 (some .double) ∈ fo_W0 := fo_in 827 (by decide +kernel) (by decide +kernel)
theorem fn_X6_164 : Cond.methodLink RX6 164 yX6_nextForecast ∈ fo_W0 := fo_in 824 (by decide +kernel) (by decide +kernel)
theorem lv_X6_164 : fo_lv RX6 164 yX6_nextForecast cX6_nextForecast 5 (some .double) 2 := fo_lv_of fn_X6_164 fm_X6_nextForecast fs_X6_nextForecast fi_X6 fc_X6_nextForecast (by decide +kernel)
theorem ft_X6_bitsOf : Cond.static yX6_bitsOf ∈ fo_W0 := fo_in 837 (by decide +kernel) (by decide +kernel)
theorem fc_X6_bitsOf : Cond.code yX6_bitsOf cX6_bitsOf 10 (some .long) ∈ fo_W0 := fo_in 838 (by decide +kernel) (by decide +kernel)
theorem fn_X6_167 : Cond.methodLink RX6 167 yX6_bitsOf ∈ fo_W0 := fo_in 836 (by decide +kernel) (by decide +kernel)
theorem ls_X6_167 : fo_ls RX6 167 yX6_bitsOf cX6_bitsOf 10 (some .long) 1 := fo_ls_of fn_X6_167 ft_X6_bitsOf fi_X6 fc_X6_bitsOf (by decide +kernel)
theorem ft_X6_requireSeries : Cond.static yX6_requireSeries ∈ fo_W0 := fo_in 582 (by decide +kernel) (by decide +kernel)
theorem fc_X6_requireSeries : Cond.code yX6_requireSeries cX6_requireSeries 1 none ∈ fo_W0 := fo_in 583 (by decide +kernel) (by decide +kernel)
theorem fn_X6_171 : Cond.methodLink RX6 171 yX6_requireSeries ∈ fo_W0 := fo_in 581 (by decide +kernel) (by decide +kernel)
theorem ls_X6_171 : fo_ls RX6 171 yX6_requireSeries cX6_requireSeries 1 none 1 := fo_ls_of fn_X6_171 ft_X6_requireSeries fi_X6 fc_X6_requireSeries (by decide +kernel)
theorem fn_X6_181 : Cond.methodLink RX6 181 yX3_backtest ∈ fo_W0 := fo_in 865 (by decide +kernel) (by decide +kernel)
theorem lv_X6_181 : fo_lv RX6 181 yX3_backtest cX3_backtest 5 (some .double) 1 := fo_lv_of fn_X6_181 fm_X3_backtest fs_X3_backtest fi_X3 fc_X3_backtest (by decide +kernel)
theorem fn_X6_188 : Cond.methodLink RX6 188 yX3_countAllErrors ∈ fo_W0 := fo_in 894 (by decide +kernel) (by decide +kernel)
theorem lv_X6_188 : fo_lv RX6 188 yX3_countAllErrors cX3_countAllErrors 3 (some .int) 0 := fo_lv_of fn_X6_188 fm_X3_countAllErrors fs_X3_countAllErrors fi_X3 fc_X3_countAllErrors (by decide +kernel)
theorem fn_X6_194 : Cond.methodLink RX6 194 yX3_sumAllErrors ∈ fo_W0 := fo_in 903 (by decide +kernel) (by decide +kernel)
theorem lv_X6_194 : fo_lv RX6 194 yX3_sumAllErrors cX3_sumAllErrors 4 (some .double) 0 := fo_lv_of fn_X6_194 fm_X3_sumAllErrors fs_X3_sumAllErrors fi_X3 fc_X3_sumAllErrors (by decide +kernel)
theorem fm_X5_prophetAtRank : Cond.instanceMethod yX5_prophetAtRank ∈ fo_W0 := fo_in 915 (by decide +kernel) (by decide +kernel)
theorem fs_X5_prophetAtRank : Cond.selects yX5_prophetAtRank.cls yX5_prophetAtRank yX5_prophetAtRank ∈ fo_W0 := fo_in 916 (by decide +kernel) (by decide +kernel)
theorem fc_X5_prophetAtRank : Cond.code yX5_prophetAtRank cX5_prophetAtRank 3 (some .int) ∈ fo_W0 := fo_in 917 (by decide +kernel) (by decide +kernel)
theorem fn_X6_198 : Cond.methodLink RX6 198 yX5_prophetAtRank ∈ fo_W0 := fo_in 914 (by decide +kernel) (by decide +kernel)
theorem lv_X6_198 : fo_lv RX6 198 yX5_prophetAtRank cX5_prophetAtRank 3 (some .int) 1 := fo_lv_of fn_X6_198 fm_X5_prophetAtRank fs_X5_prophetAtRank fi_X5 fc_X5_prophetAtRank (by decide +kernel)
theorem fm_X5_prophetWithLeastMeanError : Cond.instanceMethod yX5_prophetWithLeastMeanError ∈ fo_W0 := fo_in 931 (by decide +kernel) (by decide +kernel)
theorem fs_X5_prophetWithLeastMeanError : Cond.selects yX5_prophetWithLeastMeanError.cls yX5_prophetWithLeastMeanError yX5_prophetWithLeastMeanError ∈ fo_W0 := fo_in 932 (by decide +kernel) (by decide +kernel)
theorem fc_X5_prophetWithLeastMeanError : Cond.code yX5_prophetWithLeastMeanError cX5_prophetWithLeastMeanError 8 (some .int) ∈ fo_W0 := fo_in 933 (by decide +kernel) (by decide +kernel)
theorem fn_X6_201 : Cond.methodLink RX6 201 yX5_prophetWithLeastMeanError ∈ fo_W0 := fo_in 930 (by decide +kernel) (by decide +kernel)
theorem lv_X6_201 : fo_lv RX6 201 yX5_prophetWithLeastMeanError cX5_prophetWithLeastMeanError 8 (some .int) 0 := fo_lv_of fn_X6_201 fm_X5_prophetWithLeastMeanError fs_X5_prophetWithLeastMeanError fi_X5 fc_X5_prophetWithLeastMeanError (by decide +kernel)
theorem fn_X6_204 : Cond.methodLink RX6 204 yX5_countAllValues ∈ fo_W0 := fo_in 943 (by decide +kernel) (by decide +kernel)
theorem lv_X6_204 : fo_lv RX6 204 yX5_countAllValues cX5_countAllValues 3 (some .int) 0 := fo_lv_of fn_X6_204 fm_X5_countAllValues fs_X5_countAllValues fi_X5 fc_X5_countAllValues (by decide +kernel)
theorem fm_X5_countAllStrays : Cond.instanceMethod yX5_countAllStrays ∈ fo_W0 := fo_in 945 (by decide +kernel) (by decide +kernel)
theorem fs_X5_countAllStrays : Cond.selects yX5_countAllStrays.cls yX5_countAllStrays yX5_countAllStrays ∈ fo_W0 := fo_in 946 (by decide +kernel) (by decide +kernel)
theorem fc_X5_countAllStrays : Cond.code yX5_countAllStrays cX5_countAllStrays 3 (some .int) ∈ fo_W0 := fo_in 947 (by decide +kernel) (by decide +kernel)
theorem fn_X6_207 : Cond.methodLink RX6 207 yX5_countAllStrays ∈ fo_W0 := fo_in 944 (by decide +kernel) (by decide +kernel)
theorem lv_X6_207 : fo_lv RX6 207 yX5_countAllStrays cX5_countAllStrays 3 (some .int) 0 := fo_lv_of fn_X6_207 fm_X5_countAllStrays fs_X5_countAllStrays fi_X5 fc_X5_countAllStrays (by decide +kernel)
theorem fm_X5_isSound : Cond.instanceMethod yX5_isSound ∈ fo_W0 := fo_in 308 (by decide +kernel) (by decide +kernel)
theorem fs_X5_isSound : Cond.selects yX5_isSound.cls yX5_isSound yX5_isSound ∈ fo_W0 := fo_in 309 (by decide +kernel) (by decide +kernel)
theorem fc_X5_isSound : Cond.code yX5_isSound cX5_isSound 2 (some .boolean) ∈ fo_W0 := fo_in 310 (by decide +kernel) (by decide +kernel)
theorem fn_X6_210 : Cond.methodLink RX6 210 yX5_isSound ∈ fo_W0 := fo_in 307 (by decide +kernel) (by decide +kernel)
theorem lv_X6_210 : fo_lv RX6 210 yX5_isSound cX5_isSound 2 (some .boolean) 0 := fo_lv_of fn_X6_210 fm_X5_isSound fs_X5_isSound fi_X5 fc_X5_isSound (by decide +kernel)
theorem fm_X0_clear : Cond.instanceMethod yX0_clear ∈ fo_W0 := fo_in 367 (by decide +kernel) (by decide +kernel)
theorem fs_X0_clear : Cond.selects yX0_clear.cls yX0_clear yX0_clear ∈ fo_W0 := fo_in 368 (by decide +kernel) (by decide +kernel)
theorem fc_X0_clear : Cond.code yX0_clear cX0_clear 1 none ∈ fo_W0 := fo_in 369 (by decide +kernel) (by decide +kernel)
theorem fn_X6_213 : Cond.methodLink RX6 213 yX0_clear ∈ fo_W0 := fo_in 366 (by decide +kernel) (by decide +kernel)
theorem lv_X6_213 : fo_lv RX6 213 yX0_clear cX0_clear 1 none 0 := fo_lv_of fn_X6_213 fm_X0_clear fs_X0_clear fi_X0 fc_X0_clear (by decide +kernel)
theorem fm_X0_putNumber : Cond.instanceMethod yX0_putNumber ∈ fo_W0 := fo_in 379 (by decide +kernel) (by decide +kernel)
theorem fs_X0_putNumber : Cond.selects yX0_putNumber.cls yX0_putNumber yX0_putNumber ∈ fo_W0 := fo_in 380 (by decide +kernel) (by decide +kernel)
theorem fc_X0_putNumber : Cond.code yX0_putNumber cX0_putNumber 2 none ∈ fo_W0 := fo_in 381 (by decide +kernel) (by decide +kernel)
theorem fn_X6_216 : Cond.methodLink RX6 216 yX0_putNumber ∈ fo_W0 := fo_in 378 (by decide +kernel) (by decide +kernel)
theorem lv_X6_216 : fo_lv RX6 216 yX0_putNumber cX0_putNumber 2 none 1 := fo_lv_of fn_X6_216 fm_X0_putNumber fs_X0_putNumber fi_X0 fc_X0_putNumber (by decide +kernel)
theorem fn_X6_219 : Cond.methodLink RX6 219 yX0_put ∈ fo_W0 := fo_in 370 (by decide +kernel) (by decide +kernel)
theorem lv_X6_219 : fo_lv RX6 219 yX0_put cX0_put 2 none 1 := fo_lv_of fn_X6_219 fm_X0_put fs_X0_put fi_X0 fc_X0_put (by decide +kernel)
theorem fm_X3_usesParameter : Cond.instanceMethod yX3_usesParameter ∈ fo_W0 := fo_in 375 (by decide +kernel) (by decide +kernel)
theorem fs_X3_usesParameter : Cond.selects yX3_usesParameter.cls yX3_usesParameter yX3_usesParameter ∈ fo_W0 := fo_in 376 (by decide +kernel) (by decide +kernel)
theorem fc_X3_usesParameter : Cond.code yX3_usesParameter cX3_usesParameter 1 (some .boolean) ∈ fo_W0 := fo_in 377 (by decide +kernel) (by decide +kernel)
theorem fn_X6_230 : Cond.methodLink RX6 230 yX3_usesParameter ∈ fo_W0 := fo_in 374 (by decide +kernel) (by decide +kernel)
theorem lv_X6_230 : fo_lv RX6 230 yX3_usesParameter cX3_usesParameter 1 (some .boolean) 0 := fo_lv_of fn_X6_230 fm_X3_usesParameter fs_X3_usesParameter fi_X3 fc_X3_usesParameter (by decide +kernel)
theorem fn_X6_233 : Cond.methodLink RX6 233 yX3_sumAllPoints ∈ fo_W0 := fo_in 386 (by decide +kernel) (by decide +kernel)
theorem lv_X6_233 : fo_lv RX6 233 yX3_sumAllPoints cX3_sumAllPoints 3 (some .int) 0 := fo_lv_of fn_X6_233 fm_X3_sumAllPoints fs_X3_sumAllPoints fi_X3 fc_X3_sumAllPoints (by decide +kernel)
theorem fm_X2_append : Cond.instanceMethod yX2_append ∈ fo_W0 := fo_in 971 (by decide +kernel) (by decide +kernel)
theorem fs_X2_append : Cond.selects yX2_append.cls yX2_append yX2_append ∈ fo_W0 := fo_in 972 (by decide +kernel) (by decide +kernel)
theorem fc_X2_append : Cond.code yX2_append cX2_append 2 (some .int) ∈ fo_W0 := fo_in 973 (by decide +kernel) (by decide +kernel)
theorem fn_X6_244 : Cond.methodLink RX6 244 yX2_append ∈ fo_W0 := fo_in 970 (by decide +kernel) (by decide +kernel)
theorem lv_X6_244 : fo_lv RX6 244 yX2_append cX2_append 2 (some .int) 1 := fo_lv_of fn_X6_244 fm_X2_append fs_X2_append fi_X2 fc_X2_append (by decide +kernel)
theorem fm_X2_parse : Cond.instanceMethod yX2_parse ∈ fo_W0 := fo_in 983 (by decide +kernel) (by decide +kernel)
theorem fs_X2_parse : Cond.selects yX2_parse.cls yX2_parse yX2_parse ∈ fo_W0 := fo_in 984 (by decide +kernel) (by decide +kernel)
theorem fc_X2_parse : Cond.code yX2_parse cX2_parse 2 (some .boolean) ∈ fo_W0 := fo_in 985 (by decide +kernel) (by decide +kernel)
theorem fn_X6_247 : Cond.methodLink RX6 247 yX2_parse ∈ fo_W0 := fo_in 982 (by decide +kernel) (by decide +kernel)
theorem lv_X6_247 : fo_lv RX6 247 yX2_parse cX2_parse 2 (some .boolean) 0 := fo_lv_of fn_X6_247 fm_X2_parse fs_X2_parse fi_X2 fc_X2_parse (by decide +kernel)
theorem fm_X1_write : Cond.instanceMethod yX1_write ∈ fo_W0 := fo_in 517 (by decide +kernel) (by decide +kernel)
theorem fs_X1_write : Cond.selects yX1_write.cls yX1_write yX1_write ∈ fo_W0 := fo_in 518 (by decide +kernel) (by decide +kernel)
theorem fc_X1_write : Cond.code yX1_write cX1_write 2 none ∈ fo_W0 := fo_in 519 (by decide +kernel) (by decide +kernel)
theorem fn_X6_253 : Cond.methodLink RX6 253 yX1_write ∈ fo_W0 := fo_in 516 (by decide +kernel) (by decide +kernel)
theorem lv_X6_253 : fo_lv RX6 253 yX1_write cX1_write 2 none 1 := fo_lv_of fn_X6_253 fm_X1_write fs_X1_write fi_X1 fc_X1_write (by decide +kernel)
theorem fm_X6_firstFailedCommand : Cond.instanceMethod yX6_firstFailedCommand ∈ fo_W0 := fo_in 1084 (by decide +kernel) (by decide +kernel)
theorem fs_X6_firstFailedCommand : Cond.selects yX6_firstFailedCommand.cls yX6_firstFailedCommand yX6_firstFailedCommand ∈ fo_W0 := fo_in 20 (by decide +kernel) (by decide +kernel)
theorem fc_X6_firstFailedCommand : Cond.code yX6_firstFailedCommand cX6_firstFailedCommand 2 (some .int) ∈ fo_W0 := fo_in 1085 (by decide +kernel) (by decide +kernel)
theorem fn_X6_257 : Cond.methodLink RX6 257 yX6_firstFailedCommand ∈ fo_W0 := fo_in 1082 (by decide +kernel) (by decide +kernel)
theorem lv_X6_257 : fo_lv RX6 257 yX6_firstFailedCommand cX6_firstFailedCommand 2 (some .int) 0 := fo_lv_of fn_X6_257 fm_X6_firstFailedCommand fs_X6_firstFailedCommand fi_X6 fc_X6_firstFailedCommand (by decide +kernel)
theorem fm_X1_read : Cond.instanceMethod yX1_read ∈ fo_W0 := fo_in 1091 (by decide +kernel) (by decide +kernel)
theorem fs_X1_read : Cond.selects yX1_read.cls yX1_read yX1_read ∈ fo_W0 := fo_in 1092 (by decide +kernel) (by decide +kernel)
theorem fc_X1_read : Cond.code yX1_read cX1_read 2 none ∈ fo_W0 := fo_in 1093 (by decide +kernel) (by decide +kernel)
theorem fn_X6_260 : Cond.methodLink RX6 260 yX1_read ∈ fo_W0 := fo_in 1090 (by decide +kernel) (by decide +kernel)
theorem lv_X6_260 : fo_lv RX6 260 yX1_read cX1_read 2 none 1 := fo_lv_of fn_X6_260 fm_X1_read fs_X1_read fi_X1 fc_X1_read (by decide +kernel)
theorem fm_X1_advance : Cond.instanceMethod yX1_advance ∈ fo_W0 := fo_in 522 (by decide +kernel) (by decide +kernel)
theorem fs_X1_advance : Cond.selects yX1_advance.cls yX1_advance yX1_advance ∈ fo_W0 := fo_in 523 (by decide +kernel) (by decide +kernel)
theorem fc_X1_advance : Cond.code yX1_advance cX1_advance 1 none ∈ fo_W0 := fo_in 524 (by decide +kernel) (by decide +kernel)
theorem fn_X6_266 : Cond.methodLink RX6 266 yX1_advance ∈ fo_W0 := fo_in 521 (by decide +kernel) (by decide +kernel)
theorem lv_X6_266 : fo_lv RX6 266 yX1_advance cX1_advance 1 none 0 := fo_lv_of fn_X6_266 fm_X1_advance fs_X1_advance fi_X1 fc_X1_advance (by decide +kernel)
theorem fm_X1_stepBack : Cond.instanceMethod yX1_stepBack ∈ fo_W0 := fo_in 1131 (by decide +kernel) (by decide +kernel)
theorem fs_X1_stepBack : Cond.selects yX1_stepBack.cls yX1_stepBack yX1_stepBack ∈ fo_W0 := fo_in 1132 (by decide +kernel) (by decide +kernel)
theorem fc_X1_stepBack : Cond.code yX1_stepBack cX1_stepBack 1 none ∈ fo_W0 := fo_in 1133 (by decide +kernel) (by decide +kernel)
theorem fn_X6_273 : Cond.methodLink RX6 273 yX1_stepBack ∈ fo_W0 := fo_in 1130 (by decide +kernel) (by decide +kernel)
theorem lv_X6_273 : fo_lv RX6 273 yX1_stepBack cX1_stepBack 1 none 0 := fo_lv_of fn_X6_273 fm_X1_stepBack fs_X1_stepBack fi_X1 fc_X1_stepBack (by decide +kernel)
theorem fn_X6_276 : Cond.methodLink RX6 276 yX5_copyFrom ∈ fo_W0 := fo_in 394 (by decide +kernel) (by decide +kernel)
theorem lv_X6_276 : fo_lv RX6 276 yX5_copyFrom cX5_copyFrom 3 none 1 := fo_lv_of fn_X6_276 fm_X5_copyFrom fs_X5_copyFrom fi_X5 fc_X5_copyFrom (by decide +kernel)
theorem ft_X6_isSeries : Cond.static yX6_isSeries ∈ fo_W0 := fo_in 585 (by decide +kernel) (by decide +kernel)
theorem fc_X6_isSeries : Cond.code yX6_isSeries cX6_isSeries 1 (some .boolean) ∈ fo_W0 := fo_in 586 (by decide +kernel) (by decide +kernel)
theorem fn_X6_283 : Cond.methodLink RX6 283 yX6_isSeries ∈ fo_W0 := fo_in 584 (by decide +kernel) (by decide +kernel)
theorem ls_X6_283 : fo_ls RX6 283 yX6_isSeries cX6_isSeries 1 (some .boolean) 1 := fo_ls_of fn_X6_283 ft_X6_isSeries fi_X6 fc_X6_isSeries (by decide +kernel)
theorem fn_X6_290 : Cond.methodLink RX6 290 yX3_foretell ∈ fo_W0 := fo_in 828 (by decide +kernel) (by decide +kernel)
theorem lv_X6_290 : fo_lv RX6 290 yX3_foretell cX3_foretell 3 (some .double) 2 := fo_lv_of fn_X6_290 fm_X3_foretell fs_X3_foretell fi_X3 fc_X3_foretell (by decide +kernel)
theorem fm_X6_takeStep : Cond.instanceMethod yX6_takeStep ∈ fo_W0 := fo_in 1088 (by decide +kernel) (by decide +kernel)
theorem fs_X6_takeStep : Cond.selects yX6_takeStep.cls yX6_takeStep yX6_takeStep ∈ fo_W0 := fo_in 21 (by decide +kernel) (by decide +kernel)
theorem fc_X6_takeStep : Cond.code yX6_takeStep cX6_takeStep 4 (some .boolean) ∈ fo_W0 := fo_in 1089 (by decide +kernel) (by decide +kernel)
theorem fn_X6_306 : Cond.methodLink RX6 306 yX6_takeStep ∈ fo_W0 := fo_in 1086 (by decide +kernel) (by decide +kernel)
theorem lv_X6_306 : fo_lv RX6 306 yX6_takeStep cX6_takeStep 4 (some .boolean) 3 := fo_lv_of fn_X6_306 fm_X6_takeStep fs_X6_takeStep fi_X6 fc_X6_takeStep (by decide +kernel)
theorem ft_X7_copy : Cond.static yX7_copy ∈ fo_W0 := fo_in 1233 (by decide +kernel) (by decide +kernel)
theorem fc_X7_copy : Cond.code yX7_copy cX7_copy 5 none ∈ fo_W0 := fo_in 1234 (by decide +kernel) (by decide +kernel)
theorem fn_X7_84 : Cond.methodLink RX7 84 yX7_copy ∈ fo_W0 := fo_in 1232 (by decide +kernel) (by decide +kernel)
theorem ls_X7_84 : fo_ls RX7 84 yX7_copy cX7_copy 5 none 4 := fo_ls_of fn_X7_84 ft_X7_copy fi_X7 fc_X7_copy (by decide +kernel)
theorem ft_X7_in : Cond.static yX7_in ∈ fo_W0 := fo_in 1243 (by decide +kernel) (by decide +kernel)
theorem fc_X7_in : Cond.code yX7_in cX7_in 3 (some .boolean) ∈ fo_W0 := fo_in 1244 (by decide +kernel) (by decide +kernel)
theorem fn_X7_88 : Cond.methodLink RX7 88 yX7_in ∈ fo_W0 := fo_in 1242 (by decide +kernel) (by decide +kernel)
theorem ls_X7_88 : fo_ls RX7 88 yX7_in cX7_in 3 (some .boolean) 3 := fo_ls_of fn_X7_88 ft_X7_in fi_X7 fc_X7_in (by decide +kernel)
theorem fm_X7_daysOf : Cond.instanceMethod yX7_daysOf ∈ fo_W0 := fo_in 1251 (by decide +kernel) (by decide +kernel)
theorem fs_X7_daysOf : Cond.selects yX7_daysOf.cls yX7_daysOf yX7_daysOf ∈ fo_W0 := fo_in 25 (by decide +kernel) (by decide +kernel)
theorem fc_X7_daysOf : Cond.code yX7_daysOf cX7_daysOf 2 (some .int) ∈ fo_W0 := fo_in 1252 (by decide +kernel) (by decide +kernel)
theorem fn_X7_92 : Cond.methodLink RX7 92 yX7_daysOf ∈ fo_W0 := fo_in 1249 (by decide +kernel) (by decide +kernel)
theorem lv_X7_92 : fo_lv RX7 92 yX7_daysOf cX7_daysOf 2 (some .int) 1 := fo_lv_of fn_X7_92 fm_X7_daysOf fs_X7_daysOf fi_X7 fc_X7_daysOf (by decide +kernel)
theorem ft_X7_isKind : Cond.static yX7_isKind ∈ fo_W0 := fo_in 1240 (by decide +kernel) (by decide +kernel)
theorem fc_X7_isKind : Cond.code yX7_isKind cX7_isKind 1 (some .boolean) ∈ fo_W0 := fo_in 1241 (by decide +kernel) (by decide +kernel)
theorem fn_X7_96 : Cond.methodLink RX7 96 yX7_isKind ∈ fo_W0 := fo_in 1239 (by decide +kernel) (by decide +kernel)
theorem ls_X7_96 : fo_ls RX7 96 yX7_isKind cX7_isKind 1 (some .boolean) 1 := fo_ls_of fn_X7_96 ft_X7_isKind fi_X7 fc_X7_isKind (by decide +kernel)
theorem fm_X7_allDays : Cond.instanceMethod yX7_allDays ∈ fo_W0 := fo_in 1247 (by decide +kernel) (by decide +kernel)
theorem fs_X7_allDays : Cond.selects yX7_allDays.cls yX7_allDays yX7_allDays ∈ fo_W0 := fo_in 24 (by decide +kernel) (by decide +kernel)
theorem fc_X7_allDays : Cond.code yX7_allDays cX7_allDays 1 (some .int) ∈ fo_W0 := fo_in 1248 (by decide +kernel) (by decide +kernel)
theorem fn_X7_100 : Cond.methodLink RX7 100 yX7_allDays ∈ fo_W0 := fo_in 1245 (by decide +kernel) (by decide +kernel)
theorem lv_X7_100 : fo_lv RX7 100 yX7_allDays cX7_allDays 1 (some .int) 0 := fo_lv_of fn_X7_100 fm_X7_allDays fs_X7_allDays fi_X7 fc_X7_allDays (by decide +kernel)
theorem fm_X7_begin : Cond.instanceMethod yX7_begin ∈ fo_W0 := fo_in 1230 (by decide +kernel) (by decide +kernel)
theorem fs_X7_begin : Cond.selects yX7_begin.cls yX7_begin yX7_begin ∈ fo_W0 := fo_in 22 (by decide +kernel) (by decide +kernel)
theorem fc_X7_begin : Cond.code yX7_begin cX7_begin 1 none ∈ fo_W0 := fo_in 1231 (by decide +kernel) (by decide +kernel)
theorem fn_X7_104 : Cond.methodLink RX7 104 yX7_begin ∈ fo_W0 := fo_in 1228 (by decide +kernel) (by decide +kernel)
theorem lv_X7_104 : fo_lv RX7 104 yX7_begin cX7_begin 1 none 0 := fo_lv_of fn_X7_104 fm_X7_begin fs_X7_begin fi_X7 fc_X7_begin (by decide +kernel)
theorem fm_X7_cannotAdd : Cond.instanceMethod yX7_cannotAdd ∈ fo_W0 := fo_in 1237 (by decide +kernel) (by decide +kernel)
theorem fs_X7_cannotAdd : Cond.selects yX7_cannotAdd.cls yX7_cannotAdd yX7_cannotAdd ∈ fo_W0 := fo_in 23 (by decide +kernel) (by decide +kernel)
theorem fc_X7_cannotAdd : Cond.code yX7_cannotAdd cX7_cannotAdd 3 (some .int) ∈ fo_W0 := fo_in 1238 (by decide +kernel) (by decide +kernel)
theorem fn_X7_107 : Cond.methodLink RX7 107 yX7_cannotAdd ∈ fo_W0 := fo_in 1235 (by decide +kernel) (by decide +kernel)
theorem lv_X7_107 : fo_lv RX7 107 yX7_cannotAdd cX7_cannotAdd 3 (some .int) 2 := fo_lv_of fn_X7_107 fm_X7_cannotAdd fs_X7_cannotAdd fi_X7 fc_X7_cannotAdd (by decide +kernel)
theorem fm_X7_fail : Cond.instanceMethod yX7_fail ∈ fo_W0 := fo_in 1255 (by decide +kernel) (by decide +kernel)
theorem fs_X7_fail : Cond.selects yX7_fail.cls yX7_fail yX7_fail ∈ fo_W0 := fo_in 26 (by decide +kernel) (by decide +kernel)
theorem fc_X7_fail : Cond.code yX7_fail cX7_fail 2 (some .int) ∈ fo_W0 := fo_in 1256 (by decide +kernel) (by decide +kernel)
theorem fn_X7_111 : Cond.methodLink RX7 111 yX7_fail ∈ fo_W0 := fo_in 1253 (by decide +kernel) (by decide +kernel)
theorem lv_X7_111 : fo_lv RX7 111 yX7_fail cX7_fail 2 (some .int) 1 := fo_lv_of fn_X7_111 fm_X7_fail fs_X7_fail fi_X7 fc_X7_fail (by decide +kernel)
theorem fm_X7_adds : Cond.instanceMethod yX7_adds ∈ fo_W0 := fo_in 1259 (by decide +kernel) (by decide +kernel)
theorem fs_X7_adds : Cond.selects yX7_adds.cls yX7_adds yX7_adds ∈ fo_W0 := fo_in 27 (by decide +kernel) (by decide +kernel)
theorem fc_X7_adds : Cond.code yX7_adds cX7_adds 3 (some .int) ∈ fo_W0 := fo_in 1260 (by decide +kernel) (by decide +kernel)
theorem fn_X7_114 : Cond.methodLink RX7 114 yX7_adds ∈ fo_W0 := fo_in 1257 (by decide +kernel) (by decide +kernel)
theorem lv_X7_114 : fo_lv RX7 114 yX7_adds cX7_adds 3 (some .int) 2 := fo_lv_of fn_X7_114 fm_X7_adds fs_X7_adds fi_X7 fc_X7_adds (by decide +kernel)
theorem fm_X7_commit : Cond.instanceMethod yX7_commit ∈ fo_W0 := fo_in 1263 (by decide +kernel) (by decide +kernel)
theorem fs_X7_commit : Cond.selects yX7_commit.cls yX7_commit yX7_commit ∈ fo_W0 := fo_in 28 (by decide +kernel) (by decide +kernel)
theorem fc_X7_commit : Cond.code yX7_commit cX7_commit 3 (some .int) ∈ fo_W0 := fo_in 1264 (by decide +kernel) (by decide +kernel)
theorem fn_X7_117 : Cond.methodLink RX7 117 yX7_commit ∈ fo_W0 := fo_in 1261 (by decide +kernel) (by decide +kernel)
theorem lv_X7_117 : fo_lv RX7 117 yX7_commit cX7_commit 3 (some .int) 1 := fo_lv_of fn_X7_117 fm_X7_commit fs_X7_commit fi_X7 fc_X7_commit (by decide +kernel)
theorem ft_X7_isSeries : Cond.static yX7_isSeries ∈ fo_W0 := fo_in 1274 (by decide +kernel) (by decide +kernel)
theorem fc_X7_isSeries : Cond.code yX7_isSeries cX7_isSeries 1 (some .boolean) ∈ fo_W0 := fo_in 1275 (by decide +kernel) (by decide +kernel)
theorem fn_X7_120 : Cond.methodLink RX7 120 yX7_isSeries ∈ fo_W0 := fo_in 1273 (by decide +kernel) (by decide +kernel)
theorem ls_X7_120 : fo_ls RX7 120 yX7_isSeries cX7_isSeries 1 (some .boolean) 1 := fo_ls_of fn_X7_120 ft_X7_isSeries fi_X7 fc_X7_isSeries (by decide +kernel)
theorem fm_X7_cannotSee : Cond.instanceMethod yX7_cannotSee ∈ fo_W0 := fo_in 1271 (by decide +kernel) (by decide +kernel)
theorem fs_X7_cannotSee : Cond.selects yX7_cannotSee.cls yX7_cannotSee yX7_cannotSee ∈ fo_W0 := fo_in 29 (by decide +kernel) (by decide +kernel)
theorem fc_X7_cannotSee : Cond.code yX7_cannotSee cX7_cannotSee 3 (some .int) ∈ fo_W0 := fo_in 1272 (by decide +kernel) (by decide +kernel)
theorem fn_X7_123 : Cond.methodLink RX7 123 yX7_cannotSee ∈ fo_W0 := fo_in 1269 (by decide +kernel) (by decide +kernel)
theorem lv_X7_123 : fo_lv RX7 123 yX7_cannotSee cX7_cannotSee 3 (some .int) 2 := fo_lv_of fn_X7_123 fm_X7_cannotSee fs_X7_cannotSee fi_X7 fc_X7_cannotSee (by decide +kernel)
theorem fm_X7_sees : Cond.instanceMethod yX7_sees ∈ fo_W0 := fo_in 1278 (by decide +kernel) (by decide +kernel)
theorem fs_X7_sees : Cond.selects yX7_sees.cls yX7_sees yX7_sees ∈ fo_W0 := fo_in 30 (by decide +kernel) (by decide +kernel)
theorem fc_X7_sees : Cond.code yX7_sees cX7_sees 4 (some .int) ∈ fo_W0 := fo_in 1279 (by decide +kernel) (by decide +kernel)
theorem fn_X7_126 : Cond.methodLink RX7 126 yX7_sees ∈ fo_W0 := fo_in 1276 (by decide +kernel) (by decide +kernel)
theorem lv_X7_126 : fo_lv RX7 126 yX7_sees cX7_sees 4 (some .int) 2 := fo_lv_of fn_X7_126 fm_X7_sees fs_X7_sees fi_X7 fc_X7_sees (by decide +kernel)
theorem fm_X7_limits : Cond.instanceMethod yX7_limits ∈ fo_W0 := fo_in 1286 (by decide +kernel) (by decide +kernel)
theorem fs_X7_limits : Cond.selects yX7_limits.cls yX7_limits yX7_limits ∈ fo_W0 := fo_in 31 (by decide +kernel) (by decide +kernel)
theorem fc_X7_limits : Cond.code yX7_limits cX7_limits 3 (some .int) ∈ fo_W0 := fo_in 1287 (by decide +kernel) (by decide +kernel)
theorem fn_X7_129 : Cond.methodLink RX7 129 yX7_limits ∈ fo_W0 := fo_in 1284 (by decide +kernel) (by decide +kernel)
theorem lv_X7_129 : fo_lv RX7 129 yX7_limits cX7_limits 3 (some .int) 1 := fo_lv_of fn_X7_129 fm_X7_limits fs_X7_limits fi_X7 fc_X7_limits (by decide +kernel)
theorem fm_X7_forgets : Cond.instanceMethod yX7_forgets ∈ fo_W0 := fo_in 1294 (by decide +kernel) (by decide +kernel)
theorem fs_X7_forgets : Cond.selects yX7_forgets.cls yX7_forgets yX7_forgets ∈ fo_W0 := fo_in 32 (by decide +kernel) (by decide +kernel)
theorem fc_X7_forgets : Cond.code yX7_forgets cX7_forgets 4 (some .int) ∈ fo_W0 := fo_in 1295 (by decide +kernel) (by decide +kernel)
theorem fn_X7_132 : Cond.methodLink RX7 132 yX7_forgets ∈ fo_W0 := fo_in 1292 (by decide +kernel) (by decide +kernel)
theorem lv_X7_132 : fo_lv RX7 132 yX7_forgets cX7_forgets 4 (some .int) 1 := fo_lv_of fn_X7_132 fm_X7_forgets fs_X7_forgets fi_X7 fc_X7_forgets (by decide +kernel)
theorem fm_X7_checked : Cond.instanceMethod yX7_checked ∈ fo_W0 := fo_in 1302 (by decide +kernel) (by decide +kernel)
theorem fs_X7_checked : Cond.selects yX7_checked.cls yX7_checked yX7_checked ∈ fo_W0 := fo_in 33 (by decide +kernel) (by decide +kernel)
theorem fc_X7_checked : Cond.code yX7_checked cX7_checked 2 (some .int) ∈ fo_W0 := fo_in 1303 (by decide +kernel) (by decide +kernel)
theorem fn_X7_135 : Cond.methodLink RX7 135 yX7_checked ∈ fo_W0 := fo_in 1300 (by decide +kernel) (by decide +kernel)
theorem lv_X7_135 : fo_lv RX7 135 yX7_checked cX7_checked 2 (some .int) 1 := fo_lv_of fn_X7_135 fm_X7_checked fs_X7_checked fi_X7 fc_X7_checked (by decide +kernel)
theorem fm_X7_noValue : Cond.instanceMethod yX7_noValue ∈ fo_W0 := fo_in 1310 (by decide +kernel) (by decide +kernel)
theorem fs_X7_noValue : Cond.selects yX7_noValue.cls yX7_noValue yX7_noValue ∈ fo_W0 := fo_in 34 (by decide +kernel) (by decide +kernel)
theorem fc_X7_noValue : Cond.code yX7_noValue cX7_noValue 3 (some .int) ∈ fo_W0 := fo_in 1311 (by decide +kernel) (by decide +kernel)
theorem fn_X7_139 : Cond.methodLink RX7 139 yX7_noValue ∈ fo_W0 := fo_in 1308 (by decide +kernel) (by decide +kernel)
theorem lv_X7_139 : fo_lv RX7 139 yX7_noValue cX7_noValue 3 (some .int) 2 := fo_lv_of fn_X7_139 fm_X7_noValue fs_X7_noValue fi_X7 fc_X7_noValue (by decide +kernel)
theorem fm_X7_v : Cond.instanceMethod yX7_v ∈ fo_W0 := fo_in 1314 (by decide +kernel) (by decide +kernel)
theorem fs_X7_v : Cond.selects yX7_v.cls yX7_v yX7_v ∈ fo_W0 := fo_in 35 (by decide +kernel) (by decide +kernel)
theorem fc_X7_v : Cond.code yX7_v cX7_v 3 (some .int) ∈ fo_W0 := fo_in 1315 (by decide +kernel) (by decide +kernel)
theorem fn_X7_142 : Cond.methodLink RX7 142 yX7_v ∈ fo_W0 := fo_in 1312 (by decide +kernel) (by decide +kernel)
theorem lv_X7_142 : fo_lv RX7 142 yX7_v cX7_v 3 (some .int) 2 := fo_lv_of fn_X7_142 fm_X7_v fs_X7_v fi_X7 fc_X7_v (by decide +kernel)
theorem fm_X7_noLast : Cond.instanceMethod yX7_noLast ∈ fo_W0 := fo_in 1330 (by decide +kernel) (by decide +kernel)
theorem fs_X7_noLast : Cond.selects yX7_noLast.cls yX7_noLast yX7_noLast ∈ fo_W0 := fo_in 37 (by decide +kernel) (by decide +kernel)
theorem fc_X7_noLast : Cond.code yX7_noLast cX7_noLast 3 (some .int) ∈ fo_W0 := fo_in 1331 (by decide +kernel) (by decide +kernel)
theorem fn_X7_145 : Cond.methodLink RX7 145 yX7_noLast ∈ fo_W0 := fo_in 1328 (by decide +kernel) (by decide +kernel)
theorem lv_X7_145 : fo_lv RX7 145 yX7_noLast cX7_noLast 3 (some .int) 2 := fo_lv_of fn_X7_145 fm_X7_noLast fs_X7_noLast fi_X7 fc_X7_noLast (by decide +kernel)
theorem fm_X7_mean : Cond.instanceMethod yX7_mean ∈ fo_W0 := fo_in 1334 (by decide +kernel) (by decide +kernel)
theorem fs_X7_mean : Cond.selects yX7_mean.cls yX7_mean yX7_mean ∈ fo_W0 := fo_in 38 (by decide +kernel) (by decide +kernel)
theorem fc_X7_mean : Cond.code yX7_mean cX7_mean 6 (some .double) ∈ fo_W0 := fo_in 1335 (by decide +kernel) (by decide +kernel)
theorem fn_X7_148 : Cond.methodLink RX7 148 yX7_mean ∈ fo_W0 := fo_in 1332 (by decide +kernel) (by decide +kernel)
theorem lv_X7_148 : fo_lv RX7 148 yX7_mean cX7_mean 6 (some .double) 3 := fo_lv_of fn_X7_148 fm_X7_mean fs_X7_mean fi_X7 fc_X7_mean (by decide +kernel)
theorem fm_X7_lastMean : Cond.instanceMethod yX7_lastMean ∈ fo_W0 := fo_in 1326 (by decide +kernel) (by decide +kernel)
theorem fs_X7_lastMean : Cond.selects yX7_lastMean.cls yX7_lastMean yX7_lastMean ∈ fo_W0 := fo_in 36 (by decide +kernel) (by decide +kernel)
theorem fc_X7_lastMean : Cond.code yX7_lastMean cX7_lastMean 3 (some .double) ∈ fo_W0 := fo_in 1327 (by decide +kernel) (by decide +kernel)
theorem fn_X7_152 : Cond.methodLink RX7 152 yX7_lastMean ∈ fo_W0 := fo_in 1324 (by decide +kernel) (by decide +kernel)
theorem lv_X7_152 : fo_lv RX7 152 yX7_lastMean cX7_lastMean 3 (some .double) 2 := fo_lv_of fn_X7_152 fm_X7_lastMean fs_X7_lastMean fi_X7 fc_X7_lastMean (by decide +kernel)
theorem fm_X7_rowMedian : Cond.instanceMethod yX7_rowMedian ∈ fo_W0 := fo_in 1354 (by decide +kernel) (by decide +kernel)
theorem fs_X7_rowMedian : Cond.selects yX7_rowMedian.cls yX7_rowMedian yX7_rowMedian ∈ fo_W0 := fo_in 41 (by decide +kernel) (by decide +kernel)
theorem fc_X7_rowMedian : Cond.code yX7_rowMedian cX7_rowMedian 7 (some .int) ∈ fo_W0 := fo_in 1355 (by decide +kernel) (by decide +kernel)
theorem fn_X7_156 : Cond.methodLink RX7 156 yX7_rowMedian ∈ fo_W0 := fo_in 1352 (by decide +kernel) (by decide +kernel)
theorem lv_X7_156 : fo_lv RX7 156 yX7_rowMedian cX7_rowMedian 7 (some .int) 1 := fo_lv_of fn_X7_156 fm_X7_rowMedian fs_X7_rowMedian fi_X7 fc_X7_rowMedian (by decide +kernel)
theorem fm_X7_medianAhead : Cond.instanceMethod yX7_medianAhead ∈ fo_W0 := fo_in 1350 (by decide +kernel) (by decide +kernel)
theorem fs_X7_medianAhead : Cond.selects yX7_medianAhead.cls yX7_medianAhead yX7_medianAhead ∈ fo_W0 := fo_in 40 (by decide +kernel) (by decide +kernel)
theorem fc_X7_medianAhead : Cond.code yX7_medianAhead cX7_medianAhead 5 (some .int) ∈ fo_W0 := fo_in 1351 (by decide +kernel) (by decide +kernel)
theorem fn_X7_159 : Cond.methodLink RX7 159 yX7_medianAhead ∈ fo_W0 := fo_in 1348 (by decide +kernel) (by decide +kernel)
theorem lv_X7_159 : fo_lv RX7 159 yX7_medianAhead cX7_medianAhead 5 (some .int) 3 := fo_lv_of fn_X7_159 fm_X7_medianAhead fs_X7_medianAhead fi_X7 fc_X7_medianAhead (by decide +kernel)
theorem fm_X7_lastMedian : Cond.instanceMethod yX7_lastMedian ∈ fo_W0 := fo_in 1346 (by decide +kernel) (by decide +kernel)
theorem fs_X7_lastMedian : Cond.selects yX7_lastMedian.cls yX7_lastMedian yX7_lastMedian ∈ fo_W0 := fo_in 39 (by decide +kernel) (by decide +kernel)
theorem fc_X7_lastMedian : Cond.code yX7_lastMedian cX7_lastMedian 3 (some .int) ∈ fo_W0 := fo_in 1347 (by decide +kernel) (by decide +kernel)
theorem fn_X7_163 : Cond.methodLink RX7 163 yX7_lastMedian ∈ fo_W0 := fo_in 1344 (by decide +kernel) (by decide +kernel)
theorem lv_X7_163 : fo_lv RX7 163 yX7_lastMedian cX7_lastMedian 3 (some .int) 2 := fo_lv_of fn_X7_163 fm_X7_lastMedian fs_X7_lastMedian fi_X7 fc_X7_lastMedian (by decide +kernel)
theorem fm_X7_level : Cond.instanceMethod yX7_level ∈ fo_W0 := fo_in 1366 (by decide +kernel) (by decide +kernel)
theorem fs_X7_level : Cond.selects yX7_level.cls yX7_level yX7_level ∈ fo_W0 := fo_in 42 (by decide +kernel) (by decide +kernel)
theorem fc_X7_level : Cond.code yX7_level cX7_level 7 (some .double) ∈ fo_W0 := fo_in 1367 (by decide +kernel) (by decide +kernel)
theorem fn_X7_168 : Cond.methodLink RX7 168 yX7_level ∈ fo_W0 := fo_in 1364 (by decide +kernel) (by decide +kernel)
theorem lv_X7_168 : fo_lv RX7 168 yX7_level cX7_level 7 (some .double) 3 := fo_lv_of fn_X7_168 fm_X7_level fs_X7_level fi_X7 fc_X7_level (by decide +kernel)
theorem ft_X7_apart : Cond.static yX7_apart ∈ fo_W0 := fo_in 1378 (by decide +kernel) (by decide +kernel)
theorem fc_X7_apart : Cond.code yX7_apart cX7_apart 2 (some .int) ∈ fo_W0 := fo_in 1379 (by decide +kernel) (by decide +kernel)
theorem fn_X7_171 : Cond.methodLink RX7 171 yX7_apart ∈ fo_W0 := fo_in 1377 (by decide +kernel) (by decide +kernel)
theorem ls_X7_171 : fo_ls RX7 171 yX7_apart cX7_apart 2 (some .int) 2 := fo_ls_of fn_X7_171 ft_X7_apart fi_X7 fc_X7_apart (by decide +kernel)
theorem fm_X7_isOff : Cond.instanceMethod yX7_isOff ∈ fo_W0 := fo_in 1375 (by decide +kernel) (by decide +kernel)
theorem fs_X7_isOff : Cond.selects yX7_isOff.cls yX7_isOff yX7_isOff ∈ fo_W0 := fo_in 43 (by decide +kernel) (by decide +kernel)
theorem fc_X7_isOff : Cond.code yX7_isOff cX7_isOff 5 (some .boolean) ∈ fo_W0 := fo_in 1376 (by decide +kernel) (by decide +kernel)
theorem fn_X7_174 : Cond.methodLink RX7 174 yX7_isOff ∈ fo_W0 := fo_in 1373 (by decide +kernel) (by decide +kernel)
theorem lv_X7_174 : fo_lv RX7 174 yX7_isOff cX7_isOff 5 (some .boolean) 2 := fo_lv_of fn_X7_174 fm_X7_isOff fs_X7_isOff fi_X7 fc_X7_isOff (by decide +kernel)
theorem fm_X7_offOf : Cond.instanceMethod yX7_offOf ∈ fo_W0 := fo_in 1386 (by decide +kernel) (by decide +kernel)
theorem fs_X7_offOf : Cond.selects yX7_offOf.cls yX7_offOf yX7_offOf ∈ fo_W0 := fo_in 44 (by decide +kernel) (by decide +kernel)
theorem fc_X7_offOf : Cond.code yX7_offOf cX7_offOf 4 (some .int) ∈ fo_W0 := fo_in 1387 (by decide +kernel) (by decide +kernel)
theorem fn_X7_178 : Cond.methodLink RX7 178 yX7_offOf ∈ fo_W0 := fo_in 1384 (by decide +kernel) (by decide +kernel)
theorem lv_X7_178 : fo_lv RX7 178 yX7_offOf cX7_offOf 4 (some .int) 1 := fo_lv_of fn_X7_178 fm_X7_offOf fs_X7_offOf fi_X7 fc_X7_offOf (by decide +kernel)
theorem fm_X7_plain : Cond.instanceMethod yX7_plain ∈ fo_W0 := fo_in 1402 (by decide +kernel) (by decide +kernel)
theorem fs_X7_plain : Cond.selects yX7_plain.cls yX7_plain yX7_plain ∈ fo_W0 := fo_in 45 (by decide +kernel) (by decide +kernel)
theorem fc_X7_plain : Cond.code yX7_plain cX7_plain 2 (some .int) ∈ fo_W0 := fo_in 1403 (by decide +kernel) (by decide +kernel)
theorem fn_X7_181 : Cond.methodLink RX7 181 yX7_plain ∈ fo_W0 := fo_in 1400 (by decide +kernel) (by decide +kernel)
theorem lv_X7_181 : fo_lv RX7 181 yX7_plain cX7_plain 2 (some .int) 1 := fo_lv_of fn_X7_181 fm_X7_plain fs_X7_plain fi_X7 fc_X7_plain (by decide +kernel)
theorem fm_X7_isProphet : Cond.instanceMethod yX7_isProphet ∈ fo_W0 := fo_in 1414 (by decide +kernel) (by decide +kernel)
theorem fs_X7_isProphet : Cond.selects yX7_isProphet.cls yX7_isProphet yX7_isProphet ∈ fo_W0 := fo_in 46 (by decide +kernel) (by decide +kernel)
theorem fc_X7_isProphet : Cond.code yX7_isProphet cX7_isProphet 2 (some .boolean) ∈ fo_W0 := fo_in 1415 (by decide +kernel) (by decide +kernel)
theorem fn_X7_184 : Cond.methodLink RX7 184 yX7_isProphet ∈ fo_W0 := fo_in 1412 (by decide +kernel) (by decide +kernel)
theorem lv_X7_184 : fo_lv RX7 184 yX7_isProphet cX7_isProphet 2 (some .boolean) 1 := fo_lv_of fn_X7_184 fm_X7_isProphet fs_X7_isProphet fi_X7 fc_X7_isProphet (by decide +kernel)
theorem fm_X7_isPair : Cond.instanceMethod yX7_isPair ∈ fo_W0 := fo_in 1426 (by decide +kernel) (by decide +kernel)
theorem fs_X7_isPair : Cond.selects yX7_isPair.cls yX7_isPair yX7_isPair ∈ fo_W0 := fo_in 47 (by decide +kernel) (by decide +kernel)
theorem fc_X7_isPair : Cond.code yX7_isPair cX7_isPair 3 (some .boolean) ∈ fo_W0 := fo_in 1427 (by decide +kernel) (by decide +kernel)
theorem fn_X7_187 : Cond.methodLink RX7 187 yX7_isPair ∈ fo_W0 := fo_in 1424 (by decide +kernel) (by decide +kernel)
theorem lv_X7_187 : fo_lv RX7 187 yX7_isPair cX7_isPair 3 (some .boolean) 2 := fo_lv_of fn_X7_187 fm_X7_isPair fs_X7_isPair fi_X7 fc_X7_isPair (by decide +kernel)
theorem fm_X7_foresees : Cond.instanceMethod yX7_foresees ∈ fo_W0 := fo_in 1430 (by decide +kernel) (by decide +kernel)
theorem fs_X7_foresees : Cond.selects yX7_foresees.cls yX7_foresees yX7_foresees ∈ fo_W0 := fo_in 48 (by decide +kernel) (by decide +kernel)
theorem fc_X7_foresees : Cond.code yX7_foresees cX7_foresees 4 (some .boolean) ∈ fo_W0 := fo_in 1431 (by decide +kernel) (by decide +kernel)
theorem fn_X7_190 : Cond.methodLink RX7 190 yX7_foresees ∈ fo_W0 := fo_in 1428 (by decide +kernel) (by decide +kernel)
theorem lv_X7_190 : fo_lv RX7 190 yX7_foresees cX7_foresees 4 (some .boolean) 2 := fo_lv_of fn_X7_190 fm_X7_foresees fs_X7_foresees fi_X7 fc_X7_foresees (by decide +kernel)
theorem fm_X7_foreseen : Cond.instanceMethod yX7_foreseen ∈ fo_W0 := fo_in 1442 (by decide +kernel) (by decide +kernel)
theorem fs_X7_foreseen : Cond.selects yX7_foreseen.cls yX7_foreseen yX7_foreseen ∈ fo_W0 := fo_in 50 (by decide +kernel) (by decide +kernel)
theorem fc_X7_foreseen : Cond.code yX7_foreseen cX7_foreseen 6 (some .double) ∈ fo_W0 := fo_in 1443 (by decide +kernel) (by decide +kernel)
theorem fn_X7_193 : Cond.methodLink RX7 193 yX7_foreseen ∈ fo_W0 := fo_in 1440 (by decide +kernel) (by decide +kernel)
theorem lv_X7_193 : fo_lv RX7 193 yX7_foreseen cX7_foreseen 6 (some .double) 3 := fo_lv_of fn_X7_193 fm_X7_foreseen fs_X7_foreseen fi_X7 fc_X7_foreseen (by decide +kernel)
theorem fm_X7_next : Cond.instanceMethod yX7_next ∈ fo_W0 := fo_in 1438 (by decide +kernel) (by decide +kernel)
theorem fs_X7_next : Cond.selects yX7_next.cls yX7_next yX7_next ∈ fo_W0 := fo_in 49 (by decide +kernel) (by decide +kernel)
theorem fc_X7_next : Cond.code yX7_next cX7_next 3 (some .double) ∈ fo_W0 := fo_in 1439 (by decide +kernel) (by decide +kernel)
theorem fn_X7_196 : Cond.methodLink RX7 196 yX7_next ∈ fo_W0 := fo_in 1436 (by decide +kernel) (by decide +kernel)
theorem lv_X7_196 : fo_lv RX7 196 yX7_next cX7_next 3 (some .double) 2 := fo_lv_of fn_X7_196 fm_X7_next fs_X7_next fi_X7 fc_X7_next (by decide +kernel)
theorem fm_X7_errorsOf : Cond.instanceMethod yX7_errorsOf ∈ fo_W0 := fo_in 1464 (by decide +kernel) (by decide +kernel)
theorem fs_X7_errorsOf : Cond.selects yX7_errorsOf.cls yX7_errorsOf yX7_errorsOf ∈ fo_W0 := fo_in 51 (by decide +kernel) (by decide +kernel)
theorem fc_X7_errorsOf : Cond.code yX7_errorsOf cX7_errorsOf 5 (some .int) ∈ fo_W0 := fo_in 1465 (by decide +kernel) (by decide +kernel)
theorem fn_X7_205 : Cond.methodLink RX7 205 yX7_errorsOf ∈ fo_W0 := fo_in 1462 (by decide +kernel) (by decide +kernel)
theorem lv_X7_205 : fo_lv RX7 205 yX7_errorsOf cX7_errorsOf 5 (some .int) 2 := fo_lv_of fn_X7_205 fm_X7_errorsOf fs_X7_errorsOf fi_X7 fc_X7_errorsOf (by decide +kernel)
theorem fm_X7_error : Cond.instanceMethod yX7_error ∈ fo_W0 := fo_in 1476 (by decide +kernel) (by decide +kernel)
theorem fs_X7_error : Cond.selects yX7_error.cls yX7_error yX7_error ∈ fo_W0 := fo_in 53 (by decide +kernel) (by decide +kernel)
theorem fc_X7_error : Cond.code yX7_error cX7_error 6 (some .double) ∈ fo_W0 := fo_in 1477 (by decide +kernel) (by decide +kernel)
theorem fn_X7_208 : Cond.methodLink RX7 208 yX7_error ∈ fo_W0 := fo_in 1474 (by decide +kernel) (by decide +kernel)
theorem lv_X7_208 : fo_lv RX7 208 yX7_error cX7_error 6 (some .double) 3 := fo_lv_of fn_X7_208 fm_X7_error fs_X7_error fi_X7 fc_X7_error (by decide +kernel)
theorem fm_X7_errorSumOf : Cond.instanceMethod yX7_errorSumOf ∈ fo_W0 := fo_in 1472 (by decide +kernel) (by decide +kernel)
theorem fs_X7_errorSumOf : Cond.selects yX7_errorSumOf.cls yX7_errorSumOf yX7_errorSumOf ∈ fo_W0 := fo_in 52 (by decide +kernel) (by decide +kernel)
theorem fc_X7_errorSumOf : Cond.code yX7_errorSumOf cX7_errorSumOf 6 (some .double) ∈ fo_W0 := fo_in 1473 (by decide +kernel) (by decide +kernel)
theorem fn_X7_211 : Cond.methodLink RX7 211 yX7_errorSumOf ∈ fo_W0 := fo_in 1470 (by decide +kernel) (by decide +kernel)
theorem lv_X7_211 : fo_lv RX7 211 yX7_errorSumOf cX7_errorSumOf 6 (some .double) 2 := fo_lv_of fn_X7_211 fm_X7_errorSumOf fs_X7_errorSumOf fi_X7 fc_X7_errorSumOf (by decide +kernel)
theorem fm_X7_winner : Cond.instanceMethod yX7_winner ∈ fo_W0 := fo_in 1492 (by decide +kernel) (by decide +kernel)
theorem fs_X7_winner : Cond.selects yX7_winner.cls yX7_winner yX7_winner ∈ fo_W0 := fo_in 55 (by decide +kernel) (by decide +kernel)
theorem fc_X7_winner : Cond.code yX7_winner cX7_winner 5 (some .int) ∈ fo_W0 := fo_in 1493 (by decide +kernel) (by decide +kernel)
theorem fn_X7_214 : Cond.methodLink RX7 214 yX7_winner ∈ fo_W0 := fo_in 1490 (by decide +kernel) (by decide +kernel)
theorem lv_X7_214 : fo_lv RX7 214 yX7_winner cX7_winner 5 (some .int) 2 := fo_lv_of fn_X7_214 fm_X7_winner fs_X7_winner fi_X7 fc_X7_winner (by decide +kernel)
theorem fm_X7_pointsOf : Cond.instanceMethod yX7_pointsOf ∈ fo_W0 := fo_in 1488 (by decide +kernel) (by decide +kernel)
theorem fs_X7_pointsOf : Cond.selects yX7_pointsOf.cls yX7_pointsOf yX7_pointsOf ∈ fo_W0 := fo_in 54 (by decide +kernel) (by decide +kernel)
theorem fc_X7_pointsOf : Cond.code yX7_pointsOf cX7_pointsOf 5 (some .int) ∈ fo_W0 := fo_in 1489 (by decide +kernel) (by decide +kernel)
theorem fn_X7_217 : Cond.methodLink RX7 217 yX7_pointsOf ∈ fo_W0 := fo_in 1486 (by decide +kernel) (by decide +kernel)
theorem lv_X7_217 : fo_lv RX7 217 yX7_pointsOf cX7_pointsOf 5 (some .int) 2 := fo_lv_of fn_X7_217 fm_X7_pointsOf fs_X7_pointsOf fi_X7 fc_X7_pointsOf (by decide +kernel)
theorem fm_X7_allErrors : Cond.instanceMethod yX7_allErrors ∈ fo_W0 := fo_in 1500 (by decide +kernel) (by decide +kernel)
theorem fs_X7_allErrors : Cond.selects yX7_allErrors.cls yX7_allErrors yX7_allErrors ∈ fo_W0 := fo_in 56 (by decide +kernel) (by decide +kernel)
theorem fc_X7_allErrors : Cond.code yX7_allErrors cX7_allErrors 2 (some .int) ∈ fo_W0 := fo_in 1501 (by decide +kernel) (by decide +kernel)
theorem fn_X7_220 : Cond.methodLink RX7 220 yX7_allErrors ∈ fo_W0 := fo_in 1498 (by decide +kernel) (by decide +kernel)
theorem lv_X7_220 : fo_lv RX7 220 yX7_allErrors cX7_allErrors 2 (some .int) 1 := fo_lv_of fn_X7_220 fm_X7_allErrors fs_X7_allErrors fi_X7 fc_X7_allErrors (by decide +kernel)
theorem fm_X7_meanErrorOf : Cond.instanceMethod yX7_meanErrorOf ∈ fo_W0 := fo_in 1504 (by decide +kernel) (by decide +kernel)
theorem fs_X7_meanErrorOf : Cond.selects yX7_meanErrorOf.cls yX7_meanErrorOf yX7_meanErrorOf ∈ fo_W0 := fo_in 57 (by decide +kernel) (by decide +kernel)
theorem fc_X7_meanErrorOf : Cond.code yX7_meanErrorOf cX7_meanErrorOf 5 (some .double) ∈ fo_W0 := fo_in 1505 (by decide +kernel) (by decide +kernel)
theorem fn_X7_223 : Cond.methodLink RX7 223 yX7_meanErrorOf ∈ fo_W0 := fo_in 1502 (by decide +kernel) (by decide +kernel)
theorem lv_X7_223 : fo_lv RX7 223 yX7_meanErrorOf cX7_meanErrorOf 5 (some .double) 1 := fo_lv_of fn_X7_223 fm_X7_meanErrorOf fs_X7_meanErrorOf fi_X7 fc_X7_meanErrorOf (by decide +kernel)
theorem fm_X7_allPoints : Cond.instanceMethod yX7_allPoints ∈ fo_W0 := fo_in 1512 (by decide +kernel) (by decide +kernel)
theorem fs_X7_allPoints : Cond.selects yX7_allPoints.cls yX7_allPoints yX7_allPoints ∈ fo_W0 := fo_in 58 (by decide +kernel) (by decide +kernel)
theorem fc_X7_allPoints : Cond.code yX7_allPoints cX7_allPoints 2 (some .int) ∈ fo_W0 := fo_in 1513 (by decide +kernel) (by decide +kernel)
theorem fn_X7_227 : Cond.methodLink RX7 227 yX7_allPoints ∈ fo_W0 := fo_in 1510 (by decide +kernel) (by decide +kernel)
theorem lv_X7_227 : fo_lv RX7 227 yX7_allPoints cX7_allPoints 2 (some .int) 1 := fo_lv_of fn_X7_227 fm_X7_allPoints fs_X7_allPoints fi_X7 fc_X7_allPoints (by decide +kernel)
theorem fm_X7_write : Cond.instanceMethod yX7_write ∈ fo_W0 := fo_in 1536 (by decide +kernel) (by decide +kernel)
theorem fs_X7_write : Cond.selects yX7_write.cls yX7_write yX7_write ∈ fo_W0 := fo_in 60 (by decide +kernel) (by decide +kernel)
theorem fc_X7_write : Cond.code yX7_write cX7_write 2 none ∈ fo_W0 := fo_in 1537 (by decide +kernel) (by decide +kernel)
theorem fn_X7_230 : Cond.methodLink RX7 230 yX7_write ∈ fo_W0 := fo_in 1534 (by decide +kernel) (by decide +kernel)
theorem lv_X7_230 : fo_lv RX7 230 yX7_write cX7_write 2 none 1 := fo_lv_of fn_X7_230 fm_X7_write fs_X7_write fi_X7 fc_X7_write (by decide +kernel)
theorem fm_X7_writeNumber : Cond.instanceMethod yX7_writeNumber ∈ fo_W0 := fo_in 1532 (by decide +kernel) (by decide +kernel)
theorem fs_X7_writeNumber : Cond.selects yX7_writeNumber.cls yX7_writeNumber yX7_writeNumber ∈ fo_W0 := fo_in 59 (by decide +kernel) (by decide +kernel)
theorem fc_X7_writeNumber : Cond.code yX7_writeNumber cX7_writeNumber 3 none ∈ fo_W0 := fo_in 1533 (by decide +kernel) (by decide +kernel)
theorem fn_X7_234 : Cond.methodLink RX7 234 yX7_writeNumber ∈ fo_W0 := fo_in 1530 (by decide +kernel) (by decide +kernel)
theorem lv_X7_234 : fo_lv RX7 234 yX7_writeNumber cX7_writeNumber 3 none 1 := fo_lv_of fn_X7_234 fm_X7_writeNumber fs_X7_writeNumber fi_X7 fc_X7_writeNumber (by decide +kernel)
theorem fm_X7_mark : Cond.instanceMethod yX7_mark ∈ fo_W0 := fo_in 1578 (by decide +kernel) (by decide +kernel)
theorem fs_X7_mark : Cond.selects yX7_mark.cls yX7_mark yX7_mark ∈ fo_W0 := fo_in 65 (by decide +kernel) (by decide +kernel)
theorem fc_X7_mark : Cond.code yX7_mark cX7_mark 1 (some .int) ∈ fo_W0 := fo_in 1579 (by decide +kernel) (by decide +kernel)
theorem fn_X7_237 : Cond.methodLink RX7 237 yX7_mark ∈ fo_W0 := fo_in 1576 (by decide +kernel) (by decide +kernel)
theorem lv_X7_237 : fo_lv RX7 237 yX7_mark cX7_mark 1 (some .int) 0 := fo_lv_of fn_X7_237 fm_X7_mark fs_X7_mark fi_X7 fc_X7_mark (by decide +kernel)
theorem ft_X7_pick : Cond.static yX7_pick ∈ fo_W0 := fo_in 1570 (by decide +kernel) (by decide +kernel)
theorem fc_X7_pick : Cond.code yX7_pick cX7_pick 8 (some .int) ∈ fo_W0 := fo_in 1571 (by decide +kernel) (by decide +kernel)
theorem fn_X7_240 : Cond.methodLink RX7 240 yX7_pick ∈ fo_W0 := fo_in 1569 (by decide +kernel) (by decide +kernel)
theorem ls_X7_240 : fo_ls RX7 240 yX7_pick cX7_pick 8 (some .int) 8 := fo_ls_of fn_X7_240 ft_X7_pick fi_X7 fc_X7_pick (by decide +kernel)
theorem ft_X7_spelled : Cond.static yX7_spelled ∈ fo_W0 := fo_in 1567 (by decide +kernel) (by decide +kernel)
theorem fc_X7_spelled : Cond.code yX7_spelled cX7_spelled 2 (some .int) ∈ fo_W0 := fo_in 1568 (by decide +kernel) (by decide +kernel)
theorem fn_X7_244 : Cond.methodLink RX7 244 yX7_spelled ∈ fo_W0 := fo_in 1566 (by decide +kernel) (by decide +kernel)
theorem ls_X7_244 : fo_ls RX7 244 yX7_spelled cX7_spelled 2 (some .int) 2 := fo_ls_of fn_X7_244 ft_X7_spelled fi_X7 fc_X7_spelled (by decide +kernel)
theorem fm_X7_number : Cond.instanceMethod yX7_number ∈ fo_W0 := fo_in 1586 (by decide +kernel) (by decide +kernel)
theorem fs_X7_number : Cond.selects yX7_number.cls yX7_number yX7_number ∈ fo_W0 := fo_in 67 (by decide +kernel) (by decide +kernel)
theorem fc_X7_number : Cond.code yX7_number cX7_number 4 (some .int) ∈ fo_W0 := fo_in 1587 (by decide +kernel) (by decide +kernel)
theorem fn_X7_247 : Cond.methodLink RX7 247 yX7_number ∈ fo_W0 := fo_in 1584 (by decide +kernel) (by decide +kernel)
theorem lv_X7_247 : fo_lv RX7 247 yX7_number cX7_number 4 (some .int) 1 := fo_lv_of fn_X7_247 fm_X7_number fs_X7_number fi_X7 fc_X7_number (by decide +kernel)
theorem fm_X7_word : Cond.instanceMethod yX7_word ∈ fo_W0 := fo_in 1564 (by decide +kernel) (by decide +kernel)
theorem fs_X7_word : Cond.selects yX7_word.cls yX7_word yX7_word ∈ fo_W0 := fo_in 63 (by decide +kernel) (by decide +kernel)
theorem fc_X7_word : Cond.code yX7_word cX7_word 4 (some .int) ∈ fo_W0 := fo_in 1565 (by decide +kernel) (by decide +kernel)
theorem fn_X7_250 : Cond.methodLink RX7 250 yX7_word ∈ fo_W0 := fo_in 1562 (by decide +kernel) (by decide +kernel)
theorem lv_X7_250 : fo_lv RX7 250 yX7_word cX7_word 4 (some .int) 0 := fo_lv_of fn_X7_250 fm_X7_word fs_X7_word fi_X7 fc_X7_word (by decide +kernel)
theorem fm_X7_expect : Cond.instanceMethod yX7_expect ∈ fo_W0 := fo_in 1574 (by decide +kernel) (by decide +kernel)
theorem fs_X7_expect : Cond.selects yX7_expect.cls yX7_expect yX7_expect ∈ fo_W0 := fo_in 64 (by decide +kernel) (by decide +kernel)
theorem fc_X7_expect : Cond.code yX7_expect cX7_expect 2 none ∈ fo_W0 := fo_in 1575 (by decide +kernel) (by decide +kernel)
theorem fn_X7_253 : Cond.methodLink RX7 253 yX7_expect ∈ fo_W0 := fo_in 1572 (by decide +kernel) (by decide +kernel)
theorem lv_X7_253 : fo_lv RX7 253 yX7_expect cX7_expect 2 none 1 := fo_lv_of fn_X7_253 fm_X7_expect fs_X7_expect fi_X7 fc_X7_expect (by decide +kernel)
theorem fm_X7_prophetKind : Cond.instanceMethod yX7_prophetKind ∈ fo_W0 := fo_in 1582 (by decide +kernel) (by decide +kernel)
theorem fs_X7_prophetKind : Cond.selects yX7_prophetKind.cls yX7_prophetKind yX7_prophetKind ∈ fo_W0 := fo_in 66 (by decide +kernel) (by decide +kernel)
theorem fc_X7_prophetKind : Cond.code yX7_prophetKind cX7_prophetKind 2 (some .int) ∈ fo_W0 := fo_in 1583 (by decide +kernel) (by decide +kernel)
theorem fn_X7_256 : Cond.methodLink RX7 256 yX7_prophetKind ∈ fo_W0 := fo_in 1580 (by decide +kernel) (by decide +kernel)
theorem lv_X7_256 : fo_lv RX7 256 yX7_prophetKind cX7_prophetKind 2 (some .int) 0 := fo_lv_of fn_X7_256 fm_X7_prophetKind fs_X7_prophetKind fi_X7 fc_X7_prophetKind (by decide +kernel)
theorem fm_X7_readsValue : Cond.instanceMethod yX7_readsValue ∈ fo_W0 := fo_in 1590 (by decide +kernel) (by decide +kernel)
theorem fs_X7_readsValue : Cond.selects yX7_readsValue.cls yX7_readsValue yX7_readsValue ∈ fo_W0 := fo_in 68 (by decide +kernel) (by decide +kernel)
theorem fc_X7_readsValue : Cond.code yX7_readsValue cX7_readsValue 2 none ∈ fo_W0 := fo_in 1591 (by decide +kernel) (by decide +kernel)
theorem fn_X7_259 : Cond.methodLink RX7 259 yX7_readsValue ∈ fo_W0 := fo_in 1588 (by decide +kernel) (by decide +kernel)
theorem lv_X7_259 : fo_lv RX7 259 yX7_readsValue cX7_readsValue 2 none 0 := fo_lv_of fn_X7_259 fm_X7_readsValue fs_X7_readsValue fi_X7 fc_X7_readsValue (by decide +kernel)
theorem fm_X7_command : Cond.instanceMethod yX7_command ∈ fo_W0 := fo_in 1560 (by decide +kernel) (by decide +kernel)
theorem fs_X7_command : Cond.selects yX7_command.cls yX7_command yX7_command ∈ fo_W0 := fo_in 62 (by decide +kernel) (by decide +kernel)
theorem fc_X7_command : Cond.code yX7_command cX7_command 4 none ∈ fo_W0 := fo_in 1561 (by decide +kernel) (by decide +kernel)
theorem fn_X7_262 : Cond.methodLink RX7 262 yX7_command ∈ fo_W0 := fo_in 1558 (by decide +kernel) (by decide +kernel)
theorem lv_X7_262 : fo_lv RX7 262 yX7_command cX7_command 4 none 0 := fo_lv_of fn_X7_262 fm_X7_command fs_X7_command fi_X7 fc_X7_command (by decide +kernel)
theorem fm_X7_parse : Cond.instanceMethod yX7_parse ∈ fo_W0 := fo_in 1556 (by decide +kernel) (by decide +kernel)
theorem fs_X7_parse : Cond.selects yX7_parse.cls yX7_parse yX7_parse ∈ fo_W0 := fo_in 61 (by decide +kernel) (by decide +kernel)
theorem fc_X7_parse : Cond.code yX7_parse cX7_parse 1 none ∈ fo_W0 := fo_in 1557 (by decide +kernel) (by decide +kernel)
theorem fn_X7_265 : Cond.methodLink RX7 265 yX7_parse ∈ fo_W0 := fo_in 1554 (by decide +kernel) (by decide +kernel)
theorem lv_X7_265 : fo_lv RX7 265 yX7_parse cX7_parse 1 none 0 := fo_lv_of fn_X7_265 fm_X7_parse fs_X7_parse fi_X7 fc_X7_parse (by decide +kernel)
theorem fm_X7_cannot : Cond.instanceMethod yX7_cannot ∈ fo_W0 := fo_in 1594 (by decide +kernel) (by decide +kernel)
theorem fs_X7_cannot : Cond.selects yX7_cannot.cls yX7_cannot yX7_cannot ∈ fo_W0 := fo_in 69 (by decide +kernel) (by decide +kernel)
theorem fc_X7_cannot : Cond.code yX7_cannot cX7_cannot 5 (some .boolean) ∈ fo_W0 := fo_in 1595 (by decide +kernel) (by decide +kernel)
theorem fn_X7_268 : Cond.methodLink RX7 268 yX7_cannot ∈ fo_W0 := fo_in 1592 (by decide +kernel) (by decide +kernel)
theorem lv_X7_268 : fo_lv RX7 268 yX7_cannot cX7_cannot 5 (some .boolean) 1 := fo_lv_of fn_X7_268 fm_X7_cannot fs_X7_cannot fi_X7 fc_X7_cannot (by decide +kernel)
theorem fm_X7_present : Cond.instanceMethod yX7_present ∈ fo_W0 := fo_in 1602 (by decide +kernel) (by decide +kernel)
theorem fs_X7_present : Cond.selects yX7_present.cls yX7_present yX7_present ∈ fo_W0 := fo_in 70 (by decide +kernel) (by decide +kernel)
theorem fc_X7_present : Cond.code yX7_present cX7_present 2 (some .int) ∈ fo_W0 := fo_in 1603 (by decide +kernel) (by decide +kernel)
theorem fn_X7_271 : Cond.methodLink RX7 271 yX7_present ∈ fo_W0 := fo_in 1600 (by decide +kernel) (by decide +kernel)
theorem lv_X7_271 : fo_lv RX7 271 yX7_present cX7_present 2 (some .int) 1 := fo_lv_of fn_X7_271 fm_X7_present fs_X7_present fi_X7 fc_X7_present (by decide +kernel)
theorem ln_X5_90 : fo_ln RX5 90 yX6_isOneToNine cX6_isOneToNine 1 (some .boolean) 1 := ⟨by decide +kernel, fi_X6, ft_X6_isOneToNine, fc_X6_isOneToNine, by decide +kernel⟩
theorem ln_X5_97 : fo_ln RX5 97 yX6_isKind cX6_isKind 1 (some .boolean) 1 := ⟨by decide +kernel, fi_X6, ft_X6_isKind, fc_X6_isKind, by decide +kernel⟩
theorem fi_Math : Cond.initialized "java/lang/Math" ∈ fo_W0 := fo_in 90 (by decide +kernel) (by decide +kernel)
theorem fi_System : Cond.initialized "java/lang/System" ∈ fo_W0 := fo_in 85 (by decide +kernel) (by decide +kernel)
theorem fa_nat : Cond.native arraycopyName ∈ fo_W0 := fo_in 404 (by decide +kernel) (by decide +kernel)
theorem fa_sta : Cond.static arraycopyName ∈ fo_W0 := fo_in 403 (by decide +kernel) (by decide +kernel)
set_option maxRecDepth 20000 in
theorem fc_max : Cond.code Lib.Math.max.name Lib.Math.max.code 2 (some .int) ∈ fo_W0 := fo_in 335 rfl rfl
theorem ft_max : Cond.static Lib.Math.max.name ∈ fo_W0 := fo_in 334 (by decide +kernel) (by decide +kernel)
set_option maxRecDepth 20000 in
theorem fc_min : Cond.code Lib.Math.min.name Lib.Math.min.code 2 (some .int) ∈ fo_W0 := fo_in 689 rfl rfl
theorem ft_min : Cond.static Lib.Math.min.name ∈ fo_W0 := fo_in 688 (by decide +kernel) (by decide +kernel)
set_option maxRecDepth 20000 in
theorem fc_abs : Cond.code Lib.Math.abs.name Lib.Math.abs.code 1 (some .int) ∈ fo_W0 := fo_in 759 rfl rfl
theorem ft_abs : Cond.static Lib.Math.abs.name ∈ fo_W0 := fo_in 758 (by decide +kernel) (by decide +kernel)
theorem la_X3_30 : fo_la RX3 30 := ⟨fo_in 409 (by decide +kernel) (by decide +kernel), fa_nat, fa_sta, fi_System⟩
theorem la_X4_24 : fo_la RX4 24 := ⟨fo_in 402 (by decide +kernel) (by decide +kernel), fa_nat, fa_sta, fi_System⟩
theorem lm_X4_34 : fo_lm RX4 34 Lib.Math.min.name Lib.Math.min.code 2 := ⟨fo_in 687 (by decide +kernel) (by decide +kernel), ft_min, fi_Math, fc_min⟩
theorem lm_X4_40 : fo_lm RX4 40 Lib.Math.max.name Lib.Math.max.code 2 := ⟨fo_in 690 (by decide +kernel) (by decide +kernel), ft_max, fi_Math, fc_max⟩
theorem lm_X4_52 : fo_lm RX4 52 Lib.Math.abs.name Lib.Math.abs.code 1 := ⟨fo_in 757 (by decide +kernel) (by decide +kernel), ft_abs, fi_Math, fc_abs⟩
theorem lm_X5_114 : fo_lm RX5 114 Lib.Math.max.name Lib.Math.max.code 2 := ⟨fo_in 333 (by decide +kernel) (by decide +kernel), ft_max, fi_Math, fc_max⟩
theorem fd_X4_46 : Cond.constantDouble RX4 46 (4621819117588971520) ∈ fo_W0 := fo_in 361 (by decide +kernel) (by decide +kernel)
theorem fd_X6_313 : Cond.constantLong RX6 313 (1023) ∈ fo_W0 := fo_in 839 (by decide +kernel) (by decide +kernel)
theorem fd_X6_315 : Cond.constantDouble RX6 315 (4611686018427387904) ∈ fo_W0 := fo_in 840 (by decide +kernel) (by decide +kernel)
theorem fd_X6_317 : Cond.constantLong RX6 317 (2046) ∈ fo_W0 := fo_in 841 (by decide +kernel) (by decide +kernel)
theorem fd_X6_319 : Cond.constantDouble RX6 319 (4841369599423283200) ∈ fo_W0 := fo_in 842 (by decide +kernel) (by decide +kernel)
theorem fd_X6_321 : Cond.constantLong RX6 321 (-9223372036854775808) ∈ fo_W0 := fo_in 843 (by decide +kernel) (by decide +kernel)
theorem fd_X7_166 : Cond.constantDouble RX7 166 (4621819117588971520) ∈ fo_W0 := fo_in 1368 (by decide +kernel) (by decide +kernel)
theorem fx_IllegalArgument_0 : ∀ w ∈ (vx_at0 RX6 57 "java/lang/IllegalArgumentException" ["java/lang/RuntimeException", "java/lang/Exception"]).filter goodWord, w ∈ lw_tbl := by decide +kernel
theorem tf_IllegalArgument : fo_tf RX6 55 57 "java/lang/IllegalArgumentException" ["java/lang/RuntimeException", "java/lang/Exception"] := ⟨fo_in 421 (by decide +kernel) (by decide +kernel), fo_in 83 (by decide +kernel) (by decide +kernel), fun w h => List.mem_filter.mpr ⟨fx_IllegalArgument_0 w h, (List.mem_filter.mp h).2⟩, by decide +kernel, by decide +kernel, by decide +kernel, by decide +kernel, by decide +kernel⟩
theorem fx_IllegalState_0 : ∀ w ∈ (vx_at0 RX6 64 "java/lang/IllegalStateException" ["java/lang/RuntimeException", "java/lang/Exception"]).filter goodWord, w ∈ lw_tbl := by decide +kernel
theorem tf_IllegalState : fo_tf RX6 62 64 "java/lang/IllegalStateException" ["java/lang/RuntimeException", "java/lang/Exception"] := ⟨fo_in 497 (by decide +kernel) (by decide +kernel), fo_in 84 (by decide +kernel) (by decide +kernel), fun w h => List.mem_filter.mpr ⟨fx_IllegalState_0 w h, (List.mem_filter.mp h).2⟩, by decide +kernel, by decide +kernel, by decide +kernel, by decide +kernel, by decide +kernel⟩
theorem fx_IndexOutOfBounds_0 : ∀ w ∈ (vx_at0 RX6 238 "java/lang/IndexOutOfBoundsException" ["java/lang/RuntimeException", "java/lang/Exception"]).filter goodWord, w ∈ lw_tbl := by decide +kernel
theorem tf_IndexOutOfBounds : fo_tf RX6 236 238 "java/lang/IndexOutOfBoundsException" ["java/lang/RuntimeException", "java/lang/Exception"] := ⟨fo_in 587 (by decide +kernel) (by decide +kernel), fo_in 86 (by decide +kernel) (by decide +kernel), fun w h => List.mem_filter.mpr ⟨fx_IndexOutOfBounds_0 w h, (List.mem_filter.mp h).2⟩, by decide +kernel, by decide +kernel, by decide +kernel, by decide +kernel, by decide +kernel⟩
theorem fx_NoSuchElement_0 : ∀ w ∈ (vx_at0 RX6 100 "java/util/NoSuchElementException" ["java/lang/RuntimeException", "java/lang/Exception"]).filter goodWord, w ∈ lw_tbl := by decide +kernel
theorem tf_NoSuchElement : fo_tf RX6 98 100 "java/util/NoSuchElementException" ["java/lang/RuntimeException", "java/lang/Exception"] := ⟨fo_in 661 (by decide +kernel) (by decide +kernel), fo_in 89 (by decide +kernel) (by decide +kernel), fun w h => List.mem_filter.mpr ⟨fx_NoSuchElement_0 w h, (List.mem_filter.mp h).2⟩, by decide +kernel, by decide +kernel, by decide +kernel, by decide +kernel, by decide +kernel⟩
theorem fx_Arithmetic_0 : ∀ w ∈ (vx_at0 RX6 193 "java/lang/ArithmeticException" ["java/lang/RuntimeException", "java/lang/Exception"]).filter goodWord, w ∈ lw_tbl := by decide +kernel
theorem tf_Arithmetic : fo_tf RX6 191 193 "java/lang/ArithmeticException" ["java/lang/RuntimeException", "java/lang/Exception"] := ⟨fo_in 898 (by decide +kernel) (by decide +kernel), fo_in 93 (by decide +kernel) (by decide +kernel), fun w h => List.mem_filter.mpr ⟨fx_Arithmetic_0 w h, (List.mem_filter.mp h).2⟩, by decide +kernel, by decide +kernel, by decide +kernel, by decide +kernel, by decide +kernel⟩
theorem fx_UnsupportedOperation_0 : ∀ w ∈ (vx_at0 RX6 265 "java/lang/UnsupportedOperationException" ["java/lang/RuntimeException", "java/lang/Exception"]).filter goodWord, w ∈ lw_tbl := by decide +kernel
theorem tf_UnsupportedOperation : fo_tf RX6 263 265 "java/lang/UnsupportedOperationException" ["java/lang/RuntimeException", "java/lang/Exception"] := ⟨fo_in 1094 (by decide +kernel) (by decide +kernel), fo_in 97 (by decide +kernel) (by decide +kernel), fun w h => List.mem_filter.mpr ⟨fx_UnsupportedOperation_0 w h, (List.mem_filter.mp h).2⟩, by decide +kernel, by decide +kernel, by decide +kernel, by decide +kernel, by decide +kernel⟩
end
