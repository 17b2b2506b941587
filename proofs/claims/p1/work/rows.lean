section
/-- a private method of a class that the tables say can be made, by its rows of tables_1 -/
def lw_okq (q : MethodName × Nat) : Prop := (q.1.cls ≠ "java/lang/invoke/MethodHandle" ∧ q.1.cls ≠ "java/lang/invoke/VarHandle") ∧ Cond.instantiable q.1.cls q.2 ∈ tables_1 ∧ Cond.privateMethod q.1 ∈ tables_1 ∧ Cond.instanceMethod q.1 ∈ tables_1
theorem lw_p0 : lw_okq (⟨"TwoCalendars", "isLandAndDay", "(II)Z"⟩, 14) := ⟨⟨by decide +kernel, by decide +kernel⟩, List.mem_of_getElem? (i := 21) (by decide +kernel), List.mem_of_getElem? (i := 596) (by decide +kernel), List.mem_of_getElem? (i := 597) (by decide +kernel)⟩
theorem lw_p1 : lw_okq (⟨"TwoCalendars", "told", "()LTwoCalendars$Almanac;"⟩, 14) := ⟨⟨by decide +kernel, by decide +kernel⟩, List.mem_of_getElem? (i := 21) (by decide +kernel), List.mem_of_getElem? (i := 603) (by decide +kernel), List.mem_of_getElem? (i := 604) (by decide +kernel)⟩
theorem lw_p2 : lw_okq (⟨"TwoCalendars", "isDayOfWar", "(I)Z"⟩, 14) := ⟨⟨by decide +kernel, by decide +kernel⟩, List.mem_of_getElem? (i := 21) (by decide +kernel), List.mem_of_getElem? (i := 672) (by decide +kernel), List.mem_of_getElem? (i := 673) (by decide +kernel)⟩
theorem lw_p3 : lw_okq (⟨"TwoCalendars", "isSetInSpan", "(III)Z"⟩, 14) := ⟨⟨by decide +kernel, by decide +kernel⟩, List.mem_of_getElem? (i := 21) (by decide +kernel), List.mem_of_getElem? (i := 680) (by decide +kernel), List.mem_of_getElem? (i := 681) (by decide +kernel)⟩
theorem lw_p4 : lw_okq (⟨"TwoCalendars", "isPairAndDay", "(III)Z"⟩, 14) := ⟨⟨by decide +kernel, by decide +kernel⟩, List.mem_of_getElem? (i := 21) (by decide +kernel), List.mem_of_getElem? (i := 723) (by decide +kernel), List.mem_of_getElem? (i := 724) (by decide +kernel)⟩
theorem lw_p5 : lw_okq (⟨"TwoCalendars", "isPair", "(II)Z"⟩, 14) := ⟨⟨by decide +kernel, by decide +kernel⟩, List.mem_of_getElem? (i := 21) (by decide +kernel), List.mem_of_getElem? (i := 727) (by decide +kernel), List.mem_of_getElem? (i := 728) (by decide +kernel)⟩
theorem lw_p6 : lw_okq (⟨"TwoCalendars", "isSaintly", "(IIIII)Z"⟩, 14) := ⟨⟨by decide +kernel, by decide +kernel⟩, List.mem_of_getElem? (i := 21) (by decide +kernel), List.mem_of_getElem? (i := 763) (by decide +kernel), List.mem_of_getElem? (i := 764) (by decide +kernel)⟩
theorem lw_p7 : lw_okq (⟨"TwoCalendars", "readOrders", "(I)I"⟩, 14) := ⟨⟨by decide +kernel, by decide +kernel⟩, List.mem_of_getElem? (i := 21) (by decide +kernel), List.mem_of_getElem? (i := 803) (by decide +kernel), List.mem_of_getElem? (i := 804) (by decide +kernel)⟩
theorem lw_p8 : lw_okq (⟨"TwoCalendars", "readSights", "(III)I"⟩, 14) := ⟨⟨by decide +kernel, by decide +kernel⟩, List.mem_of_getElem? (i := 21) (by decide +kernel), List.mem_of_getElem? (i := 857) (by decide +kernel), List.mem_of_getElem? (i := 858) (by decide +kernel)⟩
theorem lw_p9 : lw_okq (⟨"TwoCalendars", "fightsInRain", "(LTwoCalendars$Almanac;JIII)Z"⟩, 14) := ⟨⟨by decide +kernel, by decide +kernel⟩, List.mem_of_getElem? (i := 21) (by decide +kernel), List.mem_of_getElem? (i := 1092) (by decide +kernel), List.mem_of_getElem? (i := 1093) (by decide +kernel)⟩
theorem lw_p10 : lw_okq (⟨"TwoCalendars", "slotsWithRow", "()I"⟩, 14) := ⟨⟨by decide +kernel, by decide +kernel⟩, List.mem_of_getElem? (i := 21) (by decide +kernel), List.mem_of_getElem? (i := 1100) (by decide +kernel), List.mem_of_getElem? (i := 1101) (by decide +kernel)⟩
theorem lw_p11 : lw_okq (⟨"TwoCalendarsModel", "advance", "()V"⟩, 39) := ⟨⟨by decide +kernel, by decide +kernel⟩, List.mem_of_getElem? (i := 1149) (by decide +kernel), List.mem_of_getElem? (i := 1300) (by decide +kernel), List.mem_of_getElem? (i := 1301) (by decide +kernel)⟩
theorem lw_p12 : lw_okq (⟨"TwoCalendarsModel", "see", "(I)I"⟩, 39) := ⟨⟨by decide +kernel, by decide +kernel⟩, List.mem_of_getElem? (i := 1149) (by decide +kernel), List.mem_of_getElem? (i := 1304) (by decide +kernel), List.mem_of_getElem? (i := 1305) (by decide +kernel)⟩
theorem lw_p13 : lw_okq (⟨"TwoCalendarsModel", "good", "()Z"⟩, 39) := ⟨⟨by decide +kernel, by decide +kernel⟩, List.mem_of_getElem? (i := 1149) (by decide +kernel), List.mem_of_getElem? (i := 1314) (by decide +kernel), List.mem_of_getElem? (i := 1315) (by decide +kernel)⟩
theorem lw_p14 : lw_okq (⟨"TwoCalendarsModel", "readLine", "()V"⟩, 39) := ⟨⟨by decide +kernel, by decide +kernel⟩, List.mem_of_getElem? (i := 1149) (by decide +kernel), List.mem_of_getElem? (i := 1318) (by decide +kernel), List.mem_of_getElem? (i := 1319) (by decide +kernel)⟩
theorem lw_p15 : lw_okq (⟨"TwoCalendarsModel", "needs", "(Ljava/lang/String;)V"⟩, 39) := ⟨⟨by decide +kernel, by decide +kernel⟩, List.mem_of_getElem? (i := 1149) (by decide +kernel), List.mem_of_getElem? (i := 1323) (by decide +kernel), List.mem_of_getElem? (i := 1324) (by decide +kernel)⟩
def lw_privs_1 : List (MethodName × Nat) := [(⟨"TwoCalendars", "isLandAndDay", "(II)Z"⟩, 14), (⟨"TwoCalendars", "told", "()LTwoCalendars$Almanac;"⟩, 14), (⟨"TwoCalendars", "isDayOfWar", "(I)Z"⟩, 14), (⟨"TwoCalendars", "isSetInSpan", "(III)Z"⟩, 14), (⟨"TwoCalendars", "isPairAndDay", "(III)Z"⟩, 14), (⟨"TwoCalendars", "isPair", "(II)Z"⟩, 14), (⟨"TwoCalendars", "isSaintly", "(IIIII)Z"⟩, 14), (⟨"TwoCalendars", "readOrders", "(I)I"⟩, 14), (⟨"TwoCalendars", "readSights", "(III)I"⟩, 14), (⟨"TwoCalendars", "fightsInRain", "(LTwoCalendars$Almanac;JIII)Z"⟩, 14), (⟨"TwoCalendars", "slotsWithRow", "()I"⟩, 14), (⟨"TwoCalendarsModel", "advance", "()V"⟩, 39), (⟨"TwoCalendarsModel", "see", "(I)I"⟩, 39), (⟨"TwoCalendarsModel", "good", "()Z"⟩, 39), (⟨"TwoCalendarsModel", "readLine", "()V"⟩, 39), (⟨"TwoCalendarsModel", "needs", "(Ljava/lang/String;)V"⟩, 39)]
theorem lw_r1 : ∀ q ∈ lw_privs_1, lw_okq q := List.forall_mem_cons.mpr ⟨lw_p0, List.forall_mem_cons.mpr ⟨lw_p1, List.forall_mem_cons.mpr ⟨lw_p2, List.forall_mem_cons.mpr ⟨lw_p3, List.forall_mem_cons.mpr ⟨lw_p4, List.forall_mem_cons.mpr ⟨lw_p5, List.forall_mem_cons.mpr ⟨lw_p6, List.forall_mem_cons.mpr ⟨lw_p7, List.forall_mem_cons.mpr ⟨lw_p8, List.forall_mem_cons.mpr ⟨lw_p9, List.forall_mem_cons.mpr ⟨lw_p10, List.forall_mem_cons.mpr ⟨lw_p11, List.forall_mem_cons.mpr ⟨lw_p12, List.forall_mem_cons.mpr ⟨lw_p13, List.forall_mem_cons.mpr ⟨lw_p14, List.forall_mem_cons.mpr ⟨lw_p15, fun _ h => absurd h List.not_mem_nil⟩⟩⟩⟩⟩⟩⟩⟩⟩⟩⟩⟩⟩⟩⟩⟩
theorem lw_p16 : lw_okq (⟨"TwoCalendarsModel", "takes", "(Ljava/lang/String;)Z"⟩, 39) := ⟨⟨by decide +kernel, by decide +kernel⟩, List.mem_of_getElem? (i := 1149) (by decide +kernel), List.mem_of_getElem? (i := 1327) (by decide +kernel), List.mem_of_getElem? (i := 1328) (by decide +kernel)⟩
theorem lw_p17 : lw_okq (⟨"TwoCalendarsModel", "is", "(Ljava/lang/String;)Z"⟩, 39) := ⟨⟨by decide +kernel, by decide +kernel⟩, List.mem_of_getElem? (i := 1149) (by decide +kernel), List.mem_of_getElem? (i := 1331) (by decide +kernel), List.mem_of_getElem? (i := 1332) (by decide +kernel)⟩
theorem lw_p18 : lw_okq (⟨"TwoCalendarsModel", "errs", "(I)V"⟩, 39) := ⟨⟨by decide +kernel, by decide +kernel⟩, List.mem_of_getElem? (i := 1149) (by decide +kernel), List.mem_of_getElem? (i := 1337) (by decide +kernel), List.mem_of_getElem? (i := 1338) (by decide +kernel)⟩
theorem lw_p19 : lw_okq (⟨"TwoCalendarsModel", "told", "(Ljava/lang/String;II)I"⟩, 39) := ⟨⟨by decide +kernel, by decide +kernel⟩, List.mem_of_getElem? (i := 1149) (by decide +kernel), List.mem_of_getElem? (i := 1342) (by decide +kernel), List.mem_of_getElem? (i := 1343) (by decide +kernel)⟩
theorem lw_p20 : lw_okq (⟨"TwoCalendarsModel", "number", "(II)I"⟩, 39) := ⟨⟨by decide +kernel, by decide +kernel⟩, List.mem_of_getElem? (i := 1149) (by decide +kernel), List.mem_of_getElem? (i := 1346) (by decide +kernel), List.mem_of_getElem? (i := 1347) (by decide +kernel)⟩
theorem lw_p21 : lw_okq (⟨"TwoCalendarsModel", "readNext", "()V"⟩, 39) := ⟨⟨by decide +kernel, by decide +kernel⟩, List.mem_of_getElem? (i := 1149) (by decide +kernel), List.mem_of_getElem? (i := 1350) (by decide +kernel), List.mem_of_getElem? (i := 1351) (by decide +kernel)⟩
theorem lw_p22 : lw_okq (⟨"TwoCalendarsModel", "readLand", "()V"⟩, 39) := ⟨⟨by decide +kernel, by decide +kernel⟩, List.mem_of_getElem? (i := 1149) (by decide +kernel), List.mem_of_getElem? (i := 1357) (by decide +kernel), List.mem_of_getElem? (i := 1358) (by decide +kernel)⟩
theorem lw_p23 : lw_okq (⟨"TwoCalendarsModel", "readMonths", "(I)V"⟩, 39) := ⟨⟨by decide +kernel, by decide +kernel⟩, List.mem_of_getElem? (i := 1149) (by decide +kernel), List.mem_of_getElem? (i := 1365) (by decide +kernel), List.mem_of_getElem? (i := 1366) (by decide +kernel)⟩
theorem lw_p24 : lw_okq (⟨"TwoCalendarsModel", "readFeast", "()V"⟩, 39) := ⟨⟨by decide +kernel, by decide +kernel⟩, List.mem_of_getElem? (i := 1149) (by decide +kernel), List.mem_of_getElem? (i := 1373) (by decide +kernel), List.mem_of_getElem? (i := 1374) (by decide +kernel)⟩
theorem lw_p25 : lw_okq (⟨"TwoCalendarsModel", "freshLand", "()I"⟩, 39) := ⟨⟨by decide +kernel, by decide +kernel⟩, List.mem_of_getElem? (i := 1149) (by decide +kernel), List.mem_of_getElem? (i := 1377) (by decide +kernel), List.mem_of_getElem? (i := 1378) (by decide +kernel)⟩
theorem lw_p26 : lw_okq (⟨"TwoCalendarsModel", "readTruce", "()V"⟩, 39) := ⟨⟨by decide +kernel, by decide +kernel⟩, List.mem_of_getElem? (i := 1149) (by decide +kernel), List.mem_of_getElem? (i := 1382) (by decide +kernel), List.mem_of_getElem? (i := 1383) (by decide +kernel)⟩
theorem lw_p27 : lw_okq (⟨"TwoCalendarsModel", "isLand", "(J)Z"⟩, 39) := ⟨⟨by decide +kernel, by decide +kernel⟩, List.mem_of_getElem? (i := 1149) (by decide +kernel), List.mem_of_getElem? (i := 1391) (by decide +kernel), List.mem_of_getElem? (i := 1392) (by decide +kernel)⟩
theorem lw_p28 : lw_okq (⟨"TwoCalendarsModel", "of", "(II)I"⟩, 39) := ⟨⟨by decide +kernel, by decide +kernel⟩, List.mem_of_getElem? (i := 1149) (by decide +kernel), List.mem_of_getElem? (i := 1396) (by decide +kernel), List.mem_of_getElem? (i := 1397) (by decide +kernel)⟩
theorem lw_p29 : lw_okq (⟨"TwoCalendarsModel", "isMonth", "(IJ)Z"⟩, 39) := ⟨⟨by decide +kernel, by decide +kernel⟩, List.mem_of_getElem? (i := 1149) (by decide +kernel), List.mem_of_getElem? (i := 1404) (by decide +kernel), List.mem_of_getElem? (i := 1405) (by decide +kernel)⟩
theorem lw_p30 : lw_okq (⟨"TwoCalendarsModel", "lengthOf", "(III)I"⟩, 39) := ⟨⟨by decide +kernel, by decide +kernel⟩, List.mem_of_getElem? (i := 1149) (by decide +kernel), List.mem_of_getElem? (i := 1412) (by decide +kernel), List.mem_of_getElem? (i := 1413) (by decide +kernel)⟩
theorem lw_p31 : lw_okq (⟨"TwoCalendarsModel", "ofFeast", "(II)I"⟩, 39) := ⟨⟨by decide +kernel, by decide +kernel⟩, List.mem_of_getElem? (i := 1149) (by decide +kernel), List.mem_of_getElem? (i := 1421) (by decide +kernel), List.mem_of_getElem? (i := 1422) (by decide +kernel)⟩
def lw_privs_2 : List (MethodName × Nat) := [(⟨"TwoCalendarsModel", "takes", "(Ljava/lang/String;)Z"⟩, 39), (⟨"TwoCalendarsModel", "is", "(Ljava/lang/String;)Z"⟩, 39), (⟨"TwoCalendarsModel", "errs", "(I)V"⟩, 39), (⟨"TwoCalendarsModel", "told", "(Ljava/lang/String;II)I"⟩, 39), (⟨"TwoCalendarsModel", "number", "(II)I"⟩, 39), (⟨"TwoCalendarsModel", "readNext", "()V"⟩, 39), (⟨"TwoCalendarsModel", "readLand", "()V"⟩, 39), (⟨"TwoCalendarsModel", "readMonths", "(I)V"⟩, 39), (⟨"TwoCalendarsModel", "readFeast", "()V"⟩, 39), (⟨"TwoCalendarsModel", "freshLand", "()I"⟩, 39), (⟨"TwoCalendarsModel", "readTruce", "()V"⟩, 39), (⟨"TwoCalendarsModel", "isLand", "(J)Z"⟩, 39), (⟨"TwoCalendarsModel", "of", "(II)I"⟩, 39), (⟨"TwoCalendarsModel", "isMonth", "(IJ)Z"⟩, 39), (⟨"TwoCalendarsModel", "lengthOf", "(III)I"⟩, 39), (⟨"TwoCalendarsModel", "ofFeast", "(II)I"⟩, 39)]
theorem lw_r2 : ∀ q ∈ lw_privs_2, lw_okq q := List.forall_mem_cons.mpr ⟨lw_p16, List.forall_mem_cons.mpr ⟨lw_p17, List.forall_mem_cons.mpr ⟨lw_p18, List.forall_mem_cons.mpr ⟨lw_p19, List.forall_mem_cons.mpr ⟨lw_p20, List.forall_mem_cons.mpr ⟨lw_p21, List.forall_mem_cons.mpr ⟨lw_p22, List.forall_mem_cons.mpr ⟨lw_p23, List.forall_mem_cons.mpr ⟨lw_p24, List.forall_mem_cons.mpr ⟨lw_p25, List.forall_mem_cons.mpr ⟨lw_p26, List.forall_mem_cons.mpr ⟨lw_p27, List.forall_mem_cons.mpr ⟨lw_p28, List.forall_mem_cons.mpr ⟨lw_p29, List.forall_mem_cons.mpr ⟨lw_p30, List.forall_mem_cons.mpr ⟨lw_p31, fun _ h => absurd h List.not_mem_nil⟩⟩⟩⟩⟩⟩⟩⟩⟩⟩⟩⟩⟩⟩⟩⟩
theorem lw_p32 : lw_okq (⟨"TwoCalendarsModel", "ofTruce", "(II)I"⟩, 39) := ⟨⟨by decide +kernel, by decide +kernel⟩, List.mem_of_getElem? (i := 1149) (by decide +kernel), List.mem_of_getElem? (i := 1429) (by decide +kernel), List.mem_of_getElem? (i := 1430) (by decide +kernel)⟩
theorem lw_p33 : lw_okq (⟨"TwoCalendarsModel", "lay", "()V"⟩, 39) := ⟨⟨by decide +kernel, by decide +kernel⟩, List.mem_of_getElem? (i := 1149) (by decide +kernel), List.mem_of_getElem? (i := 1440) (by decide +kernel), List.mem_of_getElem? (i := 1441) (by decide +kernel)⟩
theorem lw_p34 : lw_okq (⟨"TwoCalendarsModel", "layDates", "(I)V"⟩, 39) := ⟨⟨by decide +kernel, by decide +kernel⟩, List.mem_of_getElem? (i := 1149) (by decide +kernel), List.mem_of_getElem? (i := 1444) (by decide +kernel), List.mem_of_getElem? (i := 1445) (by decide +kernel)⟩
theorem lw_p35 : lw_okq (⟨"TwoCalendarsModel", "layWhy", "(I)V"⟩, 39) := ⟨⟨by decide +kernel, by decide +kernel⟩, List.mem_of_getElem? (i := 1149) (by decide +kernel), List.mem_of_getElem? (i := 1451) (by decide +kernel), List.mem_of_getElem? (i := 1452) (by decide +kernel)⟩
theorem lw_p36 : lw_okq (⟨"TwoCalendarsModel", "weekday", "(II)I"⟩, 39) := ⟨⟨by decide +kernel, by decide +kernel⟩, List.mem_of_getElem? (i := 1149) (by decide +kernel), List.mem_of_getElem? (i := 1455) (by decide +kernel), List.mem_of_getElem? (i := 1456) (by decide +kernel)⟩
theorem lw_p37 : lw_okq (⟨"TwoCalendarsModel", "dateOf", "(III)I"⟩, 39) := ⟨⟨by decide +kernel, by decide +kernel⟩, List.mem_of_getElem? (i := 1149) (by decide +kernel), List.mem_of_getElem? (i := 1462) (by decide +kernel), List.mem_of_getElem? (i := 1463) (by decide +kernel)⟩
theorem lw_p38 : lw_okq (⟨"TwoCalendarsModel", "isDate", "(IJJJ)Z"⟩, 39) := ⟨⟨by decide +kernel, by decide +kernel⟩, List.mem_of_getElem? (i := 1149) (by decide +kernel), List.mem_of_getElem? (i := 1470) (by decide +kernel), List.mem_of_getElem? (i := 1471) (by decide +kernel)⟩
theorem lw_p39 : lw_okq (⟨"TwoCalendarsModel", "dayBy", "(IIII)I"⟩, 39) := ⟨⟨by decide +kernel, by decide +kernel⟩, List.mem_of_getElem? (i := 1149) (by decide +kernel), List.mem_of_getElem? (i := 1474) (by decide +kernel), List.mem_of_getElem? (i := 1475) (by decide +kernel)⟩
theorem lw_p40 : lw_okq (⟨"TwoCalendarsModel", "yearLength", "(II)I"⟩, 39) := ⟨⟨by decide +kernel, by decide +kernel⟩, List.mem_of_getElem? (i := 1149) (by decide +kernel), List.mem_of_getElem? (i := 1478) (by decide +kernel), List.mem_of_getElem? (i := 1479) (by decide +kernel)⟩
theorem lw_p41 : lw_okq (⟨"TwoCalendarsModel", "mayOn", "(II)Z"⟩, 39) := ⟨⟨by decide +kernel, by decide +kernel⟩, List.mem_of_getElem? (i := 1149) (by decide +kernel), List.mem_of_getElem? (i := 1486) (by decide +kernel), List.mem_of_getElem? (i := 1487) (by decide +kernel)⟩
theorem lw_p42 : lw_okq (⟨"TwoCalendarsModel", "isWar", "()Z"⟩, 39) := ⟨⟨by decide +kernel, by decide +kernel⟩, List.mem_of_getElem? (i := 1149) (by decide +kernel), List.mem_of_getElem? (i := 1498) (by decide +kernel), List.mem_of_getElem? (i := 1499) (by decide +kernel)⟩
theorem lw_p43 : lw_okq (⟨"TwoCalendarsModel", "whoOn", "(I)I"⟩, 39) := ⟨⟨by decide +kernel, by decide +kernel⟩, List.mem_of_getElem? (i := 1149) (by decide +kernel), List.mem_of_getElem? (i := 1502) (by decide +kernel), List.mem_of_getElem? (i := 1503) (by decide +kernel)⟩
theorem lw_p44 : lw_okq (⟨"TwoCalendarsModel", "isSet", "(I)Z"⟩, 39) := ⟨⟨by decide +kernel, by decide +kernel⟩, List.mem_of_getElem? (i := 1149) (by decide +kernel), List.mem_of_getElem? (i := 1510) (by decide +kernel), List.mem_of_getElem? (i := 1511) (by decide +kernel)⟩
theorem lw_p45 : lw_okq (⟨"TwoCalendarsModel", "allLands", "()I"⟩, 39) := ⟨⟨by decide +kernel, by decide +kernel⟩, List.mem_of_getElem? (i := 1149) (by decide +kernel), List.mem_of_getElem? (i := 1514) (by decide +kernel), List.mem_of_getElem? (i := 1515) (by decide +kernel)⟩
theorem lw_p46 : lw_okq (⟨"TwoCalendarsModel", "mayAll", "(II)Z"⟩, 39) := ⟨⟨by decide +kernel, by decide +kernel⟩, List.mem_of_getElem? (i := 1149) (by decide +kernel), List.mem_of_getElem? (i := 1518) (by decide +kernel), List.mem_of_getElem? (i := 1519) (by decide +kernel)⟩
theorem lw_p47 : lw_okq (⟨"TwoCalendarsModel", "manyOf", "(III)I"⟩, 39) := ⟨⟨by decide +kernel, by decide +kernel⟩, List.mem_of_getElem? (i := 1149) (by decide +kernel), List.mem_of_getElem? (i := 1529) (by decide +kernel), List.mem_of_getElem? (i := 1530) (by decide +kernel)⟩
def lw_privs_3 : List (MethodName × Nat) := [(⟨"TwoCalendarsModel", "ofTruce", "(II)I"⟩, 39), (⟨"TwoCalendarsModel", "lay", "()V"⟩, 39), (⟨"TwoCalendarsModel", "layDates", "(I)V"⟩, 39), (⟨"TwoCalendarsModel", "layWhy", "(I)V"⟩, 39), (⟨"TwoCalendarsModel", "weekday", "(II)I"⟩, 39), (⟨"TwoCalendarsModel", "dateOf", "(III)I"⟩, 39), (⟨"TwoCalendarsModel", "isDate", "(IJJJ)Z"⟩, 39), (⟨"TwoCalendarsModel", "dayBy", "(IIII)I"⟩, 39), (⟨"TwoCalendarsModel", "yearLength", "(II)I"⟩, 39), (⟨"TwoCalendarsModel", "mayOn", "(II)Z"⟩, 39), (⟨"TwoCalendarsModel", "isWar", "()Z"⟩, 39), (⟨"TwoCalendarsModel", "whoOn", "(I)I"⟩, 39), (⟨"TwoCalendarsModel", "isSet", "(I)Z"⟩, 39), (⟨"TwoCalendarsModel", "allLands", "()I"⟩, 39), (⟨"TwoCalendarsModel", "mayAll", "(II)Z"⟩, 39), (⟨"TwoCalendarsModel", "manyOf", "(III)I"⟩, 39)]
theorem lw_r3 : ∀ q ∈ lw_privs_3, lw_okq q := List.forall_mem_cons.mpr ⟨lw_p32, List.forall_mem_cons.mpr ⟨lw_p33, List.forall_mem_cons.mpr ⟨lw_p34, List.forall_mem_cons.mpr ⟨lw_p35, List.forall_mem_cons.mpr ⟨lw_p36, List.forall_mem_cons.mpr ⟨lw_p37, List.forall_mem_cons.mpr ⟨lw_p38, List.forall_mem_cons.mpr ⟨lw_p39, List.forall_mem_cons.mpr ⟨lw_p40, List.forall_mem_cons.mpr ⟨lw_p41, List.forall_mem_cons.mpr ⟨lw_p42, List.forall_mem_cons.mpr ⟨lw_p43, List.forall_mem_cons.mpr ⟨lw_p44, List.forall_mem_cons.mpr ⟨lw_p45, List.forall_mem_cons.mpr ⟨lw_p46, List.forall_mem_cons.mpr ⟨lw_p47, fun _ h => absurd h List.not_mem_nil⟩⟩⟩⟩⟩⟩⟩⟩⟩⟩⟩⟩⟩⟩⟩⟩
theorem lw_p48 : lw_okq (⟨"TwoCalendarsModel", "findWait", "(III)V"⟩, 39) := ⟨⟨by decide +kernel, by decide +kernel⟩, List.mem_of_getElem? (i := 1149) (by decide +kernel), List.mem_of_getElem? (i := 1537) (by decide +kernel), List.mem_of_getElem? (i := 1538) (by decide +kernel)⟩
theorem lw_p49 : lw_okq (⟨"TwoCalendarsModel", "areTwo", "(II)Z"⟩, 39) := ⟨⟨by decide +kernel, by decide +kernel⟩, List.mem_of_getElem? (i := 1149) (by decide +kernel), List.mem_of_getElem? (i := 1556) (by decide +kernel), List.mem_of_getElem? (i := 1557) (by decide +kernel)⟩
theorem lw_p50 : lw_okq (⟨"TwoCalendarsModel", "isWeekday", "(II)Z"⟩, 39) := ⟨⟨by decide +kernel, by decide +kernel⟩, List.mem_of_getElem? (i := 1149) (by decide +kernel), List.mem_of_getElem? (i := 1560) (by decide +kernel), List.mem_of_getElem? (i := 1561) (by decide +kernel)⟩
theorem lw_p51 : lw_okq (⟨"TwoCalendarsModel", "isCounted", "(II)Z"⟩, 39) := ⟨⟨by decide +kernel, by decide +kernel⟩, List.mem_of_getElem? (i := 1149) (by decide +kernel), List.mem_of_getElem? (i := 1573) (by decide +kernel), List.mem_of_getElem? (i := 1574) (by decide +kernel)⟩
theorem lw_p52 : lw_okq (⟨"TwoCalendarsModel", "areSaints", "(IIIII)Z"⟩, 39) := ⟨⟨by decide +kernel, by decide +kernel⟩, List.mem_of_getElem? (i := 1149) (by decide +kernel), List.mem_of_getElem? (i := 1589) (by decide +kernel), List.mem_of_getElem? (i := 1590) (by decide +kernel)⟩
theorem lw_p53 : lw_okq (⟨"TwoCalendarsModel", "findSaints", "(IIIII)V"⟩, 39) := ⟨⟨by decide +kernel, by decide +kernel⟩, List.mem_of_getElem? (i := 1149) (by decide +kernel), List.mem_of_getElem? (i := 1595) (by decide +kernel), List.mem_of_getElem? (i := 1596) (by decide +kernel)⟩
theorem lw_p54 : lw_okq (⟨"TwoCalendarsModel", "findBridge", "(IIII)V"⟩, 39) := ⟨⟨by decide +kernel, by decide +kernel⟩, List.mem_of_getElem? (i := 1149) (by decide +kernel), List.mem_of_getElem? (i := 1609) (by decide +kernel), List.mem_of_getElem? (i := 1610) (by decide +kernel)⟩
theorem lw_p55 : lw_okq (⟨"TwoCalendarsModel", "asksOrders", "(I)I"⟩, 39) := ⟨⟨by decide +kernel, by decide +kernel⟩, List.mem_of_getElem? (i := 1149) (by decide +kernel), List.mem_of_getElem? (i := 1621) (by decide +kernel), List.mem_of_getElem? (i := 1622) (by decide +kernel)⟩
theorem lw_p56 : lw_okq (⟨"TwoCalendarsModel", "numberAt", "(II)J"⟩, 39) := ⟨⟨by decide +kernel, by decide +kernel⟩, List.mem_of_getElem? (i := 1149) (by decide +kernel), List.mem_of_getElem? (i := 1628) (by decide +kernel), List.mem_of_getElem? (i := 1629) (by decide +kernel)⟩
theorem lw_p57 : lw_okq (⟨"TwoCalendarsModel", "intAt", "(II)I"⟩, 39) := ⟨⟨by decide +kernel, by decide +kernel⟩, List.mem_of_getElem? (i := 1149) (by decide +kernel), List.mem_of_getElem? (i := 1632) (by decide +kernel), List.mem_of_getElem? (i := 1633) (by decide +kernel)⟩
theorem lw_p58 : lw_okq (⟨"TwoCalendarsModel", "dayAt", "(II)I"⟩, 39) := ⟨⟨by decide +kernel, by decide +kernel⟩, List.mem_of_getElem? (i := 1149) (by decide +kernel), List.mem_of_getElem? (i := 1636) (by decide +kernel), List.mem_of_getElem? (i := 1637) (by decide +kernel)⟩
theorem lw_p59 : lw_okq (⟨"TwoCalendarsModel", "asksSeen", "(IIIZ)I"⟩, 39) := ⟨⟨by decide +kernel, by decide +kernel⟩, List.mem_of_getElem? (i := 1149) (by decide +kernel), List.mem_of_getElem? (i := 1657) (by decide +kernel), List.mem_of_getElem? (i := 1658) (by decide +kernel)⟩
theorem lw_p60 : lw_okq (⟨"TwoCalendarsModel", "fitsOf", "(III)I"⟩, 39) := ⟨⟨by decide +kernel, by decide +kernel⟩, List.mem_of_getElem? (i := 1149) (by decide +kernel), List.mem_of_getElem? (i := 1662) (by decide +kernel), List.mem_of_getElem? (i := 1663) (by decide +kernel)⟩
theorem lw_p61 : lw_okq (⟨"TwoCalendarsModel", "isSeen", "(II)Z"⟩, 39) := ⟨⟨by decide +kernel, by decide +kernel⟩, List.mem_of_getElem? (i := 1149) (by decide +kernel), List.mem_of_getElem? (i := 1666) (by decide +kernel), List.mem_of_getElem? (i := 1667) (by decide +kernel)⟩
theorem lw_p62 : lw_okq (⟨"TwoCalendarsModel", "seen", "(III)I"⟩, 39) := ⟨⟨by decide +kernel, by decide +kernel⟩, List.mem_of_getElem? (i := 1149) (by decide +kernel), List.mem_of_getElem? (i := 1670) (by decide +kernel), List.mem_of_getElem? (i := 1671) (by decide +kernel)⟩
theorem lw_p63 : lw_okq (⟨"TwoCalendarsModel", "askOf", "(III)I"⟩, 39) := ⟨⟨by decide +kernel, by decide +kernel⟩, List.mem_of_getElem? (i := 1149) (by decide +kernel), List.mem_of_getElem? (i := 1686) (by decide +kernel), List.mem_of_getElem? (i := 1687) (by decide +kernel)⟩
def lw_privs_4 : List (MethodName × Nat) := [(⟨"TwoCalendarsModel", "findWait", "(III)V"⟩, 39), (⟨"TwoCalendarsModel", "areTwo", "(II)Z"⟩, 39), (⟨"TwoCalendarsModel", "isWeekday", "(II)Z"⟩, 39), (⟨"TwoCalendarsModel", "isCounted", "(II)Z"⟩, 39), (⟨"TwoCalendarsModel", "areSaints", "(IIIII)Z"⟩, 39), (⟨"TwoCalendarsModel", "findSaints", "(IIIII)V"⟩, 39), (⟨"TwoCalendarsModel", "findBridge", "(IIII)V"⟩, 39), (⟨"TwoCalendarsModel", "asksOrders", "(I)I"⟩, 39), (⟨"TwoCalendarsModel", "numberAt", "(II)J"⟩, 39), (⟨"TwoCalendarsModel", "intAt", "(II)I"⟩, 39), (⟨"TwoCalendarsModel", "dayAt", "(II)I"⟩, 39), (⟨"TwoCalendarsModel", "asksSeen", "(IIIZ)I"⟩, 39), (⟨"TwoCalendarsModel", "fitsOf", "(III)I"⟩, 39), (⟨"TwoCalendarsModel", "isSeen", "(II)Z"⟩, 39), (⟨"TwoCalendarsModel", "seen", "(III)I"⟩, 39), (⟨"TwoCalendarsModel", "askOf", "(III)I"⟩, 39)]
theorem lw_r4 : ∀ q ∈ lw_privs_4, lw_okq q := List.forall_mem_cons.mpr ⟨lw_p48, List.forall_mem_cons.mpr ⟨lw_p49, List.forall_mem_cons.mpr ⟨lw_p50, List.forall_mem_cons.mpr ⟨lw_p51, List.forall_mem_cons.mpr ⟨lw_p52, List.forall_mem_cons.mpr ⟨lw_p53, List.forall_mem_cons.mpr ⟨lw_p54, List.forall_mem_cons.mpr ⟨lw_p55, List.forall_mem_cons.mpr ⟨lw_p56, List.forall_mem_cons.mpr ⟨lw_p57, List.forall_mem_cons.mpr ⟨lw_p58, List.forall_mem_cons.mpr ⟨lw_p59, List.forall_mem_cons.mpr ⟨lw_p60, List.forall_mem_cons.mpr ⟨lw_p61, List.forall_mem_cons.mpr ⟨lw_p62, List.forall_mem_cons.mpr ⟨lw_p63, fun _ h => absurd h List.not_mem_nil⟩⟩⟩⟩⟩⟩⟩⟩⟩⟩⟩⟩⟩⟩⟩⟩
theorem lw_p64 : lw_okq (⟨"TwoCalendarsModel", "worstOf", "(IIIII)I"⟩, 39) := ⟨⟨by decide +kernel, by decide +kernel⟩, List.mem_of_getElem? (i := 1149) (by decide +kernel), List.mem_of_getElem? (i := 1690) (by decide +kernel), List.mem_of_getElem? (i := 1691) (by decide +kernel)⟩
theorem lw_p65 : lw_okq (⟨"TwoCalendarsModel", "holdOn", "(I)I"⟩, 39) := ⟨⟨by decide +kernel, by decide +kernel⟩, List.mem_of_getElem? (i := 1149) (by decide +kernel), List.mem_of_getElem? (i := 1702) (by decide +kernel), List.mem_of_getElem? (i := 1703) (by decide +kernel)⟩
theorem lw_p66 : lw_okq (⟨"TwoCalendarsModel", "ageOf", "(III)I"⟩, 39) := ⟨⟨by decide +kernel, by decide +kernel⟩, List.mem_of_getElem? (i := 1149) (by decide +kernel), List.mem_of_getElem? (i := 1718) (by decide +kernel), List.mem_of_getElem? (i := 1719) (by decide +kernel)⟩
theorem lw_p67 : lw_okq (⟨"TwoCalendarsModel", "isClash", "(IIII)Z"⟩, 39) := ⟨⟨by decide +kernel, by decide +kernel⟩, List.mem_of_getElem? (i := 1149) (by decide +kernel), List.mem_of_getElem? (i := 1734) (by decide +kernel), List.mem_of_getElem? (i := 1735) (by decide +kernel)⟩
theorem lw_p68 : lw_okq (⟨"TwoCalendarsModel", "findClash", "(IIII)V"⟩, 39) := ⟨⟨by decide +kernel, by decide +kernel⟩, List.mem_of_getElem? (i := 1149) (by decide +kernel), List.mem_of_getElem? (i := 1738) (by decide +kernel), List.mem_of_getElem? (i := 1739) (by decide +kernel)⟩
theorem lw_p69 : lw_okq (⟨"TwoCalendarsModel", "aloneOf", "(IIII)I"⟩, 39) := ⟨⟨by decide +kernel, by decide +kernel⟩, List.mem_of_getElem? (i := 1149) (by decide +kernel), List.mem_of_getElem? (i := 1750) (by decide +kernel), List.mem_of_getElem? (i := 1751) (by decide +kernel)⟩
theorem lw_p70 : lw_okq (⟨"TwoCalendarsModel", "isBegin", "(IIIII)Z"⟩, 39) := ⟨⟨by decide +kernel, by decide +kernel⟩, List.mem_of_getElem? (i := 1149) (by decide +kernel), List.mem_of_getElem? (i := 1758) (by decide +kernel), List.mem_of_getElem? (i := 1759) (by decide +kernel)⟩
theorem lw_p71 : lw_okq (⟨"TwoCalendarsModel", "beginOf", "(IIIII)I"⟩, 39) := ⟨⟨by decide +kernel, by decide +kernel⟩, List.mem_of_getElem? (i := 1149) (by decide +kernel), List.mem_of_getElem? (i := 1763) (by decide +kernel), List.mem_of_getElem? (i := 1764) (by decide +kernel)⟩
theorem lw_p72 : lw_okq (⟨"TwoCalendarsModel", "isGame", "(IIII)Z"⟩, 39) := ⟨⟨by decide +kernel, by decide +kernel⟩, List.mem_of_getElem? (i := 1149) (by decide +kernel), List.mem_of_getElem? (i := 1775) (by decide +kernel), List.mem_of_getElem? (i := 1776) (by decide +kernel)⟩
theorem lw_p73 : lw_okq (⟨"TwoCalendarsModel", "play", "(III)V"⟩, 39) := ⟨⟨by decide +kernel, by decide +kernel⟩, List.mem_of_getElem? (i := 1149) (by decide +kernel), List.mem_of_getElem? (i := 1780) (by decide +kernel), List.mem_of_getElem? (i := 1781) (by decide +kernel)⟩
theorem lw_p74 : lw_okq (⟨"TwoCalendarsModel", "copy", "([I[I)V"⟩, 39) := ⟨⟨by decide +kernel, by decide +kernel⟩, List.mem_of_getElem? (i := 1149) (by decide +kernel), List.mem_of_getElem? (i := 1784) (by decide +kernel), List.mem_of_getElem? (i := 1785) (by decide +kernel)⟩
theorem lw_p75 : lw_okq (⟨"TwoCalendarsModel", "keepChange", "(II)V"⟩, 39) := ⟨⟨by decide +kernel, by decide +kernel⟩, List.mem_of_getElem? (i := 1149) (by decide +kernel), List.mem_of_getElem? (i := 1808) (by decide +kernel), List.mem_of_getElem? (i := 1809) (by decide +kernel)⟩
theorem lw_p76 : lw_okq (⟨"TwoCalendarsModel", "goRain", "(JIII)V"⟩, 39) := ⟨⟨by decide +kernel, by decide +kernel⟩, List.mem_of_getElem? (i := 1149) (by decide +kernel), List.mem_of_getElem? (i := 1833) (by decide +kernel), List.mem_of_getElem? (i := 1834) (by decide +kernel)⟩
def lw_privs_5 : List (MethodName × Nat) := [(⟨"TwoCalendarsModel", "worstOf", "(IIIII)I"⟩, 39), (⟨"TwoCalendarsModel", "holdOn", "(I)I"⟩, 39), (⟨"TwoCalendarsModel", "ageOf", "(III)I"⟩, 39), (⟨"TwoCalendarsModel", "isClash", "(IIII)Z"⟩, 39), (⟨"TwoCalendarsModel", "findClash", "(IIII)V"⟩, 39), (⟨"TwoCalendarsModel", "aloneOf", "(IIII)I"⟩, 39), (⟨"TwoCalendarsModel", "isBegin", "(IIIII)Z"⟩, 39), (⟨"TwoCalendarsModel", "beginOf", "(IIIII)I"⟩, 39), (⟨"TwoCalendarsModel", "isGame", "(IIII)Z"⟩, 39), (⟨"TwoCalendarsModel", "play", "(III)V"⟩, 39), (⟨"TwoCalendarsModel", "copy", "([I[I)V"⟩, 39), (⟨"TwoCalendarsModel", "keepChange", "(II)V"⟩, 39), (⟨"TwoCalendarsModel", "goRain", "(JIII)V"⟩, 39)]
theorem lw_r5 : ∀ q ∈ lw_privs_5, lw_okq q := List.forall_mem_cons.mpr ⟨lw_p64, List.forall_mem_cons.mpr ⟨lw_p65, List.forall_mem_cons.mpr ⟨lw_p66, List.forall_mem_cons.mpr ⟨lw_p67, List.forall_mem_cons.mpr ⟨lw_p68, List.forall_mem_cons.mpr ⟨lw_p69, List.forall_mem_cons.mpr ⟨lw_p70, List.forall_mem_cons.mpr ⟨lw_p71, List.forall_mem_cons.mpr ⟨lw_p72, List.forall_mem_cons.mpr ⟨lw_p73, List.forall_mem_cons.mpr ⟨lw_p74, List.forall_mem_cons.mpr ⟨lw_p75, List.forall_mem_cons.mpr ⟨lw_p76, fun _ h => absurd h List.not_mem_nil⟩⟩⟩⟩⟩⟩⟩⟩⟩⟩⟩⟩⟩
def lw_privs : List (MethodName × Nat) := lw_privs_1 ++ (lw_privs_2 ++ (lw_privs_3 ++ (lw_privs_4 ++ (lw_privs_5))))
def lw_tbl : List Cond := k2_sels lw_privs ++ tables_1
theorem lw_privs_ok : ∀ q ∈ lw_privs, lw_okq q := by
  show ∀ q ∈ lw_privs_1 ++ (lw_privs_2 ++ (lw_privs_3 ++ (lw_privs_4 ++ (lw_privs_5)))), lw_okq q
  exact List.forall_mem_append.mpr ⟨lw_r1, List.forall_mem_append.mpr ⟨lw_r2, List.forall_mem_append.mpr ⟨lw_r3, List.forall_mem_append.mpr ⟨lw_r4, lw_r5⟩⟩⟩⟩
end
section
def RX0 : String := "TwoCalendars$Almanac"
def TX0 : u_T := fun k => match k with
  | 0 => ("TwoCalendars$Almanac", "dates", "[I", true)
  | 1 => ("TwoCalendars$Almanac", "reasons", "[B", true)
  | 2 => ("TwoCalendars$Almanac", "fighters", "[B", true)
  | 3 => ("TwoCalendars$Almanac", "datesStale", "Z", false)
  | 4 => ("TwoCalendars$Almanac", "reasonsStale", "I", false)
  | 5 => ("TwoCalendars$Almanac", "waitLength", "I", false)
  | 6 => ("TwoCalendars$Almanac", "waitStart", "I", false)
  | 7 => ("TwoCalendars$Almanac", "bestDay", "I", false)
  | _ => ("TwoCalendars$Almanac", "mostAlone", "I", false)
def tyX0 : Nat → FieldType := fun k => match k with
  | 0 => .array .int
  | 1 => .array .byte
  | 2 => .array .byte
  | 3 => .boolean
  | 4 => .int
  | 5 => .int
  | 6 => .int
  | 7 => .int
  | _ => .int
theorem nmX0 : ∀ a, a < 9 → ∀ b, b < 9 → a ≠ b → (TX0 a).2.1 ≠ (TX0 b).2.1 := by decide +kernel
theorem tyX0_ok : ∀ k, k < 9 → parseFieldDescriptor (TX0 k).2.2.1 = some (tyX0 k) := by decide +kernel
abbrev cX0_init : ByteArray := prog_2_method_1_code
def yX0_init : MethodName := ⟨RX0, "<init>", "()V"⟩
abbrev cX0_forgetAll : ByteArray := prog_2_method_2_code
def yX0_forgetAll : MethodName := ⟨RX0, "forgetAll", "()V"⟩
abbrev cX0_forgetReasons : ByteArray := prog_2_method_3_code
def yX0_forgetReasons : MethodName := ⟨RX0, "forgetReasons", "(I)V"⟩
abbrev cX0_bringUpToDate : ByteArray := prog_2_method_4_code
def yX0_bringUpToDate : MethodName := ⟨RX0, "bringUpToDate", "(LTwoCalendars$War;)V"⟩
abbrev cX0_fillDates : ByteArray := prog_2_method_5_code
def yX0_fillDates : MethodName := ⟨RX0, "fillDates", "(LTwoCalendars$Land;I)V"⟩
abbrev cX0_fillReasons : ByteArray := prog_2_method_6_code
def yX0_fillReasons : MethodName := ⟨RX0, "fillReasons", "(LTwoCalendars$War;I)V"⟩
abbrev cX0_markFeast : ByteArray := prog_2_method_7_code
def yX0_markFeast : MethodName := ⟨RX0, "markFeast", "(LTwoCalendars$Land;IIII)V"⟩
abbrev cX0_markReason : ByteArray := prog_2_method_8_code
def yX0_markReason : MethodName := ⟨RX0, "markReason", "(IIII)V"⟩
abbrev cX0_fillFighters : ByteArray := prog_2_method_9_code
def yX0_fillFighters : MethodName := ⟨RX0, "fillFighters", "(I)V"⟩
abbrev cX0_reason : ByteArray := prog_2_method_10_code
def yX0_reason : MethodName := ⟨RX0, "reason", "(II)I"⟩
abbrev cX0_part : ByteArray := prog_2_method_11_code
def yX0_part : MethodName := ⟨RX0, "part", "(III)I"⟩
abbrev cX0_monthDay : ByteArray := prog_2_method_12_code
def yX0_monthDay : MethodName := ⟨RX0, "monthDay", "(II)I"⟩
abbrev cX0_allFight : ByteArray := prog_2_method_13_code
def yX0_allFight : MethodName := ⟨RX0, "allFight", "(II)Z"⟩
abbrev cX0_fightingDays : ByteArray := prog_2_method_14_code
def yX0_fightingDays : MethodName := ⟨RX0, "fightingDays", "(III)I"⟩
abbrev cX0_seekWait : ByteArray := prog_2_method_15_code
def yX0_seekWait : MethodName := ⟨RX0, "seekWait", "(IIII)V"⟩
abbrev cX0_ageBy : ByteArray := prog_2_method_16_code
def yX0_ageBy : MethodName := ⟨RX0, "ageBy", "(III)I"⟩
abbrev cX0_clashDay : ByteArray := prog_2_method_17_code
def yX0_clashDay : MethodName := ⟨RX0, "clashDay", "(IIII)I"⟩
abbrev cX0_aloneOn : ByteArray := prog_2_method_18_code
def yX0_aloneOn : MethodName := ⟨RX0, "aloneOn", "(III)I"⟩
abbrev cX0_daysAlone : ByteArray := prog_2_method_19_code
def yX0_daysAlone : MethodName := ⟨RX0, "daysAlone", "(IIII)I"⟩
abbrev cX0_seekBeginning : ByteArray := prog_2_method_20_code
def yX0_seekBeginning : MethodName := ⟨RX0, "seekBeginning", "(IIIII)V"⟩
def RX1 : String := "TwoCalendars$Land"
def TX1 : u_T := fun k => match k with
  | 0 => ("TwoCalendars$Land", "from", "I", false)
  | 1 => ("TwoCalendars$Land", "week", "I", false)
  | 2 => ("TwoCalendars$Land", "rests", "I", false)
  | 3 => ("TwoCalendars$Land", "months", "I", false)
  | 4 => ("TwoCalendars$Land", "leap", "I", false)
  | 5 => ("TwoCalendars$Land", "longMonth", "I", false)
  | 6 => ("TwoCalendars$Land", "adds", "I", false)
  | 7 => ("TwoCalendars$Land", "yearDays", "I", false)
  | _ => ("TwoCalendars$Land", "lengths", "[I", true)
def tyX1 : Nat → FieldType := fun k => match k with
  | 0 => .int
  | 1 => .int
  | 2 => .int
  | 3 => .int
  | 4 => .int
  | 5 => .int
  | 6 => .int
  | 7 => .int
  | _ => .array .int
theorem nmX1 : ∀ a, a < 9 → ∀ b, b < 9 → a ≠ b → (TX1 a).2.1 ≠ (TX1 b).2.1 := by decide +kernel
theorem tyX1_ok : ∀ k, k < 9 → parseFieldDescriptor (TX1 k).2.2.1 = some (tyX1 k) := by decide +kernel
abbrev cX1_init : ByteArray := prog_3_method_1_code
def yX1_init : MethodName := ⟨RX1, "<init>", "()V"⟩
abbrev cX1_clear : ByteArray := prog_3_method_2_code
def yX1_clear : MethodName := ⟨RX1, "clear", "()V"⟩
abbrev cX1_copyOf : ByteArray := prog_3_method_3_code
def yX1_copyOf : MethodName := ⟨RX1, "copyOf", "(LTwoCalendars$Land;)V"⟩
abbrev cX1_appendMonth : ByteArray := prog_3_method_4_code
def yX1_appendMonth : MethodName := ⟨RX1, "appendMonth", "(I)V"⟩
abbrev cX1_hasWeekday : ByteArray := prog_3_method_5_code
def yX1_hasWeekday : MethodName := ⟨RX1, "hasWeekday", "(I)Z"⟩
abbrev cX1_isLeapYear : ByteArray := prog_3_method_6_code
def yX1_isLeapYear : MethodName := ⟨RX1, "isLeapYear", "(I)Z"⟩
abbrev cX1_lengthIn : ByteArray := prog_3_method_7_code
def yX1_lengthIn : MethodName := ⟨RX1, "lengthIn", "(II)I"⟩
abbrev cX1_leapCycle : ByteArray := prog_3_method_8_code
def yX1_leapCycle : MethodName := ⟨RX1, "leapCycle", "()I"⟩
abbrev cX1_dayOn : ByteArray := prog_3_method_9_code
def yX1_dayOn : MethodName := ⟨RX1, "dayOn", "(III)I"⟩
def RX2 : String := "TwoCalendars$Orders"
def TX2 : u_T := fun k => match k with
  | 0 => ("TwoCalendars$Orders", "lands", "[I", true)
  | 1 => ("TwoCalendars$Orders", "days", "[I", true)
  | _ => ("TwoCalendars$Orders", "size", "I", false)
def tyX2 : Nat → FieldType := fun k => match k with
  | 0 => .array .int
  | 1 => .array .int
  | _ => .int
theorem nmX2 : ∀ a, a < 3 → ∀ b, b < 3 → a ≠ b → (TX2 a).2.1 ≠ (TX2 b).2.1 := by decide +kernel
theorem tyX2_ok : ∀ k, k < 3 → parseFieldDescriptor (TX2 k).2.2.1 = some (tyX2 k) := by decide +kernel
abbrev cX2_init : ByteArray := prog_4_method_1_code
def yX2_init : MethodName := ⟨RX2, "<init>", "()V"⟩
abbrev cX2_read : ByteArray := prog_4_method_2_code
def yX2_read : MethodName := ⟨RX2, "read", "(LTwoCalendars$Row;LTwoCalendars$War;)Z"⟩
abbrev cX2_placeOfOldest : ByteArray := prog_4_method_3_code
def yX2_placeOfOldest : MethodName := ⟨RX2, "placeOfOldest", "()I"⟩
abbrev cX2_earlierThan : ByteArray := prog_4_method_4_code
def yX2_earlierThan : MethodName := ⟨RX2, "earlierThan", "(I)I"⟩
abbrev cX2_daysApart : ByteArray := prog_4_method_5_code
def yX2_daysApart : MethodName := ⟨RX2, "daysApart", "()I"⟩
abbrev cX2_datedAtRest : ByteArray := prog_4_method_6_code
def yX2_datedAtRest : MethodName := ⟨RX2, "datedAtRest", "(LTwoCalendars$Almanac;)I"⟩
def RX3 : String := "TwoCalendars$Reader"
def TX3 : u_T := fun k => match k with
  | 0 => ("TwoCalendars$Reader", "bytes", "[B", false)
  | 1 => ("TwoCalendars$Reader", "size", "I", false)
  | 2 => ("TwoCalendars$Reader", "kind", "I", false)
  | 3 => ("TwoCalendars$Reader", "start", "I", false)
  | 4 => ("TwoCalendars$Reader", "stop", "I", false)
  | 5 => ("TwoCalendars$Reader", "value", "I", false)
  | 6 => ("TwoCalendars$Reader", "fault", "I", false)
  | _ => ("TwoCalendars$Reader", "faultAt", "I", false)
def tyX3 : Nat → FieldType := fun k => match k with
  | 0 => .array .byte
  | 1 => .int
  | 2 => .int
  | 3 => .int
  | 4 => .int
  | 5 => .int
  | 6 => .int
  | _ => .int
theorem nmX3 : ∀ a, a < 8 → ∀ b, b < 8 → a ≠ b → (TX3 a).2.1 ≠ (TX3 b).2.1 := by decide +kernel
theorem tyX3_ok : ∀ k, k < 8 → parseFieldDescriptor (TX3 k).2.2.1 = some (tyX3 k) := by decide +kernel
abbrev cX3_init : ByteArray := prog_5_method_1_code
def yX3_init : MethodName := ⟨RX3, "<init>", "()V"⟩
abbrev cX3_read : ByteArray := prog_5_method_2_code
def yX3_read : MethodName := ⟨RX3, "read", "(LTwoCalendars$Tape;LTwoCalendars$War;)V"⟩
abbrev cX3_readLine : ByteArray := prog_5_method_3_code
def yX3_readLine : MethodName := ⟨RX3, "readLine", "(LTwoCalendars$War;)V"⟩
abbrev cX3_startLine : ByteArray := prog_5_method_4_code
def yX3_startLine : MethodName := ⟨RX3, "startLine", "(Z)V"⟩
abbrev cX3_readRain : ByteArray := prog_5_method_5_code
def yX3_readRain : MethodName := ⟨RX3, "readRain", "(LTwoCalendars$War;)V"⟩
abbrev cX3_readLand : ByteArray := prog_5_method_6_code
def yX3_readLand : MethodName := ⟨RX3, "readLand", "(LTwoCalendars$War;)V"⟩
abbrev cX3_readMonths : ByteArray := prog_5_method_7_code
def yX3_readMonths : MethodName := ⟨RX3, "readMonths", "(LTwoCalendars$Land;)V"⟩
abbrev cX3_readFeast : ByteArray := prog_5_method_8_code
def yX3_readFeast : MethodName := ⟨RX3, "readFeast", "(LTwoCalendars$War;)V"⟩
abbrev cX3_readTruce : ByteArray := prog_5_method_9_code
def yX3_readTruce : MethodName := ⟨RX3, "readTruce", "(LTwoCalendars$War;)V"⟩
abbrev cX3_needWord : ByteArray := prog_5_method_10_code
def yX3_needWord : MethodName := ⟨RX3, "needWord", "(Ljava/lang/String;)V"⟩
abbrev cX3_needNumber : ByteArray := prog_5_method_11_code
def yX3_needNumber : MethodName := ⟨RX3, "needNumber", "(II)I"⟩
abbrev cX3_refuse : ByteArray := prog_5_method_12_code
def yX3_refuse : MethodName := ⟨RX3, "refuse", "(I)V"⟩
abbrev cX3_isWord : ByteArray := prog_5_method_13_code
def yX3_isWord : MethodName := ⟨RX3, "isWord", "(Ljava/lang/String;)Z"⟩
abbrev cX3_step : ByteArray := prog_5_method_14_code
def yX3_step : MethodName := ⟨RX3, "step", "()V"⟩
def RX4 : String := "TwoCalendars$Row"
def TX4 : u_T := fun k => match k with
  | 0 => ("TwoCalendars$Row", "numbers", "[J", true)
  | 1 => ("TwoCalendars$Row", "made", "Z", false)
  | 2 => ("TwoCalendars$Row", "width", "I", false)
  | _ => ("TwoCalendars$Row", "size", "I", false)
def tyX4 : Nat → FieldType := fun k => match k with
  | 0 => .array .long
  | 1 => .boolean
  | 2 => .int
  | _ => .int
theorem nmX4 : ∀ a, a < 4 → ∀ b, b < 4 → a ≠ b → (TX4 a).2.1 ≠ (TX4 b).2.1 := by decide +kernel
theorem tyX4_ok : ∀ k, k < 4 → parseFieldDescriptor (TX4 k).2.2.1 = some (tyX4 k) := by decide +kernel
abbrev cX4_init : ByteArray := prog_6_method_1_code
def yX4_init : MethodName := ⟨RX4, "<init>", "()V"⟩
abbrev cX4_renew : ByteArray := prog_6_method_2_code
def yX4_renew : MethodName := ⟨RX4, "renew", "(II)V"⟩
abbrev cX4_cut : ByteArray := prog_6_method_3_code
def yX4_cut : MethodName := ⟨RX4, "cut", "(J)J"⟩
abbrev cX4_hasStretch : ByteArray := prog_6_method_4_code
def yX4_hasStretch : MethodName := ⟨RX4, "hasStretch", "(II)Z"⟩
abbrev cX4_areSmall : ByteArray := prog_6_method_5_code
def yX4_areSmall : MethodName := ⟨RX4, "areSmall", "(II)Z"⟩
def RX5 : String := "TwoCalendars$Saints"
def TX5 : u_T := fun k => match k with
  | 0 => ("TwoCalendars$Saints", "open", "[Z", true)
  | 1 => ("TwoCalendars$Saints", "fewest", "I", false)
  | _ => ("TwoCalendars$Saints", "begun", "J", false)
def tyX5 : Nat → FieldType := fun k => match k with
  | 0 => .array .boolean
  | 1 => .int
  | _ => .long
theorem nmX5 : ∀ a, a < 3 → ∀ b, b < 3 → a ≠ b → (TX5 a).2.1 ≠ (TX5 b).2.1 := by decide +kernel
theorem tyX5_ok : ∀ k, k < 3 → parseFieldDescriptor (TX5 k).2.2.1 = some (tyX5 k) := by decide +kernel
abbrev cX5_init : ByteArray := prog_7_method_1_code
def yX5_init : MethodName := ⟨RX5, "<init>", "()V"⟩
abbrev cX5_seek : ByteArray := prog_7_method_2_code
def yX5_seek : MethodName := ⟨RX5, "seek", "(LTwoCalendars$Land;LTwoCalendars$Almanac;IIIII)V"⟩
abbrev cX5_openDays : ByteArray := prog_7_method_3_code
def yX5_openDays : MethodName := ⟨RX5, "openDays", "(IILTwoCalendars$Almanac;I)V"⟩
abbrev cX5_cover : ByteArray := prog_7_method_4_code
def yX5_cover : MethodName := ⟨RX5, "cover", "(II)V"⟩
def RX6 : String := "TwoCalendars$Seen"
def TX6 : u_T := fun k => match k with
  | 0 => ("TwoCalendars$Seen", "days", "[I", true)
  | 1 => ("TwoCalendars$Seen", "size", "I", false)
  | 2 => ("TwoCalendars$Seen", "answers", "[I", true)
  | 3 => ("TwoCalendars$Seen", "question", "I", false)
  | _ => ("TwoCalendars$Seen", "left", "I", false)
def tyX6 : Nat → FieldType := fun k => match k with
  | 0 => .array .int
  | 1 => .int
  | 2 => .array .int
  | 3 => .int
  | _ => .int
theorem nmX6 : ∀ a, a < 5 → ∀ b, b < 5 → a ≠ b → (TX6 a).2.1 ≠ (TX6 b).2.1 := by decide +kernel
theorem tyX6_ok : ∀ k, k < 5 → parseFieldDescriptor (TX6 k).2.2.1 = some (tyX6 k) := by decide +kernel
abbrev cX6_init : ByteArray := prog_8_method_1_code
def yX6_init : MethodName := ⟨RX6, "<init>", "()V"⟩
abbrev cX6_isTold : ByteArray := prog_8_method_2_code
def yX6_isTold : MethodName := ⟨RX6, "isTold", "(LTwoCalendars$Row;I)Z"⟩
abbrev cX6_gather : ByteArray := prog_8_method_3_code
def yX6_gather : MethodName := ⟨RX6, "gather", "(LTwoCalendars$Row;LTwoCalendars$Almanac;II)V"⟩
abbrev cX6_fitsAll : ByteArray := prog_8_method_4_code
def yX6_fitsAll : MethodName := ⟨RX6, "fitsAll", "(LTwoCalendars$Row;LTwoCalendars$Almanac;I)Z"⟩
abbrev cX6_fightersOnAll : ByteArray := prog_8_method_5_code
def yX6_fightersOnAll : MethodName := ⟨RX6, "fightersOnAll", "(LTwoCalendars$Almanac;)I"⟩
abbrev cX6_fightersOnSome : ByteArray := prog_8_method_6_code
def yX6_fightersOnSome : MethodName := ⟨RX6, "fightersOnSome", "(LTwoCalendars$Almanac;)I"⟩
abbrev cX6_seekQuestion : ByteArray := prog_8_method_7_code
def yX6_seekQuestion : MethodName := ⟨RX6, "seekQuestion", "(LTwoCalendars$Almanac;I)V"⟩
abbrev cX6_tryQuestion : ByteArray := prog_8_method_8_code
def yX6_tryQuestion : MethodName := ⟨RX6, "tryQuestion", "(LTwoCalendars$Almanac;II)V"⟩
def RX7 : String := "TwoCalendars$Stones"
def TX7 : u_T := fun k => match k with
  | 0 => ("TwoCalendars$Stones", "turns", "[I", true)
  | 1 => ("TwoCalendars$Stones", "turnCount", "I", false)
  | 2 => ("TwoCalendars$Stones", "winners", "[I", true)
  | 3 => ("TwoCalendars$Stones", "winner", "I", false)
  | _ => ("TwoCalendars$Stones", "firstTake", "I", false)
def tyX7 : Nat → FieldType := fun k => match k with
  | 0 => .array .int
  | 1 => .int
  | 2 => .array .int
  | 3 => .int
  | _ => .int
theorem nmX7 : ∀ a, a < 5 → ∀ b, b < 5 → a ≠ b → (TX7 a).2.1 ≠ (TX7 b).2.1 := by decide +kernel
theorem tyX7_ok : ∀ k, k < 5 → parseFieldDescriptor (TX7 k).2.2.1 = some (tyX7 k) := by decide +kernel
abbrev cX7_init : ByteArray := prog_9_method_1_code
def yX7_init : MethodName := ⟨RX7, "<init>", "()V"⟩
abbrev cX7_play : ByteArray := prog_9_method_2_code
def yX7_play : MethodName := ⟨RX7, "play", "(LTwoCalendars$Almanac;IIII)V"⟩
abbrev cX7_listTurns : ByteArray := prog_9_method_3_code
def yX7_listTurns : MethodName := ⟨RX7, "listTurns", "(LTwoCalendars$Almanac;IIII)V"⟩
abbrev cX7_bestTake : ByteArray := prog_9_method_4_code
def yX7_bestTake : MethodName := ⟨RX7, "bestTake", "(II)I"⟩
abbrev cX7_worth : ByteArray := prog_9_method_5_code
def yX7_worth : MethodName := ⟨RX7, "worth", "(III)I"⟩
abbrev cX7_winnerOf : ByteArray := prog_9_method_6_code
def yX7_winnerOf : MethodName := ⟨RX7, "winnerOf", "(III)I"⟩
def RX8 : String := "TwoCalendars$Tape"
def TX8 : u_T := fun k => match k with
  | 0 => ("TwoCalendars$Tape", "bytes", "[B", true)
  | _ => ("TwoCalendars$Tape", "size", "I", false)
def tyX8 : Nat → FieldType := fun k => match k with
  | 0 => .array .byte
  | _ => .int
theorem nmX8 : ∀ a, a < 2 → ∀ b, b < 2 → a ≠ b → (TX8 a).2.1 ≠ (TX8 b).2.1 := by decide +kernel
theorem tyX8_ok : ∀ k, k < 2 → parseFieldDescriptor (TX8 k).2.2.1 = some (tyX8 k) := by decide +kernel
abbrev cX8_init : ByteArray := prog_10_method_1_code
def yX8_init : MethodName := ⟨RX8, "<init>", "()V"⟩
abbrev cX8_append : ByteArray := prog_10_method_2_code
def yX8_append : MethodName := ⟨RX8, "append", "(I)V"⟩
def RX9 : String := "TwoCalendars$War"
def TX9 : u_T := fun k => match k with
  | 0 => ("TwoCalendars$War", "lines", "I", false)
  | 1 => ("TwoCalendars$War", "rain", "I", false)
  | 2 => ("TwoCalendars$War", "landCount", "I", false)
  | 3 => ("TwoCalendars$War", "feastCount", "I", false)
  | 4 => ("TwoCalendars$War", "truceCount", "I", false)
  | 5 => ("TwoCalendars$War", "changeCount", "I", false)
  | 6 => ("TwoCalendars$War", "lands", "[LTwoCalendars$Land;", true)
  | 7 => ("TwoCalendars$War", "feasts", "[I", true)
  | 8 => ("TwoCalendars$War", "truces", "[I", true)
  | _ => ("TwoCalendars$War", "changes", "[I", true)
def tyX9 : Nat → FieldType := fun k => match k with
  | 0 => .int
  | 1 => .int
  | 2 => .int
  | 3 => .int
  | 4 => .int
  | 5 => .int
  | 6 => .array (.object "TwoCalendars$Land")
  | 7 => .array .int
  | 8 => .array .int
  | _ => .array .int
theorem nmX9 : ∀ a, a < 10 → ∀ b, b < 10 → a ≠ b → (TX9 a).2.1 ≠ (TX9 b).2.1 := by decide +kernel
theorem tyX9_ok : ∀ k, k < 10 → parseFieldDescriptor (TX9 k).2.2.1 = some (tyX9 k) := by decide +kernel
abbrev cX9_init : ByteArray := prog_11_method_1_code
def yX9_init : MethodName := ⟨RX9, "<init>", "()V"⟩
abbrev cX9_clear : ByteArray := prog_11_method_2_code
def yX9_clear : MethodName := ⟨RX9, "clear", "()V"⟩
abbrev cX9_copyOf : ByteArray := prog_11_method_3_code
def yX9_copyOf : MethodName := ⟨RX9, "copyOf", "(LTwoCalendars$War;)V"⟩
abbrev cX9_hasLand : ByteArray := prog_11_method_4_code
def yX9_hasLand : MethodName := ⟨RX9, "hasLand", "(I)Z"⟩
abbrev cX9_hasMonth : ByteArray := prog_11_method_5_code
def yX9_hasMonth : MethodName := ⟨RX9, "hasMonth", "(II)Z"⟩
abbrev cX9_hasPlainDate : ByteArray := prog_11_method_6_code
def yX9_hasPlainDate : MethodName := ⟨RX9, "hasPlainDate", "(III)Z"⟩
abbrev cX9_dayOfDate : ByteArray := prog_11_method_7_code
def yX9_dayOfDate : MethodName := ⟨RX9, "dayOfDate", "(IIII)I"⟩
abbrev cX9_insertFeast : ByteArray := prog_11_method_8_code
def yX9_insertFeast : MethodName := ⟨RX9, "insertFeast", "(IIIII)V"⟩
abbrev cX9_removeFeast : ByteArray := prog_11_method_9_code
def yX9_removeFeast : MethodName := ⟨RX9, "removeFeast", "(I)V"⟩
abbrev cX9_latestFeastOf : ByteArray := prog_11_method_10_code
def yX9_latestFeastOf : MethodName := ⟨RX9, "latestFeastOf", "(I)I"⟩
abbrev cX9_appendTruce : ByteArray := prog_11_method_11_code
def yX9_appendTruce : MethodName := ⟨RX9, "appendTruce", "(III)V"⟩
abbrev cX9_trucesOn : ByteArray := prog_11_method_12_code
def yX9_trucesOn : MethodName := ⟨RX9, "trucesOn", "(I)I"⟩
abbrev cX9_noteFounded : ByteArray := prog_11_method_13_code
def yX9_noteFounded : MethodName := ⟨RX9, "noteFounded", "()V"⟩
abbrev cX9_noteGranted : ByteArray := prog_11_method_14_code
def yX9_noteGranted : MethodName := ⟨RX9, "noteGranted", "()V"⟩
abbrev cX9_noteEnded : ByteArray := prog_11_method_15_code
def yX9_noteEnded : MethodName := ⟨RX9, "noteEnded", "(I)V"⟩
abbrev cX9_noteChange : ByteArray := prog_11_method_16_code
def yX9_noteChange : MethodName := ⟨RX9, "noteChange", "(II)V"⟩
abbrev cX9_takeBackLatest : ByteArray := prog_11_method_17_code
def yX9_takeBackLatest : MethodName := ⟨RX9, "takeBackLatest", "()I"⟩
def RX10 : String := "TwoCalendars"
def TX10 : u_T := fun k => match k with
  | 0 => ("TwoCalendars", "tape", "LTwoCalendars$Tape;", true)
  | 1 => ("TwoCalendars", "reader", "LTwoCalendars$Reader;", true)
  | 2 => ("TwoCalendars", "current", "LTwoCalendars$War;", false)
  | 3 => ("TwoCalendars", "spare", "LTwoCalendars$War;", false)
  | 4 => ("TwoCalendars", "images", "[LTwoCalendars$War;", true)
  | 5 => ("TwoCalendars", "imaged", "[Z", true)
  | 6 => ("TwoCalendars", "rows", "[LTwoCalendars$Row;", true)
  | 7 => ("TwoCalendars", "almanac", "LTwoCalendars$Almanac;", true)
  | 8 => ("TwoCalendars", "patrons", "LTwoCalendars$Saints;", true)
  | 9 => ("TwoCalendars", "orders", "LTwoCalendars$Orders;", true)
  | 10 => ("TwoCalendars", "sights", "LTwoCalendars$Seen;", true)
  | 11 => ("TwoCalendars", "stones", "LTwoCalendars$Stones;", true)
  | 12 => ("TwoCalendars", "latestFault", "I", false)
  | _ => ("TwoCalendars", "faultPlace", "I", false)
def tyX10 : Nat → FieldType := fun k => match k with
  | 0 => .object "TwoCalendars$Tape"
  | 1 => .object "TwoCalendars$Reader"
  | 2 => .object "TwoCalendars$War"
  | 3 => .object "TwoCalendars$War"
  | 4 => .array (.object "TwoCalendars$War")
  | 5 => .array .boolean
  | 6 => .array (.object "TwoCalendars$Row")
  | 7 => .object "TwoCalendars$Almanac"
  | 8 => .object "TwoCalendars$Saints"
  | 9 => .object "TwoCalendars$Orders"
  | 10 => .object "TwoCalendars$Seen"
  | 11 => .object "TwoCalendars$Stones"
  | 12 => .int
  | _ => .int
theorem nmX10 : ∀ a, a < 14 → ∀ b, b < 14 → a ≠ b → (TX10 a).2.1 ≠ (TX10 b).2.1 := by decide +kernel
theorem tyX10_ok : ∀ k, k < 14 → parseFieldDescriptor (TX10 k).2.2.1 = some (tyX10 k) := by decide +kernel
abbrev cX10_init : ByteArray := prog_1_method_1_code
def yX10_init : MethodName := ⟨RX10, "<init>", "()V"⟩
abbrev cX10_feed : ByteArray := prog_1_method_2_code
def yX10_feed : MethodName := ⟨RX10, "feed", "(IIIII)I"⟩
abbrev cX10_end : ByteArray := prog_1_method_3_code
def yX10_end : MethodName := ⟨RX10, "end", "(I)I"⟩
abbrev cX10_war : ByteArray := prog_1_method_4_code
def yX10_war : MethodName := ⟨RX10, "war", "()I"⟩
abbrev cX10_fault : ByteArray := prog_1_method_5_code
def yX10_fault : MethodName := ⟨RX10, "fault", "(I)I"⟩
abbrev cX10_land : ByteArray := prog_1_method_6_code
def yX10_land : MethodName := ⟨RX10, "land", "(II)I"⟩
abbrev cX10_month : ByteArray := prog_1_method_7_code
def yX10_month : MethodName := ⟨RX10, "month", "(III)I"⟩
abbrev cX10_feast : ByteArray := prog_1_method_8_code
def yX10_feast : MethodName := ⟨RX10, "feast", "(II)I"⟩
abbrev cX10_truce : ByteArray := prog_1_method_9_code
def yX10_truce : MethodName := ⟨RX10, "truce", "(II)I"⟩
abbrev cX10_date : ByteArray := prog_1_method_10_code
def yX10_date : MethodName := ⟨RX10, "date", "(III)I"⟩
abbrev cX10_day : ByteArray := prog_1_method_11_code
def yX10_day : MethodName := ⟨RX10, "day", "(IIII)I"⟩
abbrev cX10_may : ByteArray := prog_1_method_12_code
def yX10_may : MethodName := ⟨RX10, "may", "(II)I"⟩
abbrev cX10_why : ByteArray := prog_1_method_13_code
def yX10_why : MethodName := ⟨RX10, "why", "(II)I"⟩
abbrev cX10_who : ByteArray := prog_1_method_14_code
def yX10_who : MethodName := ⟨RX10, "who", "(I)I"⟩
abbrev cX10_next : ByteArray := prog_1_method_15_code
def yX10_next : MethodName := ⟨RX10, "next", "(II)I"⟩
abbrev cX10_many : ByteArray := prog_1_method_16_code
def yX10_many : MethodName := ⟨RX10, "many", "(III)I"⟩
abbrev cX10_waits : ByteArray := prog_1_method_17_code
def yX10_waits : MethodName := ⟨RX10, "waits", "(III)I"⟩
abbrev cX10_waiting : ByteArray := prog_1_method_18_code
def yX10_waiting : MethodName := ⟨RX10, "waiting", "(III)I"⟩
abbrev cX10_share : ByteArray := prog_1_method_19_code
def yX10_share : MethodName := ⟨RX10, "share", "(IIII)I"⟩
abbrev cX10_meets : ByteArray := prog_1_method_20_code
def yX10_meets : MethodName := ⟨RX10, "meets", "(IIIII)I"⟩
abbrev cX10_period : ByteArray := prog_1_method_21_code
def yX10_period : MethodName := ⟨RX10, "period", "(I)I"⟩
abbrev cX10_alike : ByteArray := prog_1_method_22_code
def yX10_alike : MethodName := ⟨RX10, "alike", "(III)I"⟩
abbrev cX10_years : ByteArray := prog_1_method_23_code
def yX10_years : MethodName := ⟨RX10, "years", "(I)I"⟩
abbrev cX10_comes : ByteArray := prog_1_method_24_code
def yX10_comes : MethodName := ⟨RX10, "comes", "(II)I"⟩
abbrev cX10_saints : ByteArray := prog_1_method_25_code
def yX10_saints : MethodName := ⟨RX10, "saints", "(IIIII)I"⟩
abbrev cX10_founded : ByteArray := prog_1_method_26_code
def yX10_founded : MethodName := ⟨RX10, "founded", "(IIIII)J"⟩
abbrev cX10_bridge : ByteArray := prog_1_method_27_code
def yX10_bridge : MethodName := ⟨RX10, "bridge", "(IIII)I"⟩
abbrev cX10_bridged : ByteArray := prog_1_method_28_code
def yX10_bridged : MethodName := ⟨RX10, "bridged", "(IIII)I"⟩
abbrev cX10_oldest : ByteArray := prog_1_method_29_code
def yX10_oldest : MethodName := ⟨RX10, "oldest", "(I)I"⟩
abbrev cX10_older : ByteArray := prog_1_method_30_code
def yX10_older : MethodName := ⟨RX10, "older", "(II)I"⟩
abbrev cX10_apart : ByteArray := prog_1_method_31_code
def yX10_apart : MethodName := ⟨RX10, "apart", "(I)I"⟩
abbrev cX10_idle : ByteArray := prog_1_method_32_code
def yX10_idle : MethodName := ⟨RX10, "idle", "(I)I"⟩
abbrev cX10_fits : ByteArray := prog_1_method_33_code
def yX10_fits : MethodName := ⟨RX10, "fits", "(III)I"⟩
abbrev cX10_fit : ByteArray := prog_1_method_34_code
def yX10_fit : MethodName := ⟨RX10, "fit", "(IIII)I"⟩
abbrev cX10_sure : ByteArray := prog_1_method_35_code
def yX10_sure : MethodName := ⟨RX10, "sure", "(IIII)I"⟩
abbrev cX10_ask : ByteArray := prog_1_method_36_code
def yX10_ask : MethodName := ⟨RX10, "ask", "(III)I"⟩
abbrev cX10_leaves : ByteArray := prog_1_method_37_code
def yX10_leaves : MethodName := ⟨RX10, "leaves", "(III)I"⟩
abbrev cX10_holds : ByteArray := prog_1_method_38_code
def yX10_holds : MethodName := ⟨RX10, "holds", "(I)I"⟩
abbrev cX10_overlap : ByteArray := prog_1_method_39_code
def yX10_overlap : MethodName := ⟨RX10, "overlap", "(II)I"⟩
abbrev cX10_most : ByteArray := prog_1_method_40_code
def yX10_most : MethodName := ⟨RX10, "most", "()I"⟩
abbrev cX10_age : ByteArray := prog_1_method_41_code
def yX10_age : MethodName := ⟨RX10, "age", "(III)I"⟩
abbrev cX10_gains : ByteArray := prog_1_method_42_code
def yX10_gains : MethodName := ⟨RX10, "gains", "(IIII)I"⟩
abbrev cX10_march : ByteArray := prog_1_method_43_code
def yX10_march : MethodName := ⟨RX10, "march", "(III)I"⟩
abbrev cX10_clash : ByteArray := prog_1_method_44_code
def yX10_clash : MethodName := ⟨RX10, "clash", "(IIII)I"⟩
abbrev cX10_place : ByteArray := prog_1_method_45_code
def yX10_place : MethodName := ⟨RX10, "place", "(IIII)I"⟩
abbrev cX10_alone : ByteArray := prog_1_method_46_code
def yX10_alone : MethodName := ⟨RX10, "alone", "(IIII)I"⟩
abbrev cX10_begin : ByteArray := prog_1_method_47_code
def yX10_begin : MethodName := ⟨RX10, "begin", "(IIIII)I"⟩
abbrev cX10_begins : ByteArray := prog_1_method_48_code
def yX10_begins : MethodName := ⟨RX10, "begins", "(IIIII)I"⟩
abbrev cX10_game : ByteArray := prog_1_method_49_code
def yX10_game : MethodName := ⟨RX10, "game", "(IIII)I"⟩
abbrev cX10_takes : ByteArray := prog_1_method_50_code
def yX10_takes : MethodName := ⟨RX10, "takes", "(IIII)I"⟩
abbrev cX10_found : ByteArray := prog_1_method_51_code
def yX10_found : MethodName := ⟨RX10, "found", "(IIII)I"⟩
abbrev cX10_grant : ByteArray := prog_1_method_52_code
def yX10_grant : MethodName := ⟨RX10, "grant", "(III)I"⟩
abbrev cX10_ends : ByteArray := prog_1_method_53_code
def yX10_ends : MethodName := ⟨RX10, "ends", "(I)I"⟩
abbrev cX10_undo : ByteArray := prog_1_method_54_code
def yX10_undo : MethodName := ⟨RX10, "undo", "()I"⟩
abbrev cX10_drawn : ByteArray := prog_1_method_55_code
def yX10_drawn : MethodName := ⟨RX10, "drawn", "(IIII)I"⟩
abbrev cX10_luck : ByteArray := prog_1_method_56_code
def yX10_luck : MethodName := ⟨RX10, "luck", "(IIIII)I"⟩
abbrev cX10_count : ByteArray := prog_1_method_57_code
def yX10_count : MethodName := ⟨RX10, "count", "(I)I"⟩
abbrev cX10_image : ByteArray := prog_1_method_58_code
def yX10_image : MethodName := ⟨RX10, "image", "(I)I"⟩
abbrev cX10_back : ByteArray := prog_1_method_59_code
def yX10_back : MethodName := ⟨RX10, "back", "(I)I"⟩
abbrev cX10_row : ByteArray := prog_1_method_60_code
def yX10_row : MethodName := ⟨RX10, "row", "(III)I"⟩
abbrev cX10_write : ByteArray := prog_1_method_61_code
def yX10_write : MethodName := ⟨RX10, "write", "(IIJ)I"⟩
abbrev cX10_paste : ByteArray := prog_1_method_62_code
def yX10_paste : MethodName := ⟨RX10, "paste", "(IIIII)I"⟩
abbrev cX10_isDay : ByteArray := prog_1_method_63_code
def yX10_isDay : MethodName := ⟨RX10, "isDay", "(I)Z"⟩
abbrev cX10_isYear : ByteArray := prog_1_method_64_code
def yX10_isYear : MethodName := ⟨RX10, "isYear", "(I)Z"⟩
abbrev cX10_isSpan : ByteArray := prog_1_method_65_code
def yX10_isSpan : MethodName := ⟨RX10, "isSpan", "(II)Z"⟩
abbrev cX10_isSlot : ByteArray := prog_1_method_66_code
def yX10_isSlot : MethodName := ⟨RX10, "isSlot", "(I)Z"⟩
abbrev cX10_isRain : ByteArray := prog_1_method_67_code
def yX10_isRain : MethodName := ⟨RX10, "isRain", "(III)Z"⟩
abbrev cX10_isDayOfWar : ByteArray := prog_1_method_68_code
def yX10_isDayOfWar : MethodName := ⟨RX10, "isDayOfWar", "(I)Z"⟩
abbrev cX10_isLandAndDay : ByteArray := prog_1_method_69_code
def yX10_isLandAndDay : MethodName := ⟨RX10, "isLandAndDay", "(II)Z"⟩
abbrev cX10_isPair : ByteArray := prog_1_method_70_code
def yX10_isPair : MethodName := ⟨RX10, "isPair", "(II)Z"⟩
abbrev cX10_isPairAndDay : ByteArray := prog_1_method_71_code
def yX10_isPairAndDay : MethodName := ⟨RX10, "isPairAndDay", "(III)Z"⟩
abbrev cX10_isSetInSpan : ByteArray := prog_1_method_72_code
def yX10_isSetInSpan : MethodName := ⟨RX10, "isSetInSpan", "(III)Z"⟩
abbrev cX10_isSaintly : ByteArray := prog_1_method_73_code
def yX10_isSaintly : MethodName := ⟨RX10, "isSaintly", "(IIIII)Z"⟩
abbrev cX10_commonDivisor : ByteArray := prog_1_method_74_code
def yX10_commonDivisor : MethodName := ⟨RX10, "commonDivisor", "(II)I"⟩
abbrev cX10_nextDraw : ByteArray := prog_1_method_75_code
def yX10_nextDraw : MethodName := ⟨RX10, "nextDraw", "(J)J"⟩
abbrev cX10_isWet : ByteArray := prog_1_method_76_code
def yX10_isWet : MethodName := ⟨RX10, "isWet", "(JI)Z"⟩
abbrev cX10_fightsInRain : ByteArray := prog_1_method_77_code
def yX10_fightsInRain : MethodName := ⟨RX10, "fightsInRain", "(LTwoCalendars$Almanac;JIII)Z"⟩
abbrev cX10_told : ByteArray := prog_1_method_78_code
def yX10_told : MethodName := ⟨RX10, "told", "()LTwoCalendars$Almanac;"⟩
abbrev cX10_slotsWithRow : ByteArray := prog_1_method_79_code
def yX10_slotsWithRow : MethodName := ⟨RX10, "slotsWithRow", "()I"⟩
abbrev cX10_readOrders : ByteArray := prog_1_method_80_code
def yX10_readOrders : MethodName := ⟨RX10, "readOrders", "(I)I"⟩
abbrev cX10_readSights : ByteArray := prog_1_method_81_code
def yX10_readSights : MethodName := ⟨RX10, "readSights", "(III)I"⟩
def RX11 : String := "TwoCalendarsModel"
def TX11 : u_T := fun k => match k with
  | 0 => ("TwoCalendarsModel", "thrown", "I", false)
  | 1 => ("TwoCalendarsModel", "world", "[I", true)
  | 2 => ("TwoCalendarsModel", "images", "[I", true)
  | 3 => ("TwoCalendarsModel", "hasImage", "[Z", true)
  | 4 => ("TwoCalendarsModel", "tape", "[B", true)
  | 5 => ("TwoCalendarsModel", "taped", "I", false)
  | 6 => ("TwoCalendarsModel", "five", "[I", true)
  | 7 => ("TwoCalendarsModel", "size", "I", false)
  | 8 => ("TwoCalendarsModel", "at", "I", false)
  | 9 => ("TwoCalendarsModel", "from", "I", false)
  | 10 => ("TwoCalendarsModel", "token", "I", false)
  | 11 => ("TwoCalendarsModel", "value", "I", false)
  | 12 => ("TwoCalendarsModel", "faultKind", "I", false)
  | 13 => ("TwoCalendarsModel", "faultPlace", "I", false)
  | 14 => ("TwoCalendarsModel", "fresh", "[I", true)
  | 15 => ("TwoCalendarsModel", "yearOf", "[I", true)
  | 16 => ("TwoCalendarsModel", "monthOf", "[I", true)
  | 17 => ("TwoCalendarsModel", "dayOf", "[I", true)
  | 18 => ("TwoCalendarsModel", "whyNot", "[I", true)
  | 19 => ("TwoCalendarsModel", "waitMost", "I", false)
  | 20 => ("TwoCalendarsModel", "waitFrom", "I", false)
  | 21 => ("TwoCalendarsModel", "isLeft", "[Z", true)
  | 22 => ("TwoCalendarsModel", "saintsMany", "I", false)
  | 23 => ("TwoCalendarsModel", "saintsSet", "J", false)
  | 24 => ("TwoCalendarsModel", "answers", "[I", true)
  | 25 => ("TwoCalendarsModel", "askWorst", "I", false)
  | 26 => ("TwoCalendarsModel", "clashDay", "I", false)
  | 27 => ("TwoCalendarsModel", "clashPlace", "I", false)
  | 28 => ("TwoCalendarsModel", "beginMost", "I", false)
  | 29 => ("TwoCalendarsModel", "wonFrom", "[I", true)
  | 30 => ("TwoCalendarsModel", "wonMid", "[I", true)
  | 31 => ("TwoCalendarsModel", "wonNew", "[I", true)
  | 32 => ("TwoCalendarsModel", "rainMany", "I", false)
  | 33 => ("TwoCalendarsModel", "fightMany", "I", false)
  | 34 => ("TwoCalendarsModel", "landMany", "I", false)
  | 35 => ("TwoCalendarsModel", "many", "[I", true)
  | 36 => ("TwoCalendarsModel", "width", "[I", true)
  | 37 => ("TwoCalendarsModel", "numbers", "[J", true)
  | _ => ("TwoCalendarsModel", "moving", "[J", true)
def tyX11 : Nat → FieldType := fun k => match k with
  | 0 => .int
  | 1 => .array .int
  | 2 => .array .int
  | 3 => .array .boolean
  | 4 => .array .byte
  | 5 => .int
  | 6 => .array .int
  | 7 => .int
  | 8 => .int
  | 9 => .int
  | 10 => .int
  | 11 => .int
  | 12 => .int
  | 13 => .int
  | 14 => .array .int
  | 15 => .array .int
  | 16 => .array .int
  | 17 => .array .int
  | 18 => .array .int
  | 19 => .int
  | 20 => .int
  | 21 => .array .boolean
  | 22 => .int
  | 23 => .long
  | 24 => .array .int
  | 25 => .int
  | 26 => .int
  | 27 => .int
  | 28 => .int
  | 29 => .array .int
  | 30 => .array .int
  | 31 => .array .int
  | 32 => .int
  | 33 => .int
  | 34 => .int
  | 35 => .array .int
  | 36 => .array .int
  | 37 => .array .long
  | _ => .array .long
theorem nmX11 : ∀ a, a < 39 → ∀ b, b < 39 → a ≠ b → (TX11 a).2.1 ≠ (TX11 b).2.1 := by decide +kernel
theorem tyX11_ok : ∀ k, k < 39 → parseFieldDescriptor (TX11 k).2.2.1 = some (tyX11 k) := by decide +kernel
abbrev cX11_init : ByteArray := prog_13_method_1_code
def yX11_init : MethodName := ⟨RX11, "<init>", "()V"⟩
abbrev cX11_in : ByteArray := prog_13_method_3_code
def yX11_in : MethodName := ⟨RX11, "in", "(JJJ)Z"⟩
abbrev cX11_bit : ByteArray := prog_13_method_4_code
def yX11_bit : MethodName := ⟨RX11, "bit", "(II)I"⟩
abbrev cX11_image : ByteArray := prog_13_method_5_code
def yX11_image : MethodName := ⟨RX11, "image", "(I)I"⟩
abbrev cX11_back : ByteArray := prog_13_method_6_code
def yX11_back : MethodName := ⟨RX11, "back", "(I)I"⟩
abbrev cX11_isWar : ByteArray := prog_13_method_7_code
def yX11_isWar : MethodName := ⟨RX11, "isWar", "()Z"⟩
abbrev cX11_isLand : ByteArray := prog_13_method_8_code
def yX11_isLand : MethodName := ⟨RX11, "isLand", "(J)Z"⟩
abbrev cX11_areTwo : ByteArray := prog_13_method_9_code
def yX11_areTwo : MethodName := ⟨RX11, "areTwo", "(II)Z"⟩
abbrev cX11_isDay : ByteArray := prog_13_method_10_code
def yX11_isDay : MethodName := ⟨RX11, "isDay", "(J)Z"⟩
abbrev cX11_isYear : ByteArray := prog_13_method_11_code
def yX11_isYear : MethodName := ⟨RX11, "isYear", "(J)Z"⟩
abbrev cX11_isSpan : ByteArray := prog_13_method_12_code
def yX11_isSpan : MethodName := ⟨RX11, "isSpan", "(II)Z"⟩
abbrev cX11_allLands : ByteArray := prog_13_method_13_code
def yX11_allLands : MethodName := ⟨RX11, "allLands", "()I"⟩
abbrev cX11_isSet : ByteArray := prog_13_method_14_code
def yX11_isSet : MethodName := ⟨RX11, "isSet", "(I)Z"⟩
abbrev cX11_of : ByteArray := prog_13_method_15_code
def yX11_of : MethodName := ⟨RX11, "of", "(II)I"⟩
abbrev cX11_isMonth : ByteArray := prog_13_method_16_code
def yX11_isMonth : MethodName := ⟨RX11, "isMonth", "(IJ)Z"⟩
abbrev cX11_lengthOf : ByteArray := prog_13_method_17_code
def yX11_lengthOf : MethodName := ⟨RX11, "lengthOf", "(III)I"⟩
abbrev cX11_yearLength : ByteArray := prog_13_method_18_code
def yX11_yearLength : MethodName := ⟨RX11, "yearLength", "(II)I"⟩
abbrev cX11_ofFeast : ByteArray := prog_13_method_19_code
def yX11_ofFeast : MethodName := ⟨RX11, "ofFeast", "(II)I"⟩
abbrev cX11_ofTruce : ByteArray := prog_13_method_20_code
def yX11_ofTruce : MethodName := ⟨RX11, "ofTruce", "(II)I"⟩
abbrev cX11_feed : ByteArray := prog_13_method_21_code
def yX11_feed : MethodName := ⟨RX11, "feed", "(IIIII)I"⟩
abbrev cX11_end : ByteArray := prog_13_method_22_code
def yX11_end : MethodName := ⟨RX11, "end", "(I)I"⟩
abbrev cX11_see : ByteArray := prog_13_method_23_code
def yX11_see : MethodName := ⟨RX11, "see", "(I)I"⟩
abbrev cX11_advance : ByteArray := prog_13_method_24_code
def yX11_advance : MethodName := ⟨RX11, "advance", "()V"⟩
abbrev cX11_good : ByteArray := prog_13_method_25_code
def yX11_good : MethodName := ⟨RX11, "good", "()Z"⟩
abbrev cX11_errs : ByteArray := prog_13_method_26_code
def yX11_errs : MethodName := ⟨RX11, "errs", "(I)V"⟩
abbrev cX11_is : ByteArray := prog_13_method_27_code
def yX11_is : MethodName := ⟨RX11, "is", "(Ljava/lang/String;)Z"⟩
abbrev cX11_takes : ByteArray := prog_13_method_28_code
def yX11_takes : MethodName := ⟨RX11, "takes", "(Ljava/lang/String;)Z"⟩
abbrev cX11_needs : ByteArray := prog_13_method_29_code
def yX11_needs : MethodName := ⟨RX11, "needs", "(Ljava/lang/String;)V"⟩
abbrev cX11_number : ByteArray := prog_13_method_30_code
def yX11_number : MethodName := ⟨RX11, "number", "(II)I"⟩
abbrev cX11_told : ByteArray := prog_13_method_31_code
def yX11_told : MethodName := ⟨RX11, "told", "(Ljava/lang/String;II)I"⟩
abbrev cX11_fault : ByteArray := prog_13_method_32_code
def yX11_fault : MethodName := ⟨RX11, "fault", "(I)I"⟩
abbrev cX11_readMonths : ByteArray := prog_13_method_33_code
def yX11_readMonths : MethodName := ⟨RX11, "readMonths", "(I)V"⟩
abbrev cX11_readLand : ByteArray := prog_13_method_34_code
def yX11_readLand : MethodName := ⟨RX11, "readLand", "()V"⟩
abbrev cX11_freshLand : ByteArray := prog_13_method_35_code
def yX11_freshLand : MethodName := ⟨RX11, "freshLand", "()I"⟩
abbrev cX11_readFeast : ByteArray := prog_13_method_36_code
def yX11_readFeast : MethodName := ⟨RX11, "readFeast", "()V"⟩
abbrev cX11_readTruce : ByteArray := prog_13_method_37_code
def yX11_readTruce : MethodName := ⟨RX11, "readTruce", "()V"⟩
abbrev cX11_readNext : ByteArray := prog_13_method_38_code
def yX11_readNext : MethodName := ⟨RX11, "readNext", "()V"⟩
abbrev cX11_readLine : ByteArray := prog_13_method_39_code
def yX11_readLine : MethodName := ⟨RX11, "readLine", "()V"⟩
abbrev cX11_war : ByteArray := prog_13_method_40_code
def yX11_war : MethodName := ⟨RX11, "war", "()I"⟩
abbrev cX11_spot : ByteArray := prog_13_method_41_code
def yX11_spot : MethodName := ⟨RX11, "spot", "(II)I"⟩
abbrev cX11_layDates : ByteArray := prog_13_method_42_code
def yX11_layDates : MethodName := ⟨RX11, "layDates", "(I)V"⟩
abbrev cX11_weekday : ByteArray := prog_13_method_43_code
def yX11_weekday : MethodName := ⟨RX11, "weekday", "(II)I"⟩
abbrev cX11_layWhy : ByteArray := prog_13_method_44_code
def yX11_layWhy : MethodName := ⟨RX11, "layWhy", "(I)V"⟩
abbrev cX11_lay : ByteArray := prog_13_method_45_code
def yX11_lay : MethodName := ⟨RX11, "lay", "()V"⟩
abbrev cX11_mayOn : ByteArray := prog_13_method_46_code
def yX11_mayOn : MethodName := ⟨RX11, "mayOn", "(II)Z"⟩
abbrev cX11_whoOn : ByteArray := prog_13_method_47_code
def yX11_whoOn : MethodName := ⟨RX11, "whoOn", "(I)I"⟩
abbrev cX11_land : ByteArray := prog_13_method_48_code
def yX11_land : MethodName := ⟨RX11, "land", "(II)I"⟩
abbrev cX11_month : ByteArray := prog_13_method_49_code
def yX11_month : MethodName := ⟨RX11, "month", "(III)I"⟩
abbrev cX11_feast : ByteArray := prog_13_method_50_code
def yX11_feast : MethodName := ⟨RX11, "feast", "(II)I"⟩
abbrev cX11_truce : ByteArray := prog_13_method_51_code
def yX11_truce : MethodName := ⟨RX11, "truce", "(II)I"⟩
abbrev cX11_dateOf : ByteArray := prog_13_method_52_code
def yX11_dateOf : MethodName := ⟨RX11, "dateOf", "(III)I"⟩
abbrev cX11_date : ByteArray := prog_13_method_53_code
def yX11_date : MethodName := ⟨RX11, "date", "(III)I"⟩
abbrev cX11_isDate : ByteArray := prog_13_method_54_code
def yX11_isDate : MethodName := ⟨RX11, "isDate", "(IJJJ)Z"⟩
abbrev cX11_dayBy : ByteArray := prog_13_method_55_code
def yX11_dayBy : MethodName := ⟨RX11, "dayBy", "(IIII)I"⟩
abbrev cX11_day : ByteArray := prog_13_method_56_code
def yX11_day : MethodName := ⟨RX11, "day", "(IIII)I"⟩
abbrev cX11_may : ByteArray := prog_13_method_57_code
def yX11_may : MethodName := ⟨RX11, "may", "(II)I"⟩
abbrev cX11_why : ByteArray := prog_13_method_58_code
def yX11_why : MethodName := ⟨RX11, "why", "(II)I"⟩
abbrev cX11_who : ByteArray := prog_13_method_59_code
def yX11_who : MethodName := ⟨RX11, "who", "(I)I"⟩
abbrev cX11_mayAll : ByteArray := prog_13_method_60_code
def yX11_mayAll : MethodName := ⟨RX11, "mayAll", "(II)Z"⟩
abbrev cX11_next : ByteArray := prog_13_method_61_code
def yX11_next : MethodName := ⟨RX11, "next", "(II)I"⟩
abbrev cX11_manyOf : ByteArray := prog_13_method_62_code
def yX11_manyOf : MethodName := ⟨RX11, "manyOf", "(III)I"⟩
abbrev cX11_many : ByteArray := prog_13_method_63_code
def yX11_many : MethodName := ⟨RX11, "many", "(III)I"⟩
abbrev cX11_findWait : ByteArray := prog_13_method_64_code
def yX11_findWait : MethodName := ⟨RX11, "findWait", "(III)V"⟩
abbrev cX11_waits : ByteArray := prog_13_method_65_code
def yX11_waits : MethodName := ⟨RX11, "waits", "(III)I"⟩
abbrev cX11_waiting : ByteArray := prog_13_method_66_code
def yX11_waiting : MethodName := ⟨RX11, "waiting", "(III)I"⟩
abbrev cX11_divisor : ByteArray := prog_13_method_67_code
def yX11_divisor : MethodName := ⟨RX11, "divisor", "(II)I"⟩
abbrev cX11_share : ByteArray := prog_13_method_68_code
def yX11_share : MethodName := ⟨RX11, "share", "(IIII)I"⟩
abbrev cX11_isWeekday : ByteArray := prog_13_method_69_code
def yX11_isWeekday : MethodName := ⟨RX11, "isWeekday", "(II)Z"⟩
abbrev cX11_meets : ByteArray := prog_13_method_70_code
def yX11_meets : MethodName := ⟨RX11, "meets", "(IIIII)I"⟩
abbrev cX11_period : ByteArray := prog_13_method_71_code
def yX11_period : MethodName := ⟨RX11, "period", "(I)I"⟩
abbrev cX11_isCounted : ByteArray := prog_13_method_72_code
def yX11_isCounted : MethodName := ⟨RX11, "isCounted", "(II)Z"⟩
abbrev cX11_alike : ByteArray := prog_13_method_73_code
def yX11_alike : MethodName := ⟨RX11, "alike", "(III)I"⟩
abbrev cX11_years : ByteArray := prog_13_method_74_code
def yX11_years : MethodName := ⟨RX11, "years", "(I)I"⟩
abbrev cX11_comes : ByteArray := prog_13_method_75_code
def yX11_comes : MethodName := ⟨RX11, "comes", "(II)I"⟩
abbrev cX11_findSaints : ByteArray := prog_13_method_76_code
def yX11_findSaints : MethodName := ⟨RX11, "findSaints", "(IIIII)V"⟩
abbrev cX11_areSaints : ByteArray := prog_13_method_77_code
def yX11_areSaints : MethodName := ⟨RX11, "areSaints", "(IIIII)Z"⟩
abbrev cX11_saints : ByteArray := prog_13_method_78_code
def yX11_saints : MethodName := ⟨RX11, "saints", "(IIIII)I"⟩
abbrev cX11_founded : ByteArray := prog_13_method_79_code
def yX11_founded : MethodName := ⟨RX11, "founded", "(IIIII)J"⟩
abbrev cX11_findBridge : ByteArray := prog_13_method_80_code
def yX11_findBridge : MethodName := ⟨RX11, "findBridge", "(IIII)V"⟩
abbrev cX11_bridge : ByteArray := prog_13_method_81_code
def yX11_bridge : MethodName := ⟨RX11, "bridge", "(IIII)I"⟩
abbrev cX11_bridged : ByteArray := prog_13_method_82_code
def yX11_bridged : MethodName := ⟨RX11, "bridged", "(IIII)I"⟩
abbrev cX11_numberAt : ByteArray := prog_13_method_83_code
def yX11_numberAt : MethodName := ⟨RX11, "numberAt", "(II)J"⟩
abbrev cX11_intAt : ByteArray := prog_13_method_84_code
def yX11_intAt : MethodName := ⟨RX11, "intAt", "(II)I"⟩
abbrev cX11_dayAt : ByteArray := prog_13_method_85_code
def yX11_dayAt : MethodName := ⟨RX11, "dayAt", "(II)I"⟩
abbrev cX11_asksOrders : ByteArray := prog_13_method_86_code
def yX11_asksOrders : MethodName := ⟨RX11, "asksOrders", "(I)I"⟩
abbrev cX11_oldest : ByteArray := prog_13_method_87_code
def yX11_oldest : MethodName := ⟨RX11, "oldest", "(I)I"⟩
abbrev cX11_older : ByteArray := prog_13_method_88_code
def yX11_older : MethodName := ⟨RX11, "older", "(II)I"⟩
abbrev cX11_apart : ByteArray := prog_13_method_89_code
def yX11_apart : MethodName := ⟨RX11, "apart", "(I)I"⟩
abbrev cX11_idle : ByteArray := prog_13_method_90_code
def yX11_idle : MethodName := ⟨RX11, "idle", "(I)I"⟩
abbrev cX11_asksSeen : ByteArray := prog_13_method_91_code
def yX11_asksSeen : MethodName := ⟨RX11, "asksSeen", "(IIIZ)I"⟩
abbrev cX11_seen : ByteArray := prog_13_method_92_code
def yX11_seen : MethodName := ⟨RX11, "seen", "(III)I"⟩
abbrev cX11_isSeen : ByteArray := prog_13_method_93_code
def yX11_isSeen : MethodName := ⟨RX11, "isSeen", "(II)Z"⟩
abbrev cX11_fitsOf : ByteArray := prog_13_method_94_code
def yX11_fitsOf : MethodName := ⟨RX11, "fitsOf", "(III)I"⟩
abbrev cX11_fits : ByteArray := prog_13_method_95_code
def yX11_fits : MethodName := ⟨RX11, "fits", "(III)I"⟩
abbrev cX11_fit : ByteArray := prog_13_method_96_code
def yX11_fit : MethodName := ⟨RX11, "fit", "(IIII)I"⟩
abbrev cX11_sure : ByteArray := prog_13_method_97_code
def yX11_sure : MethodName := ⟨RX11, "sure", "(IIII)I"⟩
abbrev cX11_worstOf : ByteArray := prog_13_method_98_code
def yX11_worstOf : MethodName := ⟨RX11, "worstOf", "(IIIII)I"⟩
abbrev cX11_askOf : ByteArray := prog_13_method_99_code
def yX11_askOf : MethodName := ⟨RX11, "askOf", "(III)I"⟩
abbrev cX11_ask : ByteArray := prog_13_method_100_code
def yX11_ask : MethodName := ⟨RX11, "ask", "(III)I"⟩
abbrev cX11_leaves : ByteArray := prog_13_method_101_code
def yX11_leaves : MethodName := ⟨RX11, "leaves", "(III)I"⟩
abbrev cX11_holdOn : ByteArray := prog_13_method_102_code
def yX11_holdOn : MethodName := ⟨RX11, "holdOn", "(I)I"⟩
abbrev cX11_holds : ByteArray := prog_13_method_103_code
def yX11_holds : MethodName := ⟨RX11, "holds", "(I)I"⟩
abbrev cX11_overlap : ByteArray := prog_13_method_104_code
def yX11_overlap : MethodName := ⟨RX11, "overlap", "(II)I"⟩
abbrev cX11_most : ByteArray := prog_13_method_105_code
def yX11_most : MethodName := ⟨RX11, "most", "()I"⟩
abbrev cX11_ageOf : ByteArray := prog_13_method_106_code
def yX11_ageOf : MethodName := ⟨RX11, "ageOf", "(III)I"⟩
abbrev cX11_age : ByteArray := prog_13_method_107_code
def yX11_age : MethodName := ⟨RX11, "age", "(III)I"⟩
abbrev cX11_gains : ByteArray := prog_13_method_108_code
def yX11_gains : MethodName := ⟨RX11, "gains", "(IIII)I"⟩
abbrev cX11_march : ByteArray := prog_13_method_109_code
def yX11_march : MethodName := ⟨RX11, "march", "(III)I"⟩
abbrev cX11_findClash : ByteArray := prog_13_method_110_code
def yX11_findClash : MethodName := ⟨RX11, "findClash", "(IIII)V"⟩
abbrev cX11_isClash : ByteArray := prog_13_method_111_code
def yX11_isClash : MethodName := ⟨RX11, "isClash", "(IIII)Z"⟩
abbrev cX11_clash : ByteArray := prog_13_method_112_code
def yX11_clash : MethodName := ⟨RX11, "clash", "(IIII)I"⟩
abbrev cX11_place : ByteArray := prog_13_method_113_code
def yX11_place : MethodName := ⟨RX11, "place", "(IIII)I"⟩
abbrev cX11_aloneOf : ByteArray := prog_13_method_114_code
def yX11_aloneOf : MethodName := ⟨RX11, "aloneOf", "(IIII)I"⟩
abbrev cX11_alone : ByteArray := prog_13_method_115_code
def yX11_alone : MethodName := ⟨RX11, "alone", "(IIII)I"⟩
abbrev cX11_beginOf : ByteArray := prog_13_method_116_code
def yX11_beginOf : MethodName := ⟨RX11, "beginOf", "(IIIII)I"⟩
abbrev cX11_isBegin : ByteArray := prog_13_method_117_code
def yX11_isBegin : MethodName := ⟨RX11, "isBegin", "(IIIII)Z"⟩
abbrev cX11_begin : ByteArray := prog_13_method_118_code
def yX11_begin : MethodName := ⟨RX11, "begin", "(IIIII)I"⟩
abbrev cX11_begins : ByteArray := prog_13_method_119_code
def yX11_begins : MethodName := ⟨RX11, "begins", "(IIIII)I"⟩
abbrev cX11_rank : ByteArray := prog_13_method_120_code
def yX11_rank : MethodName := ⟨RX11, "rank", "(II)I"⟩
abbrev cX11_behind : ByteArray := prog_13_method_121_code
def yX11_behind : MethodName := ⟨RX11, "behind", "(III[I)I"⟩
abbrev cX11_bestTake : ByteArray := prog_13_method_122_code
def yX11_bestTake : MethodName := ⟨RX11, "bestTake", "(II[I)I"⟩
abbrev cX11_turn : ByteArray := prog_13_method_123_code
def yX11_turn : MethodName := ⟨RX11, "turn", "(I[I[I)V"⟩
abbrev cX11_copy : ByteArray := prog_13_method_124_code
def yX11_copy : MethodName := ⟨RX11, "copy", "([I[I)V"⟩
abbrev cX11_play : ByteArray := prog_13_method_125_code
def yX11_play : MethodName := ⟨RX11, "play", "(III)V"⟩
abbrev cX11_isGame : ByteArray := prog_13_method_126_code
def yX11_isGame : MethodName := ⟨RX11, "isGame", "(IIII)Z"⟩
abbrev cX11_game : ByteArray := prog_13_method_127_code
def yX11_game : MethodName := ⟨RX11, "game", "(IIII)I"⟩
abbrev cX11_takes_ : ByteArray := prog_13_method_128_code
def yX11_takes_ : MethodName := ⟨RX11, "takes", "(IIII)I"⟩
abbrev cX11_keepChange : ByteArray := prog_13_method_129_code
def yX11_keepChange : MethodName := ⟨RX11, "keepChange", "(II)V"⟩
abbrev cX11_found : ByteArray := prog_13_method_130_code
def yX11_found : MethodName := ⟨RX11, "found", "(IIII)I"⟩
abbrev cX11_grant : ByteArray := prog_13_method_131_code
def yX11_grant : MethodName := ⟨RX11, "grant", "(III)I"⟩
abbrev cX11_ends : ByteArray := prog_13_method_132_code
def yX11_ends : MethodName := ⟨RX11, "ends", "(I)I"⟩
abbrev cX11_undo : ByteArray := prog_13_method_133_code
def yX11_undo : MethodName := ⟨RX11, "undo", "()I"⟩
abbrev cX11_goRain : ByteArray := prog_13_method_134_code
def yX11_goRain : MethodName := ⟨RX11, "goRain", "(JIII)V"⟩
abbrev cX11_isSeed : ByteArray := prog_13_method_135_code
def yX11_isSeed : MethodName := ⟨RX11, "isSeed", "(I)Z"⟩
abbrev cX11_drawn : ByteArray := prog_13_method_136_code
def yX11_drawn : MethodName := ⟨RX11, "drawn", "(IIII)I"⟩
abbrev cX11_luck : ByteArray := prog_13_method_137_code
def yX11_luck : MethodName := ⟨RX11, "luck", "(IIIII)I"⟩
abbrev cX11_count : ByteArray := prog_13_method_138_code
def yX11_count : MethodName := ⟨RX11, "count", "(I)I"⟩
abbrev cX11_isSlot : ByteArray := prog_13_method_139_code
def yX11_isSlot : MethodName := ⟨RX11, "isSlot", "(I)Z"⟩
abbrev cX11_cut : ByteArray := prog_13_method_140_code
def yX11_cut : MethodName := ⟨RX11, "cut", "(JI)J"⟩
abbrev cX11_row : ByteArray := prog_13_method_141_code
def yX11_row : MethodName := ⟨RX11, "row", "(III)I"⟩
abbrev cX11_write : ByteArray := prog_13_method_142_code
def yX11_write : MethodName := ⟨RX11, "write", "(IIJ)I"⟩
abbrev cX11_paste : ByteArray := prog_13_method_143_code
def yX11_paste : MethodName := ⟨RX11, "paste", "(IIIII)I"⟩
def RJ9 : String := "java/lang/Math"
abbrev cJ9_max_7cf53 : ByteArray := prog_14_method_65_code
def yJ9_max_7cf53 : MethodName := ⟨RJ9, "max", "(II)I"⟩
abbrev cJ9_min_7cf53 : ByteArray := prog_14_method_69_code
def yJ9_min_7cf53 : MethodName := ⟨RJ9, "min", "(II)I"⟩
def RJ0 : String := "java/lang/String"
abbrev cJ0_length_8abf5 : ByteArray := prog_15_method_54_code
def yJ0_length_8abf5 : MethodName := ⟨RJ0, "length", "()I"⟩
abbrev cJ0_charAt_5068e : ByteArray := prog_15_method_56_code
def yJ0_charAt_5068e : MethodName := ⟨RJ0, "charAt", "(I)C"⟩
abbrev cJ0_coder_7d493 : ByteArray := prog_15_method_152_code
def yJ0_coder_7d493 : MethodName := ⟨RJ0, "coder", "()B"⟩
abbrev cJ0_isLatin1_aae02 : ByteArray := prog_15_method_154_code
def yJ0_isLatin1_aae02 : MethodName := ⟨RJ0, "isLatin1", "()Z"⟩
abbrev cJ0_checkIndex_df160 : ByteArray := prog_15_method_155_code
def yJ0_checkIndex_df160 : MethodName := ⟨RJ0, "checkIndex", "(II)V"⟩
def RJ1 : String := "java/lang/StringLatin1"
abbrev cJ1_charAt_3b067 : ByteArray := prog_16_method_2_code
def yJ1_charAt_3b067 : MethodName := ⟨RJ1, "charAt", "([BI)C"⟩
def RJ2 : String := "java/lang/StringUTF16"
abbrev cJ2_getChar_3b067 : ByteArray := prog_17_method_5_code
def yJ2_getChar_3b067 : MethodName := ⟨RJ2, "getChar", "([BI)C"⟩
abbrev cJ2_length_9d52b : ByteArray := prog_17_method_6_code
def yJ2_length_9d52b : MethodName := ⟨RJ2, "length", "([B)I"⟩
abbrev cJ2_charAt_3b067 : ByteArray := prog_17_method_83_code
def yJ2_charAt_3b067 : MethodName := ⟨RJ2, "charAt", "([BI)C"⟩
abbrev cJ2_checkIndex_2214a : ByteArray := prog_17_method_91_code
def yJ2_checkIndex_2214a : MethodName := ⟨RJ2, "checkIndex", "(I[B)V"⟩
def RJ10 : String := "java/lang/System"
def RJ7 : String := "java/util/Arrays"
abbrev cJ7_fill_d0a16 : ByteArray := prog_19_method_101_code
def yJ7_fill_d0a16 : MethodName := ⟨RJ7, "fill", "([JJ)V"⟩
abbrev cJ7_fill_53178 : ByteArray := prog_19_method_103_code
def yJ7_fill_53178 : MethodName := ⟨RJ7, "fill", "([II)V"⟩
abbrev cJ7_fill_031fb : ByteArray := prog_19_method_109_code
def yJ7_fill_031fb : MethodName := ⟨RJ7, "fill", "([BB)V"⟩
def RJ3 : String := "jdk/internal/util/Preconditions"
abbrev cJ3_checkIndex_8e157 : ByteArray := prog_20_method_11_code
def yJ3_checkIndex_8e157 : MethodName := ⟨RJ3, "checkIndex", "(IILjava/util/function/BiFunction;)I"⟩
def RL : String := "TwoCalendarsLaw"
abbrev cL_law : ByteArray := code
def yL_law : MethodName := ⟨RL, "law", "([I)Z"⟩
end
section
/-- the shapes: kind (0 an object of class c, 1 int[], 2 byte[], 3 boolean[], 4 long[], 5 an array of references to class c), c, how many slots -/
def KTL_ : List (Nat × Nat × Nat) := [(0, 10, 14), (0, 8, 2), (2, 0, 1200), (0, 3, 8), (2, 0, 0), (0, 9, 10), (5, 1, 3), (1, 0, 48), (1, 0, 36), (1, 0, 360), (0, 1, 9), (1, 0, 8), (5, 9, 3), (3, 0, 3), (5, 4, 4), (0, 0, 9), (1, 0, 6000), (2, 0, 6000), (2, 0, 2000), (0, 5, 3), (3, 0, 69), (0, 2, 3), (1, 0, 15), (1, 0, 15), (0, 6, 5), (1, 0, 2000), (1, 0, 12), (0, 7, 5), (1, 0, 40), (1, 0, 41), (0, 4, 4), (4, 0, 60), (0, 11, 39), (1, 0, 495), (1, 0, 1485), (3, 0, 3), (2, 0, 1200), (1, 0, 5), (1, 0, 495), (1, 0, 6000), (1, 0, 6000), (1, 0, 6000), (1, 0, 6000), (3, 0, 70), (1, 0, 12), (1, 0, 41), (1, 0, 41), (1, 0, 41), (1, 0, 4), (1, 0, 4), (4, 0, 240), (4, 0, 60), (9, 0, 0), (9, 0, 0), (9, 0, 0), (9, 0, 0), (9, 0, 0), (9, 0, 0), (9, 0, 0), (9, 0, 0), (0, 0, 9), (0, 1, 9), (0, 2, 3), (0, 3, 8), (0, 4, 4), (0, 5, 3), (0, 6, 5), (0, 7, 5), (0, 8, 2), (0, 9, 10), (0, 10, 14), (0, 11, 39), (9, 0, 0), (9, 0, 0), (9, 0, 0), (9, 0, 0), (9, 0, 0), (9, 0, 0), (9, 0, 0), (9, 0, 0), (5, 1, 3), (5, 9, 3), (5, 4, 4)]
def KT_ (sh : Nat) : Nat × Nat × Nat := KTL_.getD sh (9, 0, 0)
def tys_Two (j : Nat) : Nat × Int × Int := match j with
  | 0 => (11, 0, 1000)
  | 1 => (13, 0, 1000)
  | 2 => (15, 0, 1000)
  | 3 => (15, 0, 1000)
  | 4 => (22, 0, 1000)
  | 5 => (23, 0, 1000)
  | 6 => (24, 0, 1000)
  | 7 => (25, 0, 1000)
  | 8 => (29, 0, 1000)
  | 9 => (31, 0, 1000)
  | 10 => (34, 0, 1000)
  | 11 => (37, 0, 1000)
  | 12 => (0, (-2147483648), 2147483647)
  | _ => (0, (-2147483648), 2147483647)
def tys_Tape (j : Nat) : Nat × Int × Int := match j with
  | 0 => (12, 0, 1000)
  | _ => (0, (-2147483648), 2147483647)
def tys_Reader (j : Nat) : Nat × Int × Int := match j with
  | 0 => (2, (-1), 1000)
  | 1 => (0, (-2147483648), 2147483647)
  | 2 => (0, (-2147483648), 2147483647)
  | 3 => (0, (-2147483648), 2147483647)
  | 4 => (0, (-2147483648), 2147483647)
  | 5 => (0, (-2147483648), 2147483647)
  | 6 => (0, (-2147483648), 2147483647)
  | _ => (0, (-2147483648), 2147483647)
def tys_War (j : Nat) : Nat × Int × Int := match j with
  | 0 => (0, (-2147483648), 2147483647)
  | 1 => (0, (-2147483648), 2147483647)
  | 2 => (0, (-2147483648), 2147483647)
  | 3 => (0, (-2147483648), 2147483647)
  | 4 => (0, (-2147483648), 2147483647)
  | 5 => (0, (-2147483648), 2147483647)
  | 6 => (16, 0, 1000)
  | 7 => (17, 0, 1000)
  | 8 => (18, 0, 1000)
  | _ => (19, 0, 1000)
def tys_Land (j : Nat) : Nat × Int × Int := match j with
  | 0 => (0, (-2147483648), 2147483647)
  | 1 => (0, (-2147483648), 2147483647)
  | 2 => (0, (-2147483648), 2147483647)
  | 3 => (0, (-2147483648), 2147483647)
  | 4 => (0, (-2147483648), 2147483647)
  | 5 => (0, (-2147483648), 2147483647)
  | 6 => (0, (-2147483648), 2147483647)
  | 7 => (0, (-2147483648), 2147483647)
  | _ => (21, 0, 1000)
def tys_Almanac (j : Nat) : Nat × Int × Int := match j with
  | 0 => (26, 0, 1000)
  | 1 => (27, 0, 1000)
  | 2 => (28, 0, 1000)
  | 3 => (0, 0, 1)
  | 4 => (0, (-2147483648), 2147483647)
  | 5 => (0, (-2147483648), 2147483647)
  | 6 => (0, (-2147483648), 2147483647)
  | 7 => (0, (-2147483648), 2147483647)
  | _ => (0, (-2147483648), 2147483647)
def tys_Saints (j : Nat) : Nat × Int × Int := match j with
  | 0 => (30, 0, 1000)
  | 1 => (0, (-2147483648), 2147483647)
  | _ => (1, (-9223372036854775808), 9223372036854775807)
def tys_Orders (j : Nat) : Nat × Int × Int := match j with
  | 0 => (32, 0, 1000)
  | 1 => (33, 0, 1000)
  | _ => (0, (-2147483648), 2147483647)
def tys_Seen (j : Nat) : Nat × Int × Int := match j with
  | 0 => (35, 0, 1000)
  | 1 => (0, (-2147483648), 2147483647)
  | 2 => (36, 0, 1000)
  | 3 => (0, (-2147483648), 2147483647)
  | _ => (0, (-2147483648), 2147483647)
def tys_Stones (j : Nat) : Nat × Int × Int := match j with
  | 0 => (38, 0, 1000)
  | 1 => (0, (-2147483648), 2147483647)
  | 2 => (39, 0, 1000)
  | 3 => (0, (-2147483648), 2147483647)
  | _ => (0, (-2147483648), 2147483647)
def tys_Row (j : Nat) : Nat × Int × Int := match j with
  | 0 => (41, 0, 1000)
  | 1 => (0, 0, 1)
  | 2 => (0, (-2147483648), 2147483647)
  | _ => (0, (-2147483648), 2147483647)
def tys_Model (j : Nat) : Nat × Int × Int := match j with
  | 0 => (0, (-2147483648), 2147483647)
  | 1 => (43, 0, 1000)
  | 2 => (44, 0, 1000)
  | 3 => (45, 0, 1000)
  | 4 => (46, 0, 1000)
  | 5 => (0, (-2147483648), 2147483647)
  | 6 => (47, 0, 1000)
  | 7 => (0, (-2147483648), 2147483647)
  | 8 => (0, (-2147483648), 2147483647)
  | 9 => (0, (-2147483648), 2147483647)
  | 10 => (0, (-2147483648), 2147483647)
  | 11 => (0, (-2147483648), 2147483647)
  | 12 => (0, (-2147483648), 2147483647)
  | 13 => (0, (-2147483648), 2147483647)
  | 14 => (48, 0, 1000)
  | 15 => (49, 0, 1000)
  | 16 => (50, 0, 1000)
  | 17 => (51, 0, 1000)
  | 18 => (52, 0, 1000)
  | 19 => (0, (-2147483648), 2147483647)
  | 20 => (0, (-2147483648), 2147483647)
  | 21 => (53, 0, 1000)
  | 22 => (0, (-2147483648), 2147483647)
  | 23 => (1, (-9223372036854775808), 9223372036854775807)
  | 24 => (54, 0, 1000)
  | 25 => (0, (-2147483648), 2147483647)
  | 26 => (0, (-2147483648), 2147483647)
  | 27 => (0, (-2147483648), 2147483647)
  | 28 => (0, (-2147483648), 2147483647)
  | 29 => (55, 0, 1000)
  | 30 => (56, 0, 1000)
  | 31 => (57, 0, 1000)
  | 32 => (0, (-2147483648), 2147483647)
  | 33 => (0, (-2147483648), 2147483647)
  | 34 => (0, (-2147483648), 2147483647)
  | 35 => (58, 0, 1000)
  | 36 => (59, 0, 1000)
  | 37 => (60, 0, 1000)
  | _ => (61, 0, 1000)
def tyr_Almanac (j : Nat) : Nat × Int × Int := match j with
  | 0 => (2, (-1), 1000)
  | 1 => (2, (-1), 1000)
  | 2 => (2, (-1), 1000)
  | 3 => (0, 0, 1)
  | 4 => (0, (-2147483648), 2147483647)
  | 5 => (0, (-2147483648), 2147483647)
  | 6 => (0, (-2147483648), 2147483647)
  | 7 => (0, (-2147483648), 2147483647)
  | _ => (0, (-2147483648), 2147483647)
def tyr_Land (j : Nat) : Nat × Int × Int := match j with
  | 0 => (0, (-2147483648), 2147483647)
  | 1 => (0, (-2147483648), 2147483647)
  | 2 => (0, (-2147483648), 2147483647)
  | 3 => (0, (-2147483648), 2147483647)
  | 4 => (0, (-2147483648), 2147483647)
  | 5 => (0, (-2147483648), 2147483647)
  | 6 => (0, (-2147483648), 2147483647)
  | 7 => (0, (-2147483648), 2147483647)
  | _ => (2, (-1), 1000)
def tyr_Orders (j : Nat) : Nat × Int × Int := match j with
  | 0 => (2, (-1), 1000)
  | 1 => (2, (-1), 1000)
  | _ => (0, (-2147483648), 2147483647)
def tyr_Reader (j : Nat) : Nat × Int × Int := match j with
  | 0 => (2, (-1), 1000)
  | 1 => (0, (-2147483648), 2147483647)
  | 2 => (0, (-2147483648), 2147483647)
  | 3 => (0, (-2147483648), 2147483647)
  | 4 => (0, (-2147483648), 2147483647)
  | 5 => (0, (-2147483648), 2147483647)
  | 6 => (0, (-2147483648), 2147483647)
  | _ => (0, (-2147483648), 2147483647)
def tyr_Row (j : Nat) : Nat × Int × Int := match j with
  | 0 => (2, (-1), 1000)
  | 1 => (0, 0, 1)
  | 2 => (0, (-2147483648), 2147483647)
  | _ => (0, (-2147483648), 2147483647)
def tyr_Saints (j : Nat) : Nat × Int × Int := match j with
  | 0 => (2, (-1), 1000)
  | 1 => (0, (-2147483648), 2147483647)
  | _ => (1, (-9223372036854775808), 9223372036854775807)
def tyr_Seen (j : Nat) : Nat × Int × Int := match j with
  | 0 => (2, (-1), 1000)
  | 1 => (0, (-2147483648), 2147483647)
  | 2 => (2, (-1), 1000)
  | 3 => (0, (-2147483648), 2147483647)
  | _ => (0, (-2147483648), 2147483647)
def tyr_Stones (j : Nat) : Nat × Int × Int := match j with
  | 0 => (2, (-1), 1000)
  | 1 => (0, (-2147483648), 2147483647)
  | 2 => (2, (-1), 1000)
  | 3 => (0, (-2147483648), 2147483647)
  | _ => (0, (-2147483648), 2147483647)
def tyr_Tape (j : Nat) : Nat × Int × Int := match j with
  | 0 => (2, (-1), 1000)
  | _ => (0, (-2147483648), 2147483647)
def tyr_War (j : Nat) : Nat × Int × Int := match j with
  | 0 => (0, (-2147483648), 2147483647)
  | 1 => (0, (-2147483648), 2147483647)
  | 2 => (0, (-2147483648), 2147483647)
  | 3 => (0, (-2147483648), 2147483647)
  | 4 => (0, (-2147483648), 2147483647)
  | 5 => (0, (-2147483648), 2147483647)
  | 6 => (2, (-1), 1000)
  | 7 => (2, (-1), 1000)
  | 8 => (2, (-1), 1000)
  | _ => (2, (-1), 1000)
def tyr_Two (j : Nat) : Nat × Int × Int := match j with
  | 0 => (2, (-1), 1000)
  | 1 => (2, (-1), 1000)
  | 2 => (2, (-1), 1000)
  | 3 => (2, (-1), 1000)
  | 4 => (2, (-1), 1000)
  | 5 => (2, (-1), 1000)
  | 6 => (2, (-1), 1000)
  | 7 => (2, (-1), 1000)
  | 8 => (2, (-1), 1000)
  | 9 => (2, (-1), 1000)
  | 10 => (2, (-1), 1000)
  | 11 => (2, (-1), 1000)
  | 12 => (0, (-2147483648), 2147483647)
  | _ => (0, (-2147483648), 2147483647)
def tyr_Model (j : Nat) : Nat × Int × Int := match j with
  | 0 => (0, (-2147483648), 2147483647)
  | 1 => (2, (-1), 1000)
  | 2 => (2, (-1), 1000)
  | 3 => (2, (-1), 1000)
  | 4 => (2, (-1), 1000)
  | 5 => (0, (-2147483648), 2147483647)
  | 6 => (2, (-1), 1000)
  | 7 => (0, (-2147483648), 2147483647)
  | 8 => (0, (-2147483648), 2147483647)
  | 9 => (0, (-2147483648), 2147483647)
  | 10 => (0, (-2147483648), 2147483647)
  | 11 => (0, (-2147483648), 2147483647)
  | 12 => (0, (-2147483648), 2147483647)
  | 13 => (0, (-2147483648), 2147483647)
  | 14 => (2, (-1), 1000)
  | 15 => (2, (-1), 1000)
  | 16 => (2, (-1), 1000)
  | 17 => (2, (-1), 1000)
  | 18 => (2, (-1), 1000)
  | 19 => (0, (-2147483648), 2147483647)
  | 20 => (0, (-2147483648), 2147483647)
  | 21 => (2, (-1), 1000)
  | 22 => (0, (-2147483648), 2147483647)
  | 23 => (1, (-9223372036854775808), 9223372036854775807)
  | 24 => (2, (-1), 1000)
  | 25 => (0, (-2147483648), 2147483647)
  | 26 => (0, (-2147483648), 2147483647)
  | 27 => (0, (-2147483648), 2147483647)
  | 28 => (0, (-2147483648), 2147483647)
  | 29 => (2, (-1), 1000)
  | 30 => (2, (-1), 1000)
  | 31 => (2, (-1), 1000)
  | 32 => (0, (-2147483648), 2147483647)
  | 33 => (0, (-2147483648), 2147483647)
  | 34 => (0, (-2147483648), 2147483647)
  | 35 => (2, (-1), 1000)
  | 36 => (2, (-1), 1000)
  | 37 => (2, (-1), 1000)
  | _ => (2, (-1), 1000)
/-- the type of slot j of a shape: tag, least, greatest -/
def ty_ (sh j : Nat) : Nat × Int × Int := match sh with
  | 0 => tys_Two j
  | 1 => tys_Tape j
  | 2 => (0, (-128), 127)
  | 3 => tys_Reader j
  | 4 => (0, (-128), 127)
  | 5 => tys_War j
  | 6 => (20, 0, 1000)
  | 7 => (0, (-2147483648), 2147483647)
  | 8 => (0, (-2147483648), 2147483647)
  | 9 => (0, (-2147483648), 2147483647)
  | 10 => tys_Land j
  | 11 => (0, (-2147483648), 2147483647)
  | 12 => (15, 0, 1000)
  | 13 => (0, 0, 1)
  | 14 => (40, 0, 1000)
  | 15 => tys_Almanac j
  | 16 => (0, (-2147483648), 2147483647)
  | 17 => (0, (-128), 127)
  | 18 => (0, (-128), 127)
  | 19 => tys_Saints j
  | 20 => (0, 0, 1)
  | 21 => tys_Orders j
  | 22 => (0, (-2147483648), 2147483647)
  | 23 => (0, (-2147483648), 2147483647)
  | 24 => tys_Seen j
  | 25 => (0, (-2147483648), 2147483647)
  | 26 => (0, (-2147483648), 2147483647)
  | 27 => tys_Stones j
  | 28 => (0, (-2147483648), 2147483647)
  | 29 => (0, (-2147483648), 2147483647)
  | 30 => tys_Row j
  | 31 => (1, (-9223372036854775808), 9223372036854775807)
  | 32 => tys_Model j
  | 33 => (0, (-2147483648), 2147483647)
  | 34 => (0, (-2147483648), 2147483647)
  | 35 => (0, 0, 1)
  | 36 => (0, (-128), 127)
  | 37 => (0, (-2147483648), 2147483647)
  | 38 => (0, (-2147483648), 2147483647)
  | 39 => (0, (-2147483648), 2147483647)
  | 40 => (0, (-2147483648), 2147483647)
  | 41 => (0, (-2147483648), 2147483647)
  | 42 => (0, (-2147483648), 2147483647)
  | 43 => (0, 0, 1)
  | 44 => (0, (-2147483648), 2147483647)
  | 45 => (0, (-2147483648), 2147483647)
  | 46 => (0, (-2147483648), 2147483647)
  | 47 => (0, (-2147483648), 2147483647)
  | 48 => (0, (-2147483648), 2147483647)
  | 49 => (0, (-2147483648), 2147483647)
  | 50 => (1, (-9223372036854775808), 9223372036854775807)
  | 51 => (1, (-9223372036854775808), 9223372036854775807)
  | 60 => tyr_Almanac j
  | 61 => tyr_Land j
  | 62 => tyr_Orders j
  | 63 => tyr_Reader j
  | 64 => tyr_Row j
  | 65 => tyr_Saints j
  | 66 => tyr_Seen j
  | 67 => tyr_Stones j
  | 68 => tyr_Tape j
  | 69 => tyr_War j
  | 70 => tyr_Two j
  | 71 => tyr_Model j
  | 80 => (2, (-1), 1000)
  | 81 => (2, (-1), 1000)
  | 82 => (2, (-1), 1000)
  | _ => (9, 0, 0)
def rt_Two (k : Int) (j : Nat) : Option Int := match j with
  | 0 => some (1)
  | 1 => some (3)
  | 4 => some (27)
  | 5 => some (28)
  | 6 => some (29)
  | 7 => some (30)
  | 8 => some (34)
  | 9 => some (36)
  | 10 => some (39)
  | 11 => some (42)
  | _ => none
def rt_Tape (k : Int) (j : Nat) : Option Int := match j with
  | 0 => some (2)
  | _ => none
def rt_War (k : Int) (j : Nat) : Option Int := match j with
  | 6 => some (k + 1)
  | 7 => some (k + 2)
  | 8 => some (k + 3)
  | 9 => some (k + 4)
  | _ => none
def rt_Land (k : Int) (j : Nat) : Option Int := match j with
  | 8 => some (k + 1)
  | _ => none
def rt_Almanac (k : Int) (j : Nat) : Option Int := match j with
  | 0 => some (31)
  | 1 => some (32)
  | 2 => some (33)
  | _ => none
def rt_Saints (k : Int) (j : Nat) : Option Int := match j with
  | 0 => some (35)
  | _ => none
def rt_Orders (k : Int) (j : Nat) : Option Int := match j with
  | 0 => some (37)
  | 1 => some (38)
  | _ => none
def rt_Seen (k : Int) (j : Nat) : Option Int := match j with
  | 0 => some (40)
  | 2 => some (41)
  | _ => none
def rt_Stones (k : Int) (j : Nat) : Option Int := match j with
  | 0 => some (43)
  | 2 => some (44)
  | _ => none
def rt_Row (k : Int) (j : Nat) : Option Int := match j with
  | 0 => some (k + 1)
  | _ => none
def rt_Model (k : Int) (j : Nat) : Option Int := match j with
  | 1 => some (87)
  | 2 => some (88)
  | 3 => some (89)
  | 4 => some (90)
  | 6 => some (91)
  | 14 => some (92)
  | 15 => some (93)
  | 16 => some (94)
  | 17 => some (95)
  | 18 => some (96)
  | 21 => some (97)
  | 24 => some (98)
  | 29 => some (99)
  | 30 => some (100)
  | 31 => some (101)
  | 35 => some (102)
  | 36 => some (103)
  | 37 => some (104)
  | 38 => some (105)
  | _ => none
/-- the object that a reference of object k of a shape is (slot j, or place z of an array), where it is always the same -/
def rt_ (sh : Nat) (k : Int) (j : Nat) (z : Int) : Option Int := match sh with
  | 0 => rt_Two k j
  | 1 => rt_Tape k j
  | 5 => rt_War k j
  | 6 => some (k + 4 + 2 * z)
  | 10 => rt_Land k j
  | 12 => some (45 + 11 * z)
  | 14 => some (78 + 2 * z)
  | 15 => rt_Almanac k j
  | 19 => rt_Saints k j
  | 21 => rt_Orders k j
  | 24 => rt_Seen k j
  | 27 => rt_Stones k j
  | 30 => rt_Row k j
  | 32 => rt_Model k j
  | _ => none
def warS_ : List Nat := [5, 6, 7, 8, 9, 10, 11, 10, 11, 10, 11]
def SHS_ : List Nat := [0, 1, 2, 3, 4, 5, 6, 7, 8, 9, 10, 11, 10, 11, 10, 11, 5, 6, 7, 8, 9, 10, 11, 10, 11, 10, 11, 12, 13, 14, 15, 16, 17, 18, 19, 20, 21, 22, 23, 24, 25, 26, 27, 28, 29, 5, 6, 7, 8, 9, 10, 11, 10, 11, 10, 11, 5, 6, 7, 8, 9, 10, 11, 10, 11, 10, 11, 5, 6, 7, 8, 9, 10, 11, 10, 11, 10, 11, 30, 31, 30, 31, 30, 31, 30, 31, 32, 33, 34, 35, 36, 37, 38, 39, 40, 41, 42, 43, 44, 45, 46, 47, 48, 49, 50, 51]
abbrev cls_ : List vw_C := [(RX0, TX0, 9), (RX1, TX1, 9), (RX2, TX2, 3), (RX3, TX3, 8), (RX4, TX4, 4), (RX5, TX5, 3), (RX6, TX6, 5), (RX7, TX7, 5), (RX8, TX8, 2), (RX9, TX9, 10), (RX10, TX10, 14), (RX11, TX11, 39)]
def tyF_ (c j : Nat) : FieldType := match c with
  | 0 => tyX0 j
  | 1 => tyX1 j
  | 2 => tyX2 j
  | 3 => tyX3 j
  | 4 => tyX4 j
  | 5 => tyX5 j
  | 6 => tyX6 j
  | 7 => tyX7 j
  | 8 => tyX8 j
  | 9 => tyX9 j
  | 10 => tyX10 j
  | 11 => tyX11 j
  | _ => .int
end
section
/-! THE MEMORY AS NUMBERS. A value is a pair (tag, z): 0 an int, 1 a long, 2 a reference that may be null or of any shape, 4 a fixed address (0 the script, i + 1 a string constant), 9 nothing, 10 + sh a reference to an object of shape sh. A memory gives each slot of each object its number. -/
abbrev Sv_t : Type := Nat × Int
abbrev Me_t : Type := Int → Int → Int
def val_ (cs : Nat → Nat) (ad : List Nat) (v : Sv_t) : Value := match v.1 with
  | 0 => .int (Int32.ofInt v.2)
  | 1 => .long (Int64.ofInt v.2)
  | 4 => .ref (cs v.2.toNat)
  | _ => if v.2 < 0 then .null else .ref (ad.getD v.2.toNat 0)
/-- the value is one of its tag -/
def tv_ (shs : List Nat) (v : Sv_t) : Prop := match v.1 with
  | 0 => -2147483648 ≤ v.2 ∧ v.2 ≤ 2147483647
  | 1 => -9223372036854775808 ≤ v.2 ∧ v.2 ≤ 9223372036854775807
  | 2 => v.2 < 0 ∨ v.2.toNat < shs.length
  | 4 => True
  | 9 => True
  | t + 10 => 0 ≤ v.2 ∧ shs[v.2.toNat]? = some t
  | _ => False
def sz_ (sh : Nat) : Nat := (KT_ sh).2.2
/-- z may stand in slot j (place j) of object k of shape sh -/
def ok_ (shs : List Nat) (sh : Nat) (k : Int) (j : Nat) (z : Int) : Prop := tv_ shs ((ty_ sh j).1, z) ∧ ((ty_ sh j).1 < 2 → (ty_ sh j).2.1 ≤ z ∧ z ≤ (ty_ sh j).2.2) ∧ ∀ r, rt_ sh k j (j : Int) = some r → z = r
def MT_ (shs : List Nat) (σ : Me_t) : Prop := ∀ (k sh : Nat), shs[k]? = some sh → ∀ j : Nat, j < sz_ sh → ok_ shs sh (k : Int) j (σ (k : Int) (j : Int))
def ups_ (σ : Me_t) (o j z : Int) : Me_t := fun a b => if a = o ∧ b = j then z else σ a b
theorem ups_s {σ : Me_t} {o j z : Int} : ups_ σ o j z o j = z := by simp [ups_]
theorem ups_n {σ : Me_t} {o j z a b : Int} (h : a ≠ o ∨ b ≠ j) : ups_ σ o j z a b = σ a b := by
  unfold ups_
  rw [if_neg]
  rintro ⟨h1, h2⟩
  rcases h with h | h
  · exact h h1
  · exact h h2
def ent_ (cs : Nat → Nat) (tc : Nat → ClassId) (ad : List Nat) (sh : Nat) (f : Int → Int) : va_E := match KT_ sh with
  | (0, c, n) => .inr (c, (List.range n).map fun j => val_ cs ad ((ty_ sh j).1, f j))
  | (4, _, n) => .inl (tc 4, n, .inr (.inl fun j => Int64.ofInt (f j)))
  | (5, c, n) => .inl (tc (5 + c), n, .inr (.inr (.inr (.inr fun j => if f j < 0 then none else some (ad.getD (f j).toNat 0)))))
  | (a, _, n) => .inl (tc a, n, .inl fun j => Int32.ofInt (f j))
def wl_ (cs : Nat → Nat) (tc : Nat → ClassId) (ad shs : List Nat) (σ : Me_t) : va_W := shs.zipIdx.map fun q => (ad.getD q.2 0, ent_ cs tc ad q.1 (σ q.2))
theorem wl_get {cs : Nat → Nat} {tc : Nat → ClassId} {ad shs : List Nat} {σ : Me_t} {k sh : Nat} (h : shs[k]? = some sh) : (wl_ cs tc ad shs σ)[k]? = some (ad.getD k 0, ent_ cs tc ad sh (σ k)) := by
  simp [wl_, List.getElem?_zipIdx, h]
theorem wl_len {cs : Nat → Nat} {tc : Nat → ClassId} {ad shs : List Nat} {σ : Me_t} : (wl_ cs tc ad shs σ).length = shs.length := by simp [wl_]
theorem wl_none {cs : Nat → Nat} {tc : Nat → ClassId} {ad shs : List Nat} {σ : Me_t} {k : Nat} (h : shs[k]? = none) : (wl_ cs tc ad shs σ)[k]? = none := by
  simp [wl_, List.getElem?_zipIdx, h]
theorem wl_set {cs : Nat → Nat} {tc : Nat → ClassId} {ad shs : List Nat} {σ σ' : Me_t} {k sh : Nat} (h : shs[k]? = some sh) {e : va_E} (he : e = ent_ cs tc ad sh (σ' k)) (hne : ∀ a : Nat, a ≠ k → σ' a = σ a) : (wl_ cs tc ad shs σ).set k (ad.getD k 0, e) = wl_ cs tc ad shs σ' := by
  subst he
  apply List.ext_getElem?
  intro i
  by_cases hi : i = k
  · subst hi
    rw [wl_get h, List.getElem?_set_self (by rw [wl_len]; exact (List.getElem?_eq_some_iff.mp h).1)]
  · rw [List.getElem?_set_ne (Ne.symm hi)]
    cases hs : shs[i]? with
    | none => rw [wl_none hs, wl_none hs]
    | some q => rw [wl_get hs, wl_get hs, hne i hi]
/-- the locals -/
def lh_ (cs : Nat → Nat) (ad : List Nat) (L : List Sv_t) (ls : Array Slot) : Prop := ls.size = L.length ∧ lv_wf ls ∧ ∀ (j : Nat) (v : Sv_t), L[j]? = some v → v.1 ≠ 9 → ls[j]? = some (.val (val_ cs ad v))
def lvp_ (cs : Nat → Nat) (ad : List Nat) (L : List Sv_t) : List (Nat × Value) := L.zipIdx.filterMap fun q => if q.1.1 = 9 then none else some (q.2, val_ cs ad q.1)
theorem lvp_mem {cs : Nat → Nat} {ad : List Nat} {L : List Sv_t} {j : Nat} {w : Value} : (j, w) ∈ lvp_ cs ad L ↔ ∃ v : Sv_t, L[j]? = some v ∧ v.1 ≠ 9 ∧ val_ cs ad v = w := by
  unfold lvp_
  rw [List.mem_filterMap]
  constructor
  · rintro ⟨⟨v, i⟩, h1, h2⟩
    have h3 := List.mem_zipIdx_iff_getElem?.mp h1
    by_cases h9 : v.1 = 9
    · simp [h9] at h2
    · simp [h9] at h2
      obtain ⟨rfl, rfl⟩ := h2
      exact ⟨v, h3, h9, rfl⟩
  · rintro ⟨v, h1, h2, rfl⟩
    exact ⟨(v, j), List.mem_zipIdx_iff_getElem?.mpr h1, by simp [h2]⟩
theorem lh_has {cs : Nat → Nat} {ad : List Nat} {L : List Sv_t} {ls : Array Slot} (h : lh_ cs ad L ls) : lv_has ls L.length (lvp_ cs ad L) := by
  refine ⟨h.1, h.2.1, fun q hq => ?_⟩
  obtain ⟨j, w⟩ := q
  obtain ⟨v, h1, h2, rfl⟩ := lvp_mem.mp hq
  exact h.2.2 j v h1 h2
theorem lh_of {cs : Nat → Nat} {ad : List Nat} {L : List Sv_t} {ls : Array Slot} {n : Nat} {l : List (Nat × Value)} (h : lv_has ls n l) (hn : n = L.length) (hm : ∀ (j : Nat) (v : Sv_t), L[j]? = some v → v.1 ≠ 9 → (j, val_ cs ad v) ∈ l) : lh_ cs ad L ls :=
  ⟨by rw [h.1, hn], h.2.1, fun j v h1 h2 => h.2.2 _ (hm j v h1 h2)⟩
/-- a store into local n: a long that it cuts is gone -/
def ls0_ (L : List Sv_t) (n : Nat) : List Sv_t := match n with
  | 0 => L
  | m + 1 => match L[m]? with
    | some (1, _) => L.set m (9, 0)
    | _ => L
def ls1_ (L : List Sv_t) (n : Nat) (v : Sv_t) : List Sv_t := (ls0_ L n).set n v
def ls2_ (L : List Sv_t) (n : Nat) (v : Sv_t) : List Sv_t := ((ls0_ L n).set n v).set (n + 1) (9, 0)
theorem ls0_len {L : List Sv_t} {n : Nat} : (ls0_ L n).length = L.length := by
  unfold ls0_
  split
  · rfl
  · split <;> simp
theorem ls0_get {L : List Sv_t} {n j : Nat} {v : Sv_t} (h : (ls0_ L n)[j]? = some v) (h9 : v.1 ≠ 9) : L[j]? = some v ∧ ¬ (j + 1 = n ∧ v.1 = 1) := by
  unfold ls0_ at h
  split at h
  · exact ⟨h, fun q => by omega⟩
  next m =>
    split at h
    next z hz =>
      by_cases hj : j = m
      · subst hj
        rw [List.getElem?_set_self (List.getElem?_eq_some_iff.mp hz).1] at h
        cases h
        exact absurd rfl h9
      · rw [List.getElem?_set_ne (Ne.symm hj)] at h
        exact ⟨h, fun q => by omega⟩
    next hn =>
      refine ⟨h, fun q => ?_⟩
      obtain ⟨q1, q2⟩ := q
      have : j = m := by omega
      subst this
      obtain ⟨a, b⟩ := v
      simp only at q2
      subst q2
      exact hn b h
theorem val_cat {cs : Nat → Nat} {ad : List Nat} {v : Sv_t} : (val_ cs ad v).category = if v.1 = 1 then 2 else 1 := by
  obtain ⟨t, z⟩ := v
  unfold val_
  split
  next h => simp only at h; subst h; rfl
  next h => simp only at h; subst h; rfl
  next h => simp only at h; subst h; rfl
  next h1 h2 h3 =>
    have e : (if (t, z).1 = 1 then 2 else 1) = 1 := if_neg h2
    rw [e]
    by_cases hz : z < 0
    · simp [hz, Value.category]
    · simp [hz, Value.category]
theorem lh_st1 {cs : Nat → Nat} {ad : List Nat} {L : List Sv_t} {ls' : Array Slot} {n : Nat} {v : Sv_t} (hn : n < L.length) (h : lv_has ls' L.length ((n, val_ cs ad v) :: (lvp_ cs ad L).filter (fun q => !(q.1 == n) && !(q.1 + 1 == n && q.2.category == 2)))) : lh_ cs ad (ls1_ L n v) ls' := by
  refine lh_of h (by simp [ls1_, ls0_len]) fun j w hj h9 => ?_
  unfold ls1_ at hj
  by_cases e : j = n
  · subst e
    rw [List.getElem?_set_self (by rw [ls0_len]; exact hn)] at hj
    cases hj
    exact List.mem_cons_self
  · rw [List.getElem?_set_ne (Ne.symm e)] at hj
    obtain ⟨h1, h2⟩ := ls0_get hj h9
    refine List.mem_cons_of_mem _ (List.mem_filter.mpr ⟨lvp_mem.mpr ⟨w, h1, h9, rfl⟩, ?_⟩)
    simp only [Bool.and_eq_true, Bool.not_eq_true', beq_eq_false_iff_ne, ne_eq, Bool.and_eq_false_iff]
    refine ⟨e, ?_⟩
    by_cases q : j + 1 = n
    · refine Or.inr fun c => h2 ⟨q, ?_⟩
      rw [val_cat] at c
      by_cases t : w.1 = 1
      · exact t
      · rw [if_neg t] at c; omega
    · exact Or.inl q
theorem lh_st2 {cs : Nat → Nat} {ad : List Nat} {L : List Sv_t} {ls' : Array Slot} {n : Nat} {v : Sv_t} (hn : n + 1 < L.length) (h : lv_has ls' L.length ((n, val_ cs ad v) :: (lvp_ cs ad L).filter (fun q => !(q.1 == n) && (!(q.1 == n + 1) && !(q.1 + 1 == n && q.2.category == 2))))) : lh_ cs ad (ls2_ L n v) ls' := by
  refine lh_of h (by simp [ls2_, ls0_len]) fun j w hj h9 => ?_
  unfold ls2_ at hj
  by_cases e1 : j = n + 1
  · subst e1
    rw [List.getElem?_set_self (by simp [ls0_len]; exact hn)] at hj
    cases hj
    exact absurd rfl h9
  · rw [List.getElem?_set_ne (Ne.symm e1)] at hj
    by_cases e : j = n
    · subst e
      rw [List.getElem?_set_self (by rw [ls0_len]; omega)] at hj
      cases hj
      exact List.mem_cons_self
    · rw [List.getElem?_set_ne (Ne.symm e)] at hj
      obtain ⟨h1, h2⟩ := ls0_get hj h9
      refine List.mem_cons_of_mem _ (List.mem_filter.mpr ⟨lvp_mem.mpr ⟨w, h1, h9, rfl⟩, ?_⟩)
      simp only [Bool.and_eq_true, Bool.not_eq_true', beq_eq_false_iff_ne, ne_eq, Bool.and_eq_false_iff]
      refine ⟨e, e1, ?_⟩
      by_cases q : j + 1 = n
      · refine Or.inr fun c => h2 ⟨q, ?_⟩
        rw [val_cat] at c
        by_cases t : w.1 = 1
        · exact t
        · rw [if_neg t] at c; omega
      · exact Or.inl q
theorem ls1_tv {shs : List Nat} {L : List Sv_t} {n : Nat} {v : Sv_t} (h : ∀ w ∈ L, tv_ shs w) (hv : tv_ shs v) : ∀ w ∈ ls1_ L n v, tv_ shs w := by
  intro w hw
  unfold ls1_ at hw
  rcases List.mem_or_eq_of_mem_set hw with hw | rfl
  · unfold ls0_ at hw
    split at hw
    · exact h w hw
    · split at hw
      · rcases List.mem_or_eq_of_mem_set hw with hw | rfl
        · exact h w hw
        · trivial
      · exact h w hw
  · exact hv
theorem ls2_tv {shs : List Nat} {L : List Sv_t} {n : Nat} {v : Sv_t} (h : ∀ w ∈ L, tv_ shs w) (hv : tv_ shs v) : ∀ w ∈ ls2_ L n v, tv_ shs w := by
  intro w hw
  unfold ls2_ at hw
  rcases List.mem_or_eq_of_mem_set hw with hw | rfl
  · exact ls1_tv h hv w hw
  · trivial
/-! numbers -/
theorem i3_t {z : Int} (h : -2147483648 ≤ z ∧ z ≤ 2147483647) : (Int32.ofInt z).toInt = z := Int32.toInt_ofInt_of_le (by omega) (by omega)
theorem i6_t {z : Int} (h : -9223372036854775808 ≤ z ∧ z ≤ 9223372036854775807) : (Int64.ofInt z).toInt = z := Int64.toInt_ofInt_of_le (by omega) (by omega)
theorem i3_o (x : Int32) : Int32.ofInt x.toInt = x := by simp
theorem i6_o (x : Int64) : Int64.ofInt x.toInt = x := by simp
theorem i3_r (x : Int32) : -2147483648 ≤ x.toInt ∧ x.toInt ≤ 2147483647 := by
  have h1 := Int32.le_toInt x
  have h2 := Int32.toInt_lt x
  constructor <;> omega
theorem i6_r (x : Int64) : -9223372036854775808 ≤ x.toInt ∧ x.toInt ≤ 9223372036854775807 := by
  have h1 := Int64.le_toInt x
  have h2 := Int64.toInt_lt x
  constructor <;> omega
theorem i3_lt {a b : Int} (ha : -2147483648 ≤ a ∧ a ≤ 2147483647) (hb : -2147483648 ≤ b ∧ b ≤ 2147483647) : Int32.ofInt a < Int32.ofInt b ↔ a < b := by rw [Int32.lt_iff_toInt_lt, i3_t ha, i3_t hb]
theorem i3_le {a b : Int} (ha : -2147483648 ≤ a ∧ a ≤ 2147483647) (hb : -2147483648 ≤ b ∧ b ≤ 2147483647) : Int32.ofInt a ≤ Int32.ofInt b ↔ a ≤ b := by rw [Int32.le_iff_toInt_le, i3_t ha, i3_t hb]
theorem i3_eq {a b : Int} (ha : -2147483648 ≤ a ∧ a ≤ 2147483647) (hb : -2147483648 ≤ b ∧ b ≤ 2147483647) : Int32.ofInt a = Int32.ofInt b ↔ a = b := by rw [← Int32.toInt_inj, i3_t ha, i3_t hb]
theorem i6_lt {a b : Int} (ha : -9223372036854775808 ≤ a ∧ a ≤ 9223372036854775807) (hb : -9223372036854775808 ≤ b ∧ b ≤ 9223372036854775807) : Int64.ofInt a < Int64.ofInt b ↔ a < b := by rw [Int64.lt_iff_toInt_lt, i6_t ha, i6_t hb]
theorem i6_eq {a b : Int} (ha : -9223372036854775808 ≤ a ∧ a ≤ 9223372036854775807) (hb : -9223372036854775808 ≤ b ∧ b ≤ 9223372036854775807) : Int64.ofInt a = Int64.ofInt b ↔ a = b := by rw [← Int64.toInt_inj, i6_t ha, i6_t hb]
theorem i3_z : (0 : Int32) = Int32.ofInt 0 := by decide
theorem i6_z : (0 : Int64) = Int64.ofInt 0 := by decide
theorem tdb_ {a b : Int} : (a.tdiv b).natAbs ≤ a.natAbs := by
  rw [Int.natAbs_tdiv]
  exact Nat.div_le_self _ _
theorem i3_div {a b : Int} (ha : -2147483648 ≤ a ∧ a ≤ 2147483647) (hb : -2147483648 ≤ b ∧ b ≤ 2147483647) (hr : -2147483648 ≤ a.tdiv b ∧ a.tdiv b ≤ 2147483647) : Int32.ofInt a / Int32.ofInt b = Int32.ofInt (a.tdiv b) := by
  rw [← Int32.toInt_inj, Int32.toInt_div, i3_t ha, i3_t hb, i3_t hr]
  exact Int.bmod_eq_of_le (by omega) (by omega)
theorem i3_rem {a b : Int} (ha : -2147483648 ≤ a ∧ a ≤ 2147483647) (hb : -2147483648 ≤ b ∧ b ≤ 2147483647) : Int32.ofInt a - Int32.ofInt a / Int32.ofInt b * Int32.ofInt b = Int32.ofInt (a.tmod b) := by
  rw [← Int32.toInt_inj, Int32.toInt_sub, Int32.toInt_mul, Int32.toInt_div, i3_t ha, i3_t hb]
  have e : a.tmod b = a - a.tdiv b * b := by have := Int.tdiv_mul_add_tmod a b; omega
  have hr : -2147483648 ≤ a.tmod b ∧ a.tmod b ≤ 2147483647 := by
    have h1 : (a.tmod b).natAbs ≤ a.natAbs := by rw [Int.natAbs_tmod]; exact Nat.mod_le _ _
    rcases Int.le_total 0 a with h0 | h0
    · have := Int.tmod_nonneg b h0
      omega
    · have := Int.tmod_nonneg b (Int.neg_nonneg_of_nonpos h0)
      rw [Int.neg_tmod] at this
      omega
  rw [i3_t hr, e]
  simp only [Int.sub_bmod_bmod, Int.bmod_mul_bmod, Int.mul_bmod_bmod, Int.bmod_sub_bmod]
  rw [← e]
  exact Int.bmod_eq_of_le (by omega) (by omega)
theorem i6_div {a b : Int} (ha : -9223372036854775808 ≤ a ∧ a ≤ 9223372036854775807) (hb : -9223372036854775808 ≤ b ∧ b ≤ 9223372036854775807) (hr : -9223372036854775808 ≤ a.tdiv b ∧ a.tdiv b ≤ 9223372036854775807) : Int64.ofInt a / Int64.ofInt b = Int64.ofInt (a.tdiv b) := by
  rw [← Int64.toInt_inj, Int64.toInt_div, i6_t ha, i6_t hb, i6_t hr]
  exact Int.bmod_eq_of_le (by omega) (by omega)
theorem i6_rem {a b : Int} (ha : -9223372036854775808 ≤ a ∧ a ≤ 9223372036854775807) (hb : -9223372036854775808 ≤ b ∧ b ≤ 9223372036854775807) : Int64.ofInt a - Int64.ofInt a / Int64.ofInt b * Int64.ofInt b = Int64.ofInt (a.tmod b) := by
  rw [← Int64.toInt_inj, Int64.toInt_sub, Int64.toInt_mul, Int64.toInt_div, i6_t ha, i6_t hb]
  have e : a.tmod b = a - a.tdiv b * b := by have := Int.tdiv_mul_add_tmod a b; omega
  have hr : -9223372036854775808 ≤ a.tmod b ∧ a.tmod b ≤ 9223372036854775807 := by
    have h1 : (a.tmod b).natAbs ≤ a.natAbs := by rw [Int.natAbs_tmod]; exact Nat.mod_le _ _
    rcases Int.le_total 0 a with h0 | h0
    · have := Int.tmod_nonneg b h0
      omega
    · have := Int.tmod_nonneg b (Int.neg_nonneg_of_nonpos h0)
      rw [Int.neg_tmod] at this
      omega
  rw [i6_t hr, e]
  simp only [Int.sub_bmod_bmod, Int.bmod_mul_bmod, Int.mul_bmod_bmod, Int.bmod_sub_bmod]
  rw [← e]
  exact Int.bmod_eq_of_le (by omega) (by omega)
def and3_ (a b : Int) : Int := (Int32.ofInt a &&& Int32.ofInt b).toInt
def or3_ (a b : Int) : Int := (Int32.ofInt a ||| Int32.ofInt b).toInt
def xor3_ (a b : Int) : Int := (Int32.ofInt a ^^^ Int32.ofInt b).toInt
def shl3_ (a b : Int) : Int := (Int32.ofInt a <<< (Int32.ofInt b &&& 31)).toInt
def shr3_ (a b : Int) : Int := (Int32.ofInt a >>> (Int32.ofInt b &&& 31)).toInt
def i2b_ (a : Int) : Int := (Int32.ofInt a).toInt8.toInt32.toInt
def i2s_ (a : Int) : Int := (Int32.ofInt a).toInt16.toInt32.toInt
def l2i_ (a : Int) : Int := (Int64.ofInt a).toInt32.toInt
def and6_ (a b : Int) : Int := (Int64.ofInt a &&& Int64.ofInt b).toInt
def or6_ (a b : Int) : Int := (Int64.ofInt a ||| Int64.ofInt b).toInt
def shl6_ (a b : Int) : Int := (Int64.ofInt a <<< ((Int32.ofInt b).toInt64 &&& 63)).toInt
def shr6_ (a b : Int) : Int := (Int64.ofInt a >>> ((Int32.ofInt b).toInt64 &&& 63)).toInt
def lcmp_ (a b : Int) : Int := if b < a then 1 else if a = b then 0 else -1
theorem i3_l {a : Int} (ha : -2147483648 ≤ a ∧ a ≤ 2147483647) : (Int32.ofInt a).toInt64 = Int64.ofInt a := by
  rw [← Int64.toInt_inj, Int32.toInt_toInt64, i3_t ha, i6_t (by omega)]
theorem lcmp_e {a b : Int} (ha : -9223372036854775808 ≤ a ∧ a ≤ 9223372036854775807) (hb : -9223372036854775808 ≤ b ∧ b ≤ 9223372036854775807) : lg_cmp (Int64.ofInt a) (Int64.ofInt b) = Int32.ofInt (lcmp_ a b) := by
  unfold lg_cmp lcmp_
  by_cases h1 : b < a
  · rw [if_pos h1, if_pos ((i6_lt hb ha).mpr h1)]; decide
  · rw [if_neg h1, if_neg (fun q => h1 ((i6_lt hb ha).mp q))]
    by_cases h2 : a = b
    · rw [if_pos h2, if_pos ((i6_eq ha hb).mpr h2)]; decide
    · rw [if_neg h2, if_neg (fun q => h2 ((i6_eq ha hb).mp q))]; decide
theorem lcmp_r (a b : Int) : -2147483648 ≤ lcmp_ a b ∧ lcmp_ a b ≤ 2147483647 := by
  unfold lcmp_
  split
  · omega
  · split <;> omega
end
section
/-! WALKS OVER A MEMORY. X: the machine, the launch, the method; G: the classes' numbers, the arrays' classes, fixed addresses, the cells that may change. -/
abbrev Cx_t : Type := Program × Launch × Env × Room × State × MethodId × Array Value × List Frame × Method × Code
abbrev Gx_t : Type := va_G × (Nat → ClassId) × (Nat → Nat) × (Nat → Prop)
def tys_ (tc : Nat → ClassId) : List (ClassId × FieldType) := [(tc 1, .int), (tc 2, .byte), (tc 3, .boolean), (tc 4, .long), (tc 6, .object RX1), (tc 9, .object RX4), (tc 14, .object RX9)]
def gl_ : List Cond := lw_tbl.filter goodWord
def isNest_ : Cond → Bool
  | .methodLinkNest .. => true
  | _ => false
def XW_ (U : State) : Prop := ∀ w ∈ lw_tbl, isNest_ w = true → va_Nw w U
theorem XW_warm {s U : State} (hW : s.WarmedH U.vm) (h : XW_ s) : XW_ U := by
  intro w hw hn
  have h1 := h w hw hn
  cases w <;> first | (simp [isNest_] at hn; done) | exact va_Nw.warmM hW h1
theorem XW_same {s U : State} (e : s.vm = U.vm) (h : XW_ s) : XW_ U := by
  intro w hw hn
  have h1 := h w hw hn
  cases w <;> first | (simp [isNest_] at hn; done) | exact va_Nw.same rfl e h1
def WP_ (X : Cx_t) (G : Gx_t) (Q : State → Prop) (cl sl : Nat) (ad shs : List Nat) (σ : Me_t) (pc : Nat) (L S : List Sv_t) : Prop :=
  MT_ shs σ → ad.length = shs.length → ∀ (H : Heap) (locs : List Loc) (ls : Array Slot), va_P G.1 cls_ (wl_ G.2.2.1 G.2.1 ad shs σ) H → va_D G.2.2.2 (wl_ G.2.2.1 G.2.1 ad shs σ) → va_S G.2.2.2 X.2.2.2.2.1.heap H locs → lh_ G.2.2.1 ad L ls → (∀ v ∈ L, tv_ shs v) → (∀ v ∈ S, tv_ shs v) →
    W X.1 X.2.1 X.2.2.1 X.2.2.2.1 X.2.2.2.2.1 X.2.2.2.2.2.1 X.2.2.2.2.2.2.1 X.2.2.2.2.2.2.2.1 X.2.2.2.2.2.2.2.2.1 X.2.2.2.2.2.2.2.2.2 H locs cl sl Q (F0 X.2.2.2.2.2.1 pc ls (S.map (val_ G.2.2.1 ad)))
def EN_ (X : Cx_t) (G : Gx_t) (own : String) (cc : ByteArray) (nL : Nat) (rty : Option FieldType) : Prop :=
  X.1.tables.exec = Jvm.exec ∧ X.2.2.2.2.2.2.2.2.2.code = cc ∧ X.2.2.2.2.2.2.2.2.2.maxLocals = nL ∧ X.2.2.2.2.1.vm.findClass own = some X.2.2.2.2.2.1.cls ∧ (∀ w ∈ gl_, w.before X.2.2.2.2.2.2.1 X.2.2.2.2.1 = true) ∧ va_K G.1 cls_ (tys_ G.2.1) X.2.2.2.2.1 ∧ X.2.2.2.2.2.2.2.2.1.sig.returnType = rty ∧ X.2.2.2.2.2.2.2.2.1.locks = false ∧ XW_ X.2.2.2.2.1
theorem vc_ {shs : List Nat} {v : Sv_t} {S : List Sv_t} (h : tv_ shs v) (hS : ∀ w ∈ S, tv_ shs w) : ∀ w ∈ v :: S, tv_ shs w := List.forall_mem_cons.mpr ⟨h, hS⟩
theorem vt_ {shs : List Nat} {v : Sv_t} {S : List Sv_t} (hS : ∀ w ∈ v :: S, tv_ shs w) : tv_ shs v ∧ ∀ w ∈ S, tv_ shs w := List.forall_mem_cons.mp hS
theorem vg_ {shs : List Nat} {v : Sv_t} {L : List Sv_t} {n : Nat} (hL : ∀ w ∈ L, tv_ shs w) (h : L[n]? = some v) : tv_ shs v := hL v (List.mem_of_getElem? h)
theorem val_0 {cs : Nat → Nat} {ad : List Nat} {z : Int} : val_ cs ad (0, z) = .int (Int32.ofInt z) := rfl
theorem val_1 {cs : Nat → Nat} {ad : List Nat} {z : Int} : val_ cs ad (1, z) = .long (Int64.ofInt z) := rfl
theorem val_4 {cs : Nat → Nat} {ad : List Nat} {z : Int} : val_ cs ad (4, z) = .ref (cs z.toNat) := rfl
theorem val_r {cs : Nat → Nat} {ad : List Nat} {z : Int} {t : Nat} (h : 0 ≤ z) : val_ cs ad (t + 10, z) = .ref (ad.getD z.toNat 0) := by
  show (if z < 0 then Value.null else .ref (ad.getD z.toNat 0)) = _
  rw [if_neg (by omega)]
theorem val_q {cs : Nat → Nat} {ad : List Nat} {z : Int} {t u : Nat} : val_ cs ad (t + 10, z) = val_ cs ad (u + 10, z) := rfl
theorem val_2 {cs : Nat → Nat} {ad : List Nat} {z : Int} {t : Nat} : val_ cs ad (t + 10, z) = val_ cs ad (2, z) := rfl
abbrev Tr_t : Type := List Sv_t → Me_t → (List Sv_t → Me_t → Prop) → Prop
def csum_ (S : List Sv_t) : Nat := match S with
  | [] => 0
  | v :: S => (bif v.1 == 1 then 2 else 1) + csum_ S
def cmp0_ (c : ClassFile.Cond) (z y : Int) (a b : Prop) : Prop := match c with
  | .eq => (z = y → a) ∧ (¬ z = y → b)
  | .ne => (¬ z = y → a) ∧ (z = y → b)
  | .lt => (z < y → a) ∧ (y ≤ z → b)
  | .ge => (y ≤ z → a) ∧ (z < y → b)
  | .gt => (y < z → a) ∧ (z ≤ y → b)
  | .le => (z ≤ y → a) ∧ (y < z → b)
def tsw_ (J : Nat → Prop) (pc : Nat) (z lo : Int) (offs : List Int) : Prop := match offs with
  | [] => True
  | o :: os => (z = lo → J ((pc : Int) + o).toNat) ∧ tsw_ J pc z (lo + 1) os
def ful_ (lo hi : Int) : Bool := decide (lo ≤ -2147483648) && decide (2147483647 ≤ hi)
def ful6_ (lo hi : Int) : Bool := decide (lo ≤ -9223372036854775808) && decide (9223372036854775807 ≤ hi)
def lk_ {α : Type} (l : List (Nat × α)) (n : Nat) : Option α := match l with
  | [] => none
  | q :: l => bif q.1 == n then some q.2 else lk_ l n
/-- what an instruction asks for, and what it leaves: fl, pl fields by their place in the pool (class, slot), kn constants, cal calls (2 i an instance's, 2 i + 1 a static one's), rk the kind of answer -/
def stp_ (fl pl : List (Nat × Nat × Nat × Int)) (kn : List (Nat × Sv_t)) (cal : List (Nat × Nat × Tr_t)) (rk : Nat) (Ret : List Sv_t → Me_t → Prop) (J : Nat → List Sv_t → List Sv_t → Me_t → Prop) (scr : Nat × (Int → Int)) (pc : Nat) (i : Instr) (L S : List Sv_t) (σ : Me_t) (k : List Sv_t → List Sv_t → Me_t → Prop) : Prop :=
  match i with
  | .iload n => match L[n]? with
    | some (0, z) => k L ((0, z) :: S) σ
    | _ => False
  | .iload_n n => match L[n.val]? with
    | some (0, z) => k L ((0, z) :: S) σ
    | _ => False
  | .lload n => match L[n]? with
    | some (1, z) => k L ((1, z) :: S) σ
    | _ => False
  | .lload_n n => match L[n.val]? with
    | some (1, z) => k L ((1, z) :: S) σ
    | _ => False
  | .aload n => match L[n]? with
    | some (4, z) => k L ((4, z) :: S) σ
    | some (t + 10, z) => k L ((t + 10, z) :: S) σ
    | _ => False
  | .aload_n n => match L[n.val]? with
    | some (4, z) => k L ((4, z) :: S) σ
    | some (t + 10, z) => k L ((t + 10, z) :: S) σ
    | _ => False
  | .istore n => match S with
    | (0, z) :: S' => bif n.blt L.length then k (ls1_ L n (0, z)) S' σ else False
    | _ => False
  | .istore_n n => match S with
    | (0, z) :: S' => bif n.val.blt L.length then k (ls1_ L n.val (0, z)) S' σ else False
    | _ => False
  | .lstore n => match S with
    | (1, z) :: S' => bif (n + 1).blt L.length then k (ls2_ L n (1, z)) S' σ else False
    | _ => False
  | .lstore_n n => match S with
    | (1, z) :: S' => bif (n.val + 1).blt L.length then k (ls2_ L n.val (1, z)) S' σ else False
    | _ => False
  | .astore n => match S with
    | (t + 10, z) :: S' => bif n.blt L.length then k (ls1_ L n (t + 10, z)) S' σ else False
    | _ => False
  | .astore_n n => match S with
    | (t + 10, z) :: S' => bif n.val.blt L.length then k (ls1_ L n.val (t + 10, z)) S' σ else False
    | _ => False
  | .iinc n c => match L[n]? with
    | some (0, z) => (-2147483648 ≤ z + c ∧ z + c ≤ 2147483647) ∧ k (ls1_ L n (0, z + c)) S σ
    | _ => False
  | .iconst c => bif decide (-128 ≤ c) && decide (c ≤ 127) then k L ((0, c) :: S) σ else False
  | .bipush c => bif decide (-128 ≤ c) && decide (c ≤ 127) then k L ((0, c) :: S) σ else False
  | .sipush c => bif decide (-32768 ≤ c) && decide (c ≤ 32767) then k L ((0, c) :: S) σ else False
  | .lconst c => bif c.val == 0 then k L ((1, 0) :: S) σ else k L ((1, 1) :: S) σ
  | .ldc n => match lk_ kn n with
    | some v => k L (v :: S) σ
    | none => False
  | .ldc_w n => match lk_ kn n with
    | some v => k L (v :: S) σ
    | none => False
  | .ldc2_w n => match lk_ kn n with
    | some v => k L (v :: S) σ
    | none => False
  | .iadd => match S with
    | (0, b) :: (0, a) :: S' => (-2147483648 ≤ a + b ∧ a + b ≤ 2147483647) ∧ k L ((0, a + b) :: S') σ
    | _ => False
  | .isub => match S with
    | (0, b) :: (0, a) :: S' => (-2147483648 ≤ a - b ∧ a - b ≤ 2147483647) ∧ k L ((0, a - b) :: S') σ
    | _ => False
  | .imul => match S with
    | (0, b) :: (0, a) :: S' => (-2147483648 ≤ a * b ∧ a * b ≤ 2147483647) ∧ k L ((0, a * b) :: S') σ
    | _ => False
  | .idiv => match S with
    | (0, b) :: (0, a) :: S' => (¬ b = 0 ∧ -2147483648 ≤ a.tdiv b ∧ a.tdiv b ≤ 2147483647) ∧ k L ((0, a.tdiv b) :: S') σ
    | _ => False
  | .irem => match S with
    | (0, b) :: (0, a) :: S' => ¬ b = 0 ∧ k L ((0, a.tmod b) :: S') σ
    | _ => False
  | .iand => match S with
    | (0, b) :: (0, a) :: S' => k L ((0, and3_ a b) :: S') σ
    | _ => False
  | .ior => match S with
    | (0, b) :: (0, a) :: S' => k L ((0, or3_ a b) :: S') σ
    | _ => False
  | .ixor => match S with
    | (0, b) :: (0, a) :: S' => k L ((0, xor3_ a b) :: S') σ
    | _ => False
  | .ishl => match S with
    | (0, b) :: (0, a) :: S' => k L ((0, shl3_ a b) :: S') σ
    | _ => False
  | .ishr => match S with
    | (0, b) :: (0, a) :: S' => k L ((0, shr3_ a b) :: S') σ
    | _ => False
  | .i2b => match S with
    | (0, a) :: S' => k L ((0, i2b_ a) :: S') σ
    | _ => False
  | .i2s => match S with
    | (0, a) :: S' => k L ((0, i2s_ a) :: S') σ
    | _ => False
  | .i2l => match S with
    | (0, a) :: S' => k L ((1, a) :: S') σ
    | _ => False
  | .l2i => match S with
    | (1, a) :: S' => k L ((0, l2i_ a) :: S') σ
    | _ => False
  | .ladd => match S with
    | (1, b) :: (1, a) :: S' => (-9223372036854775808 ≤ a + b ∧ a + b ≤ 9223372036854775807) ∧ k L ((1, a + b) :: S') σ
    | _ => False
  | .lsub => match S with
    | (1, b) :: (1, a) :: S' => (-9223372036854775808 ≤ a - b ∧ a - b ≤ 9223372036854775807) ∧ k L ((1, a - b) :: S') σ
    | _ => False
  | .lmul => match S with
    | (1, b) :: (1, a) :: S' => (-9223372036854775808 ≤ a * b ∧ a * b ≤ 9223372036854775807) ∧ k L ((1, a * b) :: S') σ
    | _ => False
  | .ldiv => match S with
    | (1, b) :: (1, a) :: S' => (¬ b = 0 ∧ -9223372036854775808 ≤ a.tdiv b ∧ a.tdiv b ≤ 9223372036854775807) ∧ k L ((1, a.tdiv b) :: S') σ
    | _ => False
  | .lrem => match S with
    | (1, b) :: (1, a) :: S' => ¬ b = 0 ∧ k L ((1, a.tmod b) :: S') σ
    | _ => False
  | .land => match S with
    | (1, b) :: (1, a) :: S' => k L ((1, and6_ a b) :: S') σ
    | _ => False
  | .lor => match S with
    | (1, b) :: (1, a) :: S' => k L ((1, or6_ a b) :: S') σ
    | _ => False
  | .lshl => match S with
    | (0, b) :: (1, a) :: S' => k L ((1, shl6_ a b) :: S') σ
    | _ => False
  | .lshr => match S with
    | (0, b) :: (1, a) :: S' => k L ((1, shr6_ a b) :: S') σ
    | _ => False
  | .lcmp => match S with
    | (1, b) :: (1, a) :: S' => k L ((0, lcmp_ a b) :: S') σ
    | _ => False
  | .dup => match S with
    | v :: S' => bif v.1 == 1 then False else k L (v :: v :: S') σ
    | _ => False
  | .dup2 => match S with
    | v :: w :: S' => bif v.1 == 1 || w.1 == 1 then False else k L (v :: w :: v :: w :: S') σ
    | _ => False
  | .pop => match S with
    | v :: S' => bif v.1 == 1 then False else k L S' σ
    | _ => False
  | .ifCond c off => match S with
    | (0, z) :: S' => cmp0_ c z 0 (J ((pc : Int) + off).toNat L S' σ) (k L S' σ)
    | _ => False
  | .if_icmp c off => match S with
    | (0, y) :: (0, z) :: S' => cmp0_ c z y (J ((pc : Int) + off).toNat L S' σ) (k L S' σ)
    | _ => False
  | .goto off => J ((pc : Int) + off).toNat L S σ
  | .tableswitch d lo hi offs => match S with
    | (0, z) :: S' => (z < lo ∨ hi < z → J ((pc : Int) + d).toNat L S' σ) ∧ tsw_ (fun t => J t L S' σ) pc z lo offs.toList
    | _ => False
  | .getfield n => match S with
    | (t + 10, o) :: S' => match lk_ fl n with
      | some (c, jn, ji) => match KT_ t with
        | (0, c', N) => bif c == c' && jn.blt N then (match rt_ t o jn ji with
          | some r => k L (((ty_ t jn).1, r) :: S') σ
          | none => k L (((ty_ t jn).1, σ o ji) :: S') σ) else False
        | _ => False
      | none => False
    | _ => False
  | .putfield n => match S with
    | (u, z) :: (t + 10, o) :: S' => match lk_ pl n with
      | some (c, jn, ji) => match KT_ t with
        | (0, c', N) => bif c == c' && jn.blt N then (match rt_ t o jn ji with
          | some _ => False
          | none => match ty_ t jn with
            | (0, lo, hi) => bif u == 0 then (bif ful_ lo hi then k L S' (ups_ σ o ji z) else (lo ≤ z ∧ z ≤ hi) ∧ k L S' (ups_ σ o ji z)) else False
            | (1, lo, hi) => bif u == 1 && ful6_ lo hi then k L S' (ups_ σ o ji z) else False
            | (2, _, _) => bif Nat.ble 10 u then k L S' (ups_ σ o ji z) else False
            | (w, _, _) => bif u == w && Nat.ble 10 w then k L S' (ups_ σ o ji z) else False) else False
        | _ => False
      | none => False
    | _ => False
  | .iaload => match S with
    | (0, x) :: (4, 0) :: S' => (0 ≤ x ∧ x < (scr.1 : Int)) ∧ k L ((0, scr.2 x) :: S') σ
    | (0, x) :: (t + 10, o) :: S' => match KT_ t with
      | (1, _, N) => (0 ≤ x ∧ x < (N : Int)) ∧ k L ((0, σ o x) :: S') σ
      | _ => False
    | _ => False
  | .baload => match S with
    | (0, x) :: (t + 10, o) :: S' => match KT_ t with
      | (2, _, N) => (0 ≤ x ∧ x < (N : Int)) ∧ k L ((0, σ o x) :: S') σ
      | (3, _, N) => (0 ≤ x ∧ x < (N : Int)) ∧ k L ((0, σ o x) :: S') σ
      | _ => False
    | _ => False
  | .laload => match S with
    | (0, x) :: (t + 10, o) :: S' => match KT_ t with
      | (4, _, N) => (0 ≤ x ∧ x < (N : Int)) ∧ k L ((1, σ o x) :: S') σ
      | _ => False
    | _ => False
  | .aaload => match S with
    | (0, x) :: (t + 10, o) :: S' => match KT_ t with
      | (5, _, N) => (0 ≤ x ∧ x < (N : Int)) ∧ (match rt_ t o 0 x with
        | some r => k L (((ty_ t 0).1, r) :: S') σ
        | none => False)
      | _ => False
    | _ => False
  | .iastore => match S with
    | (0, z) :: (0, x) :: (t + 10, o) :: S' => match KT_ t with
      | (1, _, N) => (0 ≤ x ∧ x < (N : Int)) ∧ (bif ful_ (ty_ t 0).2.1 (ty_ t 0).2.2 then k L S' (ups_ σ o x z) else ((ty_ t 0).2.1 ≤ z ∧ z ≤ (ty_ t 0).2.2) ∧ k L S' (ups_ σ o x z))
      | _ => False
    | _ => False
  | .bastore => match S with
    | (0, z) :: (0, x) :: (t + 10, o) :: S' => match KT_ t with
      | (2, _, N) => (0 ≤ x ∧ x < (N : Int)) ∧ ((ty_ t 0).2.1 ≤ z ∧ z ≤ (ty_ t 0).2.2) ∧ k L S' (ups_ σ o x z)
      | (3, _, N) => (0 ≤ x ∧ x < (N : Int)) ∧ ((ty_ t 0).2.1 ≤ z ∧ z ≤ (ty_ t 0).2.2) ∧ k L S' (ups_ σ o x z)
      | _ => False
    | _ => False
  | .lastore => match S with
    | (1, z) :: (0, x) :: (t + 10, o) :: S' => match KT_ t with
      | (4, _, N) => (0 ≤ x ∧ x < (N : Int)) ∧ (bif ful6_ (ty_ t 0).2.1 (ty_ t 0).2.2 then k L S' (ups_ σ o x z) else False)
      | _ => False
    | _ => False
  | .arraylength => match S with
    | (4, 0) :: S' => k L ((0, (scr.1 : Int)) :: S') σ
    | (t + 10, _) :: S' => match KT_ t with
      | (a, _, N) => bif Nat.ble 1 a && Nat.ble a 5 then k L ((0, (N : Int)) :: S') σ else False
    | _ => False
  | .invokevirtual n => match lk_ cal (2 * n) with
    | some (na, T) => bif Nat.ble na S.length && Nat.ble (csum_ (S.drop na)) 8 then T (S.take na).reverse σ (fun r σ' => k L (r ++ S.drop na) σ') else False
    | none => False
  | .invokestatic n => match lk_ cal (2 * n + 1) with
    | some (na, T) => bif Nat.ble na S.length && Nat.ble (csum_ (S.drop na)) 8 then T (S.take na).reverse σ (fun r σ' => k L (r ++ S.drop na) σ') else False
    | none => False
  | .ireturn => match S with
    | [(0, z)] => bif rk == 1 then Ret [(0, z)] σ else bif rk == 2 then (0 ≤ z ∧ z ≤ 1) ∧ Ret [(0, z)] σ else False
    | _ => False
  | .lreturn => match S with
    | [(1, z)] => bif rk == 3 then Ret [(1, z)] σ else False
    | _ => False
  | .areturn => match S with
    | [(t + 10, z)] => bif rk == 4 then Ret [(t + 10, z)] σ else False
    | _ => False
  | .return_ => match S with
    | [] => bif rk == 0 then Ret [] σ else False
    | _ => False
  | _ => False
def ln_ (i : Instr) : Nat := match i with
  | .iload _ | .lload _ | .aload _ | .istore _ | .lstore _ | .astore _ | .bipush _ | .ldc _ | .newarray _ => 2
  | .iinc _ _ | .sipush _ | .ldc_w _ | .ldc2_w _ | .ifCond _ _ | .if_icmp _ _ | .goto _ | .getfield _ | .putfield _ | .invokevirtual _ | .invokestatic _ | .invokespecial _ | .new _ | .anewarray _ => 3
  | _ => 1
end
section
/-! THE STEPS ARE SOUND -/
theorem ent_0 {cs : Nat → Nat} {tc : Nat → ClassId} {ad : List Nat} {sh c n : Nat} {f : Int → Int} (h : KT_ sh = (0, c, n)) : ent_ cs tc ad sh f = .inr (c, (List.range n).map fun j => val_ cs ad ((ty_ sh j).1, f j)) := by unfold ent_; rw [h]; rfl
theorem ent_1 {cs : Nat → Nat} {tc : Nat → ClassId} {ad : List Nat} {sh c n : Nat} {f : Int → Int} (h : KT_ sh = (1, c, n)) : ent_ cs tc ad sh f = .inl (tc 1, n, .inl fun j => Int32.ofInt (f j)) := by unfold ent_; rw [h]; rfl
theorem ent_2 {cs : Nat → Nat} {tc : Nat → ClassId} {ad : List Nat} {sh c n : Nat} {f : Int → Int} (h : KT_ sh = (2, c, n)) : ent_ cs tc ad sh f = .inl (tc 2, n, .inl fun j => Int32.ofInt (f j)) := by unfold ent_; rw [h]; rfl
theorem ent_3 {cs : Nat → Nat} {tc : Nat → ClassId} {ad : List Nat} {sh c n : Nat} {f : Int → Int} (h : KT_ sh = (3, c, n)) : ent_ cs tc ad sh f = .inl (tc 3, n, .inl fun j => Int32.ofInt (f j)) := by unfold ent_; rw [h]; rfl
theorem ent_4 {cs : Nat → Nat} {tc : Nat → ClassId} {ad : List Nat} {sh c n : Nat} {f : Int → Int} (h : KT_ sh = (4, c, n)) : ent_ cs tc ad sh f = .inl (tc 4, n, .inr (.inl fun j => Int64.ofInt (f j))) := by unfold ent_; rw [h]; rfl
theorem ent_5 {cs : Nat → Nat} {tc : Nat → ClassId} {ad : List Nat} {sh c n : Nat} {f : Int → Int} (h : KT_ sh = (5, c, n)) : ent_ cs tc ad sh f = .inl (tc (5 + c), n, .inr (.inr (.inr (.inr fun j => if f j < 0 then none else some (ad.getD (f j).toNat 0))))) := by unfold ent_; rw [h]; rfl
theorem wg_ {w : Cond} (i : Nat) (h : lw_tbl[i]? = some w) (hg : goodWord w = true) : w ∈ gl_ := List.mem_filter.mpr ⟨List.mem_of_getElem? h, hg⟩
/-- what a table of fields must say -/
def FT_ (own : String) (fl : List (Nat × Nat × Nat × Int)) : Prop := ∀ q ∈ fl, ∃ (C : String) (T : u_T) (N : Nat), cls_[q.2.1]? = some (C, T, N) ∧ q.2.2.1 < N ∧ q.2.2.2 = (q.2.2.1 : Int) ∧ Cond.fieldLink own q.1 (T q.2.2.1).1 (T q.2.2.1).2.1 (T q.2.2.1).2.2.1 ∈ gl_
def PT_ (own : String) (pl : List (Nat × Nat × Nat × Int)) : Prop := FT_ own pl ∧ ∀ q ∈ pl, ∀ (C : String) (T : u_T) (N : Nat), cls_[q.2.1]? = some (C, T, N) → (T q.2.2.1).2.2.2 = false
theorem lk_mem {α : Type} {l : List (Nat × α)} {n : Nat} {a : α} (h : lk_ l n = some a) : (n, a) ∈ l := by
  induction l with
  | nil => cases h
  | cons q l ih =>
    unfold lk_ at h
    cases hq : q.1 == n with
    | true =>
      rw [hq] at h
      have h1 : q.1 = n := by simpa using hq
      have h2 : q.2 = a := Option.some.inj h
      have : q = (n, a) := by rw [← h1, ← h2]
      rw [this]; exact List.mem_cons_self
    | false =>
      rw [hq] at h
      exact List.mem_cons_of_mem _ (ih h)
/-- constants of the pool -/
def KN_ (own : String) (kn : List (Nat × Sv_t)) : Prop := ∀ q ∈ kn, (q.2.1 = 0 ∧ (-2147483648 ≤ q.2.2 ∧ q.2.2 ≤ 2147483647) ∧ Cond.constant own q.1 (Int32.ofInt q.2.2) ∈ gl_) ∨ (q.2.1 = 1 ∧ (-9223372036854775808 ≤ q.2.2 ∧ q.2.2 ≤ 9223372036854775807) ∧ Cond.constantLong own q.1 (Int64.ofInt q.2.2) ∈ gl_)
/-- the classes' tables: their words are there, names differ, types are told -/
def CL_ : Prop := ∀ (c : Nat) (C : String) (T : u_T) (N : Nat), cls_[c]? = some (C, T, N) → (∀ w ∈ u_ws C T N, w ∈ gl_) ∧ (∀ k, k < N → parseFieldDescriptor (T k).2.2.1 = some (tyF_ c k)) ∧ ∀ a, a < N → ∀ b, b < N → a ≠ b → (T a).2.1 ≠ (T b).2.1
/-- a shape's types are those of its class -/
def tyok_ (ft : FieldType) (t : Nat × Int × Int) : Bool := match ft with
  | .int => t.1 == 0
  | .boolean => t.1 == 0 && decide (0 ≤ t.2.1) && decide (t.2.2 ≤ 1)
  | .long => t.1 == 1
  | .object _ => t.1 == 2 || Nat.ble 10 t.1
  | .array _ => t.1 == 2 || Nat.ble 10 t.1
  | _ => false
def SH_ : Prop := ∀ (sh c n : Nat), KT_ sh = (0, c, n) → (∃ (C : String) (T : u_T), cls_[c]? = some (C, T, n)) ∧ ∀ j, j < n → tyok_ (tyF_ c j) (ty_ sh j) = true
def SA_ : Prop := ∀ (sh a c n : Nat), KT_ sh = (a, c, n) → (a = 1 → ∀ j, ty_ sh j = ty_ sh 0 ∧ (ty_ sh 0).1 = 0) ∧ (a = 2 → ∀ j, ty_ sh j = ty_ sh 0 ∧ (ty_ sh 0).1 = 0 ∧ -128 ≤ (ty_ sh 0).2.1 ∧ (ty_ sh 0).2.2 ≤ 127) ∧ (a = 3 → ∀ j, ty_ sh j = ty_ sh 0 ∧ (ty_ sh 0).1 = 0 ∧ 0 ≤ (ty_ sh 0).2.1 ∧ (ty_ sh 0).2.2 ≤ 1) ∧ (a = 4 → ∀ j, ty_ sh j = ty_ sh 0 ∧ (ty_ sh 0).1 = 1) ∧ (a = 5 → (∀ j, ty_ sh j = ty_ sh 0) ∧ (c = 1 ∨ c = 4 ∨ c = 9) ∧ ((ty_ sh 0).1 = 2 ∨ 10 ≤ (ty_ sh 0).1) ∧ (∀ (k z : Int) (j : Nat), rt_ sh k j z = rt_ sh k 0 z)) ∧ (a = 0 → ∀ (k z z' : Int) (j : Nat), rt_ sh k j z = rt_ sh k j z') ∧ (1 ≤ a → a ≤ 4 → ∀ (k z : Int) (j : Nat), rt_ sh k j z = none) ∧ n < 100000
section SND
variable {X : Cx_t} {G : Gx_t} {Q : State → Prop} {cl sl : Nat} {ad shs : List Nat} {σ : Me_t} {pc pc' : Nat} {L S : List Sv_t} {own : String} {cc : ByteArray} {nL : Nat} {rty : Option FieldType}
/-- W, as WP_ ends in it -/
abbrev Wx_ (X : Cx_t) (Q : State → Prop) (cl sl : Nat) (H : Heap) (locs : List Loc) (pc : Nat) (ls : Array Slot) (st : List Value) : Prop := W X.1 X.2.1 X.2.2.1 X.2.2.2.1 X.2.2.2.2.1 X.2.2.2.2.2.1 X.2.2.2.2.2.2.1 X.2.2.2.2.2.2.2.1 X.2.2.2.2.2.2.2.2.1 X.2.2.2.2.2.2.2.2.2 H locs cl sl Q (F0 X.2.2.2.2.2.1 pc ls st)
theorem wpp_ {S' : List Sv_t} (k : WP_ X G Q cl sl ad shs σ pc' L S') (hv : (∀ v ∈ L, tv_ shs v) → (∀ v ∈ S, tv_ shs v) → ∀ v ∈ S', tv_ shs v)
    (h : ∀ (H : Heap) (locs : List Loc) (ls : Array Slot), lh_ G.2.2.1 ad L ls → (∀ v ∈ L, tv_ shs v) → (∀ v ∈ S, tv_ shs v) → Wx_ X Q cl sl H locs pc' ls (S'.map (val_ G.2.2.1 ad)) → Wx_ X Q cl sl H locs pc ls (S.map (val_ G.2.2.1 ad))) : WP_ X G Q cl sl ad shs σ pc L S :=
  fun hM hA H locs ls hP hD hS hl vL vS => h H locs ls hl vL vS (k hM hA H locs ls hP hD hS hl vL (hv vL vS))
theorem rs_ {z : Int} {t : Nat} (h : tv_ shs (t + 10, z)) : 0 ≤ z ∧ shs[z.toNat]? = some t := h
theorem so_iload {n i : Nat} {z : Int} (E : EN_ X G own cc nL rty) (hd : decode cc pc = .ok (.iload n, 2)) (h : L[n]? = some (0, z)) (k : WP_ X G Q cl sl ad shs σ (pc + 2) L ((0, z) :: S)) : WP_ X G Q cl sl ad shs σ pc L S :=
  wpp_ k (fun vL vS => vc_ (vg_ vL h) vS) (fun _ _ _ hl _ _ kk => lv_iload E.1 E.2.1 hd (hl.2.2 n _ h (fun q => by cases q)) kk)
theorem so_iload_n {n : Fin 4} {z : Int} (E : EN_ X G own cc nL rty) (hd : decode cc pc = .ok (.iload_n n, 1)) (h : L[n.val]? = some (0, z)) (k : WP_ X G Q cl sl ad shs σ (pc + 1) L ((0, z) :: S)) : WP_ X G Q cl sl ad shs σ pc L S :=
  wpp_ k (fun vL vS => vc_ (vg_ vL h) vS) (fun _ _ _ hl _ _ kk => lv_iload_n E.1 E.2.1 hd rfl (hl.2.2 n.val _ h (fun q => by cases q)) kk)
theorem so_lload {n : Nat} {z : Int} (E : EN_ X G own cc nL rty) (hd : decode cc pc = .ok (.lload n, 2)) (h : L[n]? = some (1, z)) (k : WP_ X G Q cl sl ad shs σ (pc + 2) L ((1, z) :: S)) : WP_ X G Q cl sl ad shs σ pc L S :=
  wpp_ k (fun vL vS => vc_ (vg_ vL h) vS) (fun _ _ _ hl _ _ kk => lv_lload E.1 E.2.1 hd (hl.2.2 n _ h (fun q => by cases q)) kk)
theorem so_lload_n {n : Fin 4} {z : Int} (E : EN_ X G own cc nL rty) (hd : decode cc pc = .ok (.lload_n n, 1)) (h : L[n.val]? = some (1, z)) (k : WP_ X G Q cl sl ad shs σ (pc + 1) L ((1, z) :: S)) : WP_ X G Q cl sl ad shs σ pc L S :=
  wpp_ k (fun vL vS => vc_ (vg_ vL h) vS) (fun _ _ _ hl _ _ kk => lv_lload_n E.1 E.2.1 hd rfl (hl.2.2 n.val _ h (fun q => by cases q)) kk)
theorem so_aload {n t : Nat} {z : Int} (E : EN_ X G own cc nL rty) (hd : decode cc pc = .ok (.aload n, 2)) (h : L[n]? = some (t + 10, z)) (k : WP_ X G Q cl sl ad shs σ (pc + 2) L ((t + 10, z) :: S)) : WP_ X G Q cl sl ad shs σ pc L S :=
  wpp_ k (fun vL vS => vc_ (vg_ vL h) vS) (fun _ _ _ hl vL _ kk => by
    have e := val_r (cs := G.2.2.1) (ad := ad) (t := t) (rs_ (vg_ vL h)).1
    have h1 := hl.2.2 n _ h (fun q => by simp at q)
    rw [e] at h1
    rw [List.map_cons, e] at kk
    exact lv_aload E.1 E.2.1 hd h1 kk)
theorem so_aload_n {n : Fin 4} {t : Nat} {z : Int} (E : EN_ X G own cc nL rty) (hd : decode cc pc = .ok (.aload_n n, 1)) (h : L[n.val]? = some (t + 10, z)) (k : WP_ X G Q cl sl ad shs σ (pc + 1) L ((t + 10, z) :: S)) : WP_ X G Q cl sl ad shs σ pc L S :=
  wpp_ k (fun vL vS => vc_ (vg_ vL h) vS) (fun _ _ _ hl vL _ kk => by
    have e := val_r (cs := G.2.2.1) (ad := ad) (t := t) (rs_ (vg_ vL h)).1
    have h1 := hl.2.2 n.val _ h (fun q => by simp at q)
    rw [e] at h1
    rw [List.map_cons, e] at kk
    exact lv_aload_n E.1 E.2.1 hd rfl h1 kk)
theorem so_aload4 {n : Nat} {z : Int} (E : EN_ X G own cc nL rty) (hd : decode cc pc = .ok (.aload n, 2)) (h : L[n]? = some (4, z)) (k : WP_ X G Q cl sl ad shs σ (pc + 2) L ((4, z) :: S)) : WP_ X G Q cl sl ad shs σ pc L S :=
  wpp_ k (fun vL vS => vc_ (vg_ vL h) vS) (fun _ _ _ hl _ _ kk => lv_aload E.1 E.2.1 hd (hl.2.2 n _ h (fun q => by cases q)) kk)
theorem so_aload4_n {n : Fin 4} {z : Int} (E : EN_ X G own cc nL rty) (hd : decode cc pc = .ok (.aload_n n, 1)) (h : L[n.val]? = some (4, z)) (k : WP_ X G Q cl sl ad shs σ (pc + 1) L ((4, z) :: S)) : WP_ X G Q cl sl ad shs σ pc L S :=
  wpp_ k (fun vL vS => vc_ (vg_ vL h) vS) (fun _ _ _ hl _ _ kk => lv_aload_n E.1 E.2.1 hd rfl (hl.2.2 n.val _ h (fun q => by cases q)) kk)
/-- a store into a local -/
theorem so_st1 {n : Nat} {v : Sv_t} (hn : n < L.length)
    (h : ∀ (H : Heap) (locs : List Loc) (ls : Array Slot), tv_ shs v → lv_has ls L.length (lvp_ G.2.2.1 ad L) → (∀ ls' : Array Slot, lv_has ls' L.length ((n, val_ G.2.2.1 ad v) :: (lvp_ G.2.2.1 ad L).filter (fun q => !(q.1 == n) && !(q.1 + 1 == n && q.2.category == 2))) → Wx_ X Q cl sl H locs pc' ls' (S.map (val_ G.2.2.1 ad))) → Wx_ X Q cl sl H locs pc ls ((v :: S).map (val_ G.2.2.1 ad)))
    (k : WP_ X G Q cl sl ad shs σ pc' (ls1_ L n v) S) : WP_ X G Q cl sl ad shs σ pc L (v :: S) :=
  fun hM hA H locs ls hP hD hS hl vL vS => h H locs ls (vt_ vS).1 (lh_has hl) fun ls' h' => k hM hA H locs ls' hP hD hS (lh_st1 hn h') (ls1_tv vL (vt_ vS).1) (vt_ vS).2
theorem so_st2 {n : Nat} {v : Sv_t} (hn : n + 1 < L.length)
    (h : ∀ (H : Heap) (locs : List Loc) (ls : Array Slot), tv_ shs v → lv_has ls L.length (lvp_ G.2.2.1 ad L) → (∀ ls' : Array Slot, lv_has ls' L.length ((n, val_ G.2.2.1 ad v) :: (lvp_ G.2.2.1 ad L).filter (fun q => !(q.1 == n) && (!(q.1 == n + 1) && !(q.1 + 1 == n && q.2.category == 2)))) → Wx_ X Q cl sl H locs pc' ls' (S.map (val_ G.2.2.1 ad))) → Wx_ X Q cl sl H locs pc ls ((v :: S).map (val_ G.2.2.1 ad)))
    (k : WP_ X G Q cl sl ad shs σ pc' (ls2_ L n v) S) : WP_ X G Q cl sl ad shs σ pc L (v :: S) :=
  fun hM hA H locs ls hP hD hS hl vL vS => h H locs ls (vt_ vS).1 (lh_has hl) fun ls' h' => k hM hA H locs ls' hP hD hS (lh_st2 hn h') (ls2_tv vL (vt_ vS).1) (vt_ vS).2
theorem so_istore {n : Nat} {z : Int} (E : EN_ X G own cc nL rty) (hd : decode cc pc = .ok (.istore n, 2)) (hn : n < L.length) (k : WP_ X G Q cl sl ad shs σ (pc + 2) (ls1_ L n (0, z)) S) : WP_ X G Q cl sl ad shs σ pc L ((0, z) :: S) :=
  so_st1 hn (fun _ _ _ _ hl kk => lv_istore E.1 E.2.1 hd hl hn rfl kk) k
theorem so_istore_n {n : Fin 4} {z : Int} (E : EN_ X G own cc nL rty) (hd : decode cc pc = .ok (.istore_n n, 1)) (hn : n.val < L.length) (k : WP_ X G Q cl sl ad shs σ (pc + 1) (ls1_ L n.val (0, z)) S) : WP_ X G Q cl sl ad shs σ pc L ((0, z) :: S) :=
  so_st1 hn (fun _ _ _ _ hl kk => lv_istore_n E.1 E.2.1 hd rfl hl hn rfl kk) k
theorem so_lstore {n : Nat} {z : Int} (E : EN_ X G own cc nL rty) (hd : decode cc pc = .ok (.lstore n, 2)) (hn : n + 1 < L.length) (k : WP_ X G Q cl sl ad shs σ (pc + 2) (ls2_ L n (1, z)) S) : WP_ X G Q cl sl ad shs σ pc L ((1, z) :: S) :=
  so_st2 hn (fun _ _ _ _ hl kk => lv_lstore E.1 E.2.1 hd hl hn rfl kk) k
theorem so_lstore_n {n : Fin 4} {z : Int} (E : EN_ X G own cc nL rty) (hd : decode cc pc = .ok (.lstore_n n, 1)) (hn : n.val + 1 < L.length) (k : WP_ X G Q cl sl ad shs σ (pc + 1) (ls2_ L n.val (1, z)) S) : WP_ X G Q cl sl ad shs σ pc L ((1, z) :: S) :=
  so_st2 hn (fun _ _ _ _ hl kk => lv_lstore_n E.1 E.2.1 hd rfl hl hn rfl kk) k
theorem so_astore {n t : Nat} {z : Int} (E : EN_ X G own cc nL rty) (hd : decode cc pc = .ok (.astore n, 2)) (hn : n < L.length) (k : WP_ X G Q cl sl ad shs σ (pc + 2) (ls1_ L n (t + 10, z)) S) : WP_ X G Q cl sl ad shs σ pc L ((t + 10, z) :: S) :=
  so_st1 hn (fun _ _ _ hv hl kk => by
    have e := val_r (cs := G.2.2.1) (ad := ad) (t := t) (rs_ hv).1
    rw [e] at kk
    rw [List.map_cons, e]
    exact lv_astore E.1 E.2.1 hd hl hn rfl kk) k
theorem so_astore_n {n : Fin 4} {t : Nat} {z : Int} (E : EN_ X G own cc nL rty) (hd : decode cc pc = .ok (.astore_n n, 1)) (hn : n.val < L.length) (k : WP_ X G Q cl sl ad shs σ (pc + 1) (ls1_ L n.val (t + 10, z)) S) : WP_ X G Q cl sl ad shs σ pc L ((t + 10, z) :: S) :=
  so_st1 hn (fun _ _ _ hv hl kk => by
    have e := val_r (cs := G.2.2.1) (ad := ad) (t := t) (rs_ hv).1
    rw [e] at kk
    rw [List.map_cons, e]
    exact lv_astore_n E.1 E.2.1 hd rfl hl hn rfl kk) k
theorem so_iinc {n : Nat} {z c : Int} (E : EN_ X G own cc nL rty) (hd : decode cc pc = .ok (.iinc n c, 3)) (h : L[n]? = some (0, z)) (hr : -2147483648 ≤ z + c ∧ z + c ≤ 2147483647) (k : WP_ X G Q cl sl ad shs σ (pc + 3) (ls1_ L n (0, z + c)) S) : WP_ X G Q cl sl ad shs σ pc L S := by
  intro hM hA H locs ls hP hD hS hl vL vS
  have hm : (n, Value.int (Int32.ofInt z)) ∈ lvp_ G.2.2.1 ad L := lvp_mem.mpr ⟨_, h, (fun q => by cases q), rfl⟩
  obtain ⟨i, hi⟩ := List.getElem?_of_mem hm
  have hn : n < L.length := (List.getElem?_eq_some_iff.mp h).1
  refine lv_iinc (v := Int32.ofInt (z + c)) E.1 E.2.1 hd (lh_has hl) hi (by rw [Int32.ofInt_add]) hn rfl fun ls' h' => k hM hA H locs ls' hP hD hS (lh_st1 (v := (0, z + c)) hn h') (ls1_tv vL hr) vS
end SND
end
section
section SN2
variable {X : Cx_t} {G : Gx_t} {Q : State → Prop} {cl sl : Nat} {ad shs : List Nat} {σ : Me_t} {pc pc' : Nat} {L S : List Sv_t} {own : String} {cc : ByteArray} {nL : Nat} {rty : Option FieldType}
theorem i8_c {c : Int} (h1 : -128 ≤ c) (h2 : c ≤ 127) : (Int8.ofInt c).toInt32 = Int32.ofInt c := by
  rw [← Int32.toInt_inj, Int8.toInt_toInt32, Int8.toInt_ofInt_of_le (by omega) (by omega), i3_t (by omega)]
theorem i16_c {c : Int} (h1 : -32768 ≤ c) (h2 : c ≤ 32767) : (Int16.ofInt c).toInt32 = Int32.ofInt c := by
  rw [← Int32.toInt_inj, Int16.toInt_toInt32, Int16.toInt_ofInt_of_le (by omega) (by omega), i3_t (by omega)]
theorem so_iconst {c : Int} (E : EN_ X G own cc nL rty) (hd : decode cc pc = .ok (.iconst c, 1)) (h1 : -128 ≤ c) (h2 : c ≤ 127) (k : WP_ X G Q cl sl ad shs σ (pc + 1) L ((0, c) :: S)) : WP_ X G Q cl sl ad shs σ pc L S :=
  wpp_ k (fun _ vS => vc_ (show -2147483648 ≤ c ∧ c ≤ 2147483647 by omega) vS) (fun _ _ _ _ _ _ kk => lv_iconst E.1 E.2.1 hd rfl kk)
theorem so_bipush {c : Int} (E : EN_ X G own cc nL rty) (hd : decode cc pc = .ok (.bipush c, 2)) (h1 : -128 ≤ c) (h2 : c ≤ 127) (k : WP_ X G Q cl sl ad shs σ (pc + 2) L ((0, c) :: S)) : WP_ X G Q cl sl ad shs σ pc L S :=
  wpp_ k (fun _ vS => vc_ (show -2147483648 ≤ c ∧ c ≤ 2147483647 by omega) vS) (fun _ _ _ _ _ _ kk => lv_bipush E.1 E.2.1 hd (i8_c h1 h2) kk)
theorem so_sipush {c : Int} (E : EN_ X G own cc nL rty) (hd : decode cc pc = .ok (.sipush c, 3)) (h1 : -32768 ≤ c) (h2 : c ≤ 32767) (k : WP_ X G Q cl sl ad shs σ (pc + 3) L ((0, c) :: S)) : WP_ X G Q cl sl ad shs σ pc L S :=
  wpp_ k (fun _ vS => vc_ (show -2147483648 ≤ c ∧ c ≤ 2147483647 by omega) vS) (fun _ _ _ _ _ _ kk => lv_sipush E.1 E.2.1 hd (i16_c h1 h2) kk)
theorem so_lconst0 {c : Fin 2} (E : EN_ X G own cc nL rty) (hd : decode cc pc = .ok (.lconst c, 1)) (h : c.val = 0) (k : WP_ X G Q cl sl ad shs σ (pc + 1) L ((1, 0) :: S)) : WP_ X G Q cl sl ad shs σ pc L S :=
  wpp_ k (fun _ vS => vc_ (show (-9223372036854775808 : Int) ≤ 0 ∧ (0 : Int) ≤ 9223372036854775807 by omega) vS) (fun _ _ _ _ _ _ kk => lv_lconst E.1 E.2.1 hd (by rw [h]; decide) kk)
theorem so_lconst1 {c : Fin 2} (E : EN_ X G own cc nL rty) (hd : decode cc pc = .ok (.lconst c, 1)) (h : ¬ c.val = 0) (k : WP_ X G Q cl sl ad shs σ (pc + 1) L ((1, 1) :: S)) : WP_ X G Q cl sl ad shs σ pc L S :=
  wpp_ k (fun _ vS => vc_ (show (-9223372036854775808 : Int) ≤ 1 ∧ (1 : Int) ≤ 9223372036854775807 by omega) vS) (fun _ _ _ _ _ _ kk => lv_lconst E.1 E.2.1 hd (by rw [show c.val = 1 by omega]; decide) kk)
theorem so_ldc {n : Nat} {kn : List (Nat × Sv_t)} {v : Sv_t} (E : EN_ X G own cc nL rty) (hK : KN_ own kn) (hv : lk_ kn n = some v) (hd : decode cc pc = .ok (.ldc n, 2)) (k : WP_ X G Q cl sl ad shs σ (pc + 2) L (v :: S)) (h0 : v.1 = 0) : WP_ X G Q cl sl ad shs σ pc L S := by
  obtain ⟨t, z⟩ := v
  cases h0
  rcases hK _ (lk_mem hv) with ⟨-, hr, hw⟩ | ⟨h1, -⟩
  · exact wpp_ k (fun _ vS => vc_ hr vS) (fun _ _ _ _ _ _ kk => lv_ldc E.1 E.2.1 E.2.2.2.1 (E.2.2.2.2.1 _ hw) hd kk)
  · cases h1
theorem so_ldcw {n : Nat} {kn : List (Nat × Sv_t)} {v : Sv_t} (E : EN_ X G own cc nL rty) (hK : KN_ own kn) (hv : lk_ kn n = some v) (hd : decode cc pc = .ok (.ldc_w n, 3)) (k : WP_ X G Q cl sl ad shs σ (pc + 3) L (v :: S)) (h0 : v.1 = 0) : WP_ X G Q cl sl ad shs σ pc L S := by
  obtain ⟨t, z⟩ := v
  cases h0
  rcases hK _ (lk_mem hv) with ⟨-, hr, hw⟩ | ⟨h1, -⟩
  · exact wpp_ k (fun _ vS => vc_ hr vS) (fun _ _ _ _ _ _ kk => lv_ldcw E.1 E.2.1 E.2.2.2.1 (E.2.2.2.2.1 _ hw) hd kk)
  · cases h1
theorem so_ldc2 {n : Nat} {kn : List (Nat × Sv_t)} {v : Sv_t} (E : EN_ X G own cc nL rty) (hK : KN_ own kn) (hv : lk_ kn n = some v) (hd : decode cc pc = .ok (.ldc2_w n, 3)) (k : WP_ X G Q cl sl ad shs σ (pc + 3) L (v :: S)) (h0 : v.1 = 1) : WP_ X G Q cl sl ad shs σ pc L S := by
  obtain ⟨t, z⟩ := v
  cases h0
  rcases hK _ (lk_mem hv) with ⟨h1, -⟩ | ⟨-, hr, hw⟩
  · cases h1
  · exact wpp_ k (fun _ vS => vc_ hr vS) (fun _ _ _ _ _ _ kk => lv_ldc2 E.1 E.2.1 E.2.2.2.1 (E.2.2.2.2.1 _ hw) hd kk)
/-- the two ints, the two longs on top -/
theorem so_iadd {a b : Int} (E : EN_ X G own cc nL rty) (hd : decode cc pc = .ok (.iadd, 1)) (hr : -2147483648 ≤ a + b ∧ a + b ≤ 2147483647) (k : WP_ X G Q cl sl ad shs σ (pc + 1) L ((0, a + b) :: S)) : WP_ X G Q cl sl ad shs σ pc L ((0, b) :: (0, a) :: S) :=
  wpp_ k (fun _ vS => vc_ hr (vt_ (vt_ vS).2).2) (fun _ _ _ _ _ _ kk => lv_iadd E.1 E.2.1 hd (by rw [← Int32.ofInt_add]; exact kk))
theorem so_isub {a b : Int} (E : EN_ X G own cc nL rty) (hd : decode cc pc = .ok (.isub, 1)) (hr : -2147483648 ≤ a - b ∧ a - b ≤ 2147483647) (k : WP_ X G Q cl sl ad shs σ (pc + 1) L ((0, a - b) :: S)) : WP_ X G Q cl sl ad shs σ pc L ((0, b) :: (0, a) :: S) :=
  wpp_ k (fun _ vS => vc_ hr (vt_ (vt_ vS).2).2) (fun _ _ _ _ _ _ kk => lv_isub E.1 E.2.1 hd (by rw [← Int32.ofInt_sub]; exact kk))
theorem so_imul {a b : Int} (E : EN_ X G own cc nL rty) (hd : decode cc pc = .ok (.imul, 1)) (hr : -2147483648 ≤ a * b ∧ a * b ≤ 2147483647) (k : WP_ X G Q cl sl ad shs σ (pc + 1) L ((0, a * b) :: S)) : WP_ X G Q cl sl ad shs σ pc L ((0, b) :: (0, a) :: S) :=
  wpp_ k (fun _ vS => vc_ hr (vt_ (vt_ vS).2).2) (fun _ _ _ _ _ _ kk => lv_imul E.1 E.2.1 hd (by rw [← Int32.ofInt_mul]; exact kk))
theorem i3_n0 {b : Int} (hb : -2147483648 ≤ b ∧ b ≤ 2147483647) (h : ¬ b = 0) : ¬ Int32.ofInt b = 0 := fun q => h ((i3_eq hb (by omega)).mp (q.trans i3_z))
theorem i6_n0 {b : Int} (hb : -9223372036854775808 ≤ b ∧ b ≤ 9223372036854775807) (h : ¬ b = 0) : ¬ Int64.ofInt b = 0 := fun q => h ((i6_eq hb (by omega)).mp (q.trans i6_z))
theorem so_idiv {a b : Int} (E : EN_ X G own cc nL rty) (hd : decode cc pc = .ok (.idiv, 1)) (h0 : ¬ b = 0) (hr : -2147483648 ≤ a.tdiv b ∧ a.tdiv b ≤ 2147483647) (k : WP_ X G Q cl sl ad shs σ (pc + 1) L ((0, a.tdiv b) :: S)) : WP_ X G Q cl sl ad shs σ pc L ((0, b) :: (0, a) :: S) :=
  wpp_ k (fun _ vS => vc_ hr (vt_ (vt_ vS).2).2) (fun _ _ _ _ _ vS kk => lv_idiv E.1 E.2.1 hd (i3_n0 (vt_ vS).1 h0) (by rw [i3_div (vt_ (vt_ vS).2).1 (vt_ vS).1 hr]; exact kk))
theorem tm_r {a b : Int} (ha : -2147483648 ≤ a ∧ a ≤ 2147483647) : -2147483648 ≤ a.tmod b ∧ a.tmod b ≤ 2147483647 := by
  have h1 : (a.tmod b).natAbs ≤ a.natAbs := by rw [Int.natAbs_tmod]; exact Nat.mod_le _ _
  rcases Int.le_total 0 a with h0 | h0
  · have := Int.tmod_nonneg b h0
    omega
  · have := Int.tmod_nonneg b (Int.neg_nonneg_of_nonpos h0)
    rw [Int.neg_tmod] at this
    omega
theorem tm_r6 {a b : Int} (ha : -9223372036854775808 ≤ a ∧ a ≤ 9223372036854775807) : -9223372036854775808 ≤ a.tmod b ∧ a.tmod b ≤ 9223372036854775807 := by
  have h1 : (a.tmod b).natAbs ≤ a.natAbs := by rw [Int.natAbs_tmod]; exact Nat.mod_le _ _
  rcases Int.le_total 0 a with h0 | h0
  · have := Int.tmod_nonneg b h0
    omega
  · have := Int.tmod_nonneg b (Int.neg_nonneg_of_nonpos h0)
    rw [Int.neg_tmod] at this
    omega
theorem so_irem {a b : Int} (E : EN_ X G own cc nL rty) (hd : decode cc pc = .ok (.irem, 1)) (h0 : ¬ b = 0) (k : WP_ X G Q cl sl ad shs σ (pc + 1) L ((0, a.tmod b) :: S)) : WP_ X G Q cl sl ad shs σ pc L ((0, b) :: (0, a) :: S) :=
  wpp_ k (fun _ vS => vc_ (tm_r (vt_ (vt_ vS).2).1) (vt_ (vt_ vS).2).2) (fun _ _ _ _ _ vS kk => lv_irem E.1 E.2.1 hd (i3_n0 (vt_ vS).1 h0) (by rw [i3_rem (vt_ (vt_ vS).2).1 (vt_ vS).1]; exact kk))
theorem so_iand {a b : Int} (E : EN_ X G own cc nL rty) (hd : decode cc pc = .ok (.iand, 1)) (k : WP_ X G Q cl sl ad shs σ (pc + 1) L ((0, and3_ a b) :: S)) : WP_ X G Q cl sl ad shs σ pc L ((0, b) :: (0, a) :: S) :=
  wpp_ k (fun _ vS => vc_ (i3_r _) (vt_ (vt_ vS).2).2) (fun _ _ _ _ _ _ kk => lv_iand E.1 E.2.1 hd (by rw [← i3_o (_ &&& _)]; exact kk))
theorem so_ior {a b : Int} (E : EN_ X G own cc nL rty) (hd : decode cc pc = .ok (.ior, 1)) (k : WP_ X G Q cl sl ad shs σ (pc + 1) L ((0, or3_ a b) :: S)) : WP_ X G Q cl sl ad shs σ pc L ((0, b) :: (0, a) :: S) :=
  wpp_ k (fun _ vS => vc_ (i3_r _) (vt_ (vt_ vS).2).2) (fun _ _ _ _ _ _ kk => lv_ior E.1 E.2.1 hd (by rw [← i3_o (_ ||| _)]; exact kk))
theorem so_ixor {a b : Int} (E : EN_ X G own cc nL rty) (hd : decode cc pc = .ok (.ixor, 1)) (k : WP_ X G Q cl sl ad shs σ (pc + 1) L ((0, xor3_ a b) :: S)) : WP_ X G Q cl sl ad shs σ pc L ((0, b) :: (0, a) :: S) :=
  wpp_ k (fun _ vS => vc_ (i3_r _) (vt_ (vt_ vS).2).2) (fun _ _ _ _ _ _ kk => lv_ixor E.1 E.2.1 hd (by rw [← i3_o (_ ^^^ _)]; exact kk))
theorem so_ishl {a b : Int} (E : EN_ X G own cc nL rty) (hd : decode cc pc = .ok (.ishl, 1)) (k : WP_ X G Q cl sl ad shs σ (pc + 1) L ((0, shl3_ a b) :: S)) : WP_ X G Q cl sl ad shs σ pc L ((0, b) :: (0, a) :: S) :=
  wpp_ k (fun _ vS => vc_ (i3_r _) (vt_ (vt_ vS).2).2) (fun _ _ _ _ _ _ kk => lv_ishl E.1 E.2.1 hd (by rw [← i3_o (_ <<< _)]; exact kk))
theorem so_ishr {a b : Int} (E : EN_ X G own cc nL rty) (hd : decode cc pc = .ok (.ishr, 1)) (k : WP_ X G Q cl sl ad shs σ (pc + 1) L ((0, shr3_ a b) :: S)) : WP_ X G Q cl sl ad shs σ pc L ((0, b) :: (0, a) :: S) :=
  wpp_ k (fun _ vS => vc_ (i3_r _) (vt_ (vt_ vS).2).2) (fun _ _ _ _ _ _ kk => lv_ishr E.1 E.2.1 hd (by rw [← i3_o (_ >>> _)]; exact kk))
theorem so_i2b {a : Int} (E : EN_ X G own cc nL rty) (hd : decode cc pc = .ok (.i2b, 1)) (k : WP_ X G Q cl sl ad shs σ (pc + 1) L ((0, i2b_ a) :: S)) : WP_ X G Q cl sl ad shs σ pc L ((0, a) :: S) :=
  wpp_ k (fun _ vS => vc_ (i3_r _) (vt_ vS).2) (fun _ _ _ _ _ _ kk => lv_i2b E.1 E.2.1 hd (i3_o _).symm kk)
theorem so_i2s {a : Int} (E : EN_ X G own cc nL rty) (hd : decode cc pc = .ok (.i2s, 1)) (k : WP_ X G Q cl sl ad shs σ (pc + 1) L ((0, i2s_ a) :: S)) : WP_ X G Q cl sl ad shs σ pc L ((0, a) :: S) :=
  wpp_ k (fun _ vS => vc_ (i3_r _) (vt_ vS).2) (fun _ _ _ _ _ _ kk => lv_i2s E.1 E.2.1 hd (i3_o _).symm kk)
theorem so_i2l {a : Int} (E : EN_ X G own cc nL rty) (hd : decode cc pc = .ok (.i2l, 1)) (k : WP_ X G Q cl sl ad shs σ (pc + 1) L ((1, a) :: S)) : WP_ X G Q cl sl ad shs σ pc L ((0, a) :: S) :=
  wpp_ k (fun _ vS => vc_ (show -9223372036854775808 ≤ a ∧ a ≤ 9223372036854775807 by have h : -2147483648 ≤ a ∧ a ≤ 2147483647 := (vt_ vS).1; omega) (vt_ vS).2) (fun _ _ _ _ _ vS kk => lv_i2l E.1 E.2.1 hd (i3_l (vt_ vS).1) kk)
theorem so_l2i {a : Int} (E : EN_ X G own cc nL rty) (hd : decode cc pc = .ok (.l2i, 1)) (k : WP_ X G Q cl sl ad shs σ (pc + 1) L ((0, l2i_ a) :: S)) : WP_ X G Q cl sl ad shs σ pc L ((1, a) :: S) :=
  wpp_ k (fun _ vS => vc_ (i3_r _) (vt_ vS).2) (fun _ _ _ _ _ _ kk => lv_l2i E.1 E.2.1 hd (i3_o _).symm kk)
theorem so_ladd {a b : Int} (E : EN_ X G own cc nL rty) (hd : decode cc pc = .ok (.ladd, 1)) (hr : -9223372036854775808 ≤ a + b ∧ a + b ≤ 9223372036854775807) (k : WP_ X G Q cl sl ad shs σ (pc + 1) L ((1, a + b) :: S)) : WP_ X G Q cl sl ad shs σ pc L ((1, b) :: (1, a) :: S) :=
  wpp_ k (fun _ vS => vc_ hr (vt_ (vt_ vS).2).2) (fun _ _ _ _ _ _ kk => lv_ladd E.1 E.2.1 hd (by rw [← Int64.ofInt_add]; exact kk))
theorem so_lsub {a b : Int} (E : EN_ X G own cc nL rty) (hd : decode cc pc = .ok (.lsub, 1)) (hr : -9223372036854775808 ≤ a - b ∧ a - b ≤ 9223372036854775807) (k : WP_ X G Q cl sl ad shs σ (pc + 1) L ((1, a - b) :: S)) : WP_ X G Q cl sl ad shs σ pc L ((1, b) :: (1, a) :: S) :=
  wpp_ k (fun _ vS => vc_ hr (vt_ (vt_ vS).2).2) (fun _ _ _ _ _ _ kk => lv_lsub E.1 E.2.1 hd (by rw [← Int64.ofInt_sub]; exact kk))
theorem so_lmul {a b : Int} (E : EN_ X G own cc nL rty) (hd : decode cc pc = .ok (.lmul, 1)) (hr : -9223372036854775808 ≤ a * b ∧ a * b ≤ 9223372036854775807) (k : WP_ X G Q cl sl ad shs σ (pc + 1) L ((1, a * b) :: S)) : WP_ X G Q cl sl ad shs σ pc L ((1, b) :: (1, a) :: S) :=
  wpp_ k (fun _ vS => vc_ hr (vt_ (vt_ vS).2).2) (fun _ _ _ _ _ _ kk => lv_lmul E.1 E.2.1 hd (by rw [← Int64.ofInt_mul]; exact kk))
theorem so_ldiv {a b : Int} (E : EN_ X G own cc nL rty) (hd : decode cc pc = .ok (.ldiv, 1)) (h0 : ¬ b = 0) (hr : -9223372036854775808 ≤ a.tdiv b ∧ a.tdiv b ≤ 9223372036854775807) (k : WP_ X G Q cl sl ad shs σ (pc + 1) L ((1, a.tdiv b) :: S)) : WP_ X G Q cl sl ad shs σ pc L ((1, b) :: (1, a) :: S) :=
  wpp_ k (fun _ vS => vc_ hr (vt_ (vt_ vS).2).2) (fun _ _ _ _ _ vS kk => lv_ldiv E.1 E.2.1 hd (i6_n0 (vt_ vS).1 h0) (by rw [i6_div (vt_ (vt_ vS).2).1 (vt_ vS).1 hr]; exact kk))
theorem so_lrem {a b : Int} (E : EN_ X G own cc nL rty) (hd : decode cc pc = .ok (.lrem, 1)) (h0 : ¬ b = 0) (k : WP_ X G Q cl sl ad shs σ (pc + 1) L ((1, a.tmod b) :: S)) : WP_ X G Q cl sl ad shs σ pc L ((1, b) :: (1, a) :: S) :=
  wpp_ k (fun _ vS => vc_ (tm_r6 (vt_ (vt_ vS).2).1) (vt_ (vt_ vS).2).2) (fun _ _ _ _ _ vS kk => lv_lrem E.1 E.2.1 hd (i6_n0 (vt_ vS).1 h0) (by rw [i6_rem (vt_ (vt_ vS).2).1 (vt_ vS).1]; exact kk))
theorem so_land {a b : Int} (E : EN_ X G own cc nL rty) (hd : decode cc pc = .ok (.land, 1)) (k : WP_ X G Q cl sl ad shs σ (pc + 1) L ((1, and6_ a b) :: S)) : WP_ X G Q cl sl ad shs σ pc L ((1, b) :: (1, a) :: S) :=
  wpp_ k (fun _ vS => vc_ (i6_r _) (vt_ (vt_ vS).2).2) (fun _ _ _ _ _ _ kk => lv_land E.1 E.2.1 hd (by rw [← i6_o (_ &&& _)]; exact kk))
theorem so_lor {a b : Int} (E : EN_ X G own cc nL rty) (hd : decode cc pc = .ok (.lor, 1)) (k : WP_ X G Q cl sl ad shs σ (pc + 1) L ((1, or6_ a b) :: S)) : WP_ X G Q cl sl ad shs σ pc L ((1, b) :: (1, a) :: S) :=
  wpp_ k (fun _ vS => vc_ (i6_r _) (vt_ (vt_ vS).2).2) (fun _ _ _ _ _ _ kk => lv_lor E.1 E.2.1 hd (by rw [← i6_o (_ ||| _)]; exact kk))
theorem so_lshl {a b : Int} (E : EN_ X G own cc nL rty) (hd : decode cc pc = .ok (.lshl, 1)) (k : WP_ X G Q cl sl ad shs σ (pc + 1) L ((1, shl6_ a b) :: S)) : WP_ X G Q cl sl ad shs σ pc L ((0, b) :: (1, a) :: S) :=
  wpp_ k (fun _ vS => vc_ (i6_r _) (vt_ (vt_ vS).2).2) (fun _ _ _ _ _ _ kk => lv_lshl E.1 E.2.1 hd (i6_o _).symm kk)
theorem so_lshr {a b : Int} (E : EN_ X G own cc nL rty) (hd : decode cc pc = .ok (.lshr, 1)) (k : WP_ X G Q cl sl ad shs σ (pc + 1) L ((1, shr6_ a b) :: S)) : WP_ X G Q cl sl ad shs σ pc L ((0, b) :: (1, a) :: S) :=
  wpp_ k (fun _ vS => vc_ (i6_r _) (vt_ (vt_ vS).2).2) (fun _ _ _ _ _ _ kk => lv_lshr E.1 E.2.1 hd (i6_o _).symm kk)
theorem so_lcmp {a b : Int} (E : EN_ X G own cc nL rty) (hd : decode cc pc = .ok (.lcmp, 1)) (k : WP_ X G Q cl sl ad shs σ (pc + 1) L ((0, lcmp_ a b) :: S)) : WP_ X G Q cl sl ad shs σ pc L ((1, b) :: (1, a) :: S) :=
  wpp_ k (fun _ vS => vc_ (lcmp_r _ _) (vt_ (vt_ vS).2).2) (fun _ _ _ _ _ vS kk => W.lcmp E.1 E.2.1 hd (by rw [lcmp_e (vt_ (vt_ vS).2).1 (vt_ vS).1]; exact kk))
theorem cat1_ {cs : Nat → Nat} {v : Sv_t} (h : (v.1 == 1) = false) : (val_ cs ad v).category = 1 := by
  rw [val_cat, if_neg]
  intro q
  simp [q] at h
theorem so_dup {v : Sv_t} (E : EN_ X G own cc nL rty) (hd : decode cc pc = .ok (.dup, 1)) (h : (v.1 == 1) = false) (k : WP_ X G Q cl sl ad shs σ (pc + 1) L (v :: v :: S)) : WP_ X G Q cl sl ad shs σ pc L (v :: S) :=
  wpp_ k (fun _ vS => vc_ (vt_ vS).1 vS) (fun _ _ _ _ _ _ kk => lv_dup E.1 E.2.1 hd (cat1_ h) kk)
theorem so_pop {v : Sv_t} (E : EN_ X G own cc nL rty) (hd : decode cc pc = .ok (.pop, 1)) (h : (v.1 == 1) = false) (k : WP_ X G Q cl sl ad shs σ (pc + 1) L S) : WP_ X G Q cl sl ad shs σ pc L (v :: S) :=
  wpp_ k (fun _ vS => (vt_ vS).2) (fun _ _ _ _ _ _ kk => lv_pop E.1 E.2.1 hd (cat1_ h) kk)
theorem so_dup2 {v w : Sv_t} (E : EN_ X G own cc nL rty) (hd : decode cc pc = .ok (.dup2, 1)) (h : (v.1 == 1) = false) (h' : (w.1 == 1) = false) (k : WP_ X G Q cl sl ad shs σ (pc + 1) L (v :: w :: v :: w :: S)) : WP_ X G Q cl sl ad shs σ pc L (v :: w :: S) :=
  wpp_ k (fun _ vS => vc_ (vt_ vS).1 (vc_ (vt_ (vt_ vS).2).1 vS)) (fun _ _ _ _ _ _ kk => lv_dup2_11 E.1 E.2.1 hd (cat1_ h) (cat1_ h') kk)
theorem so_goto {off : Int} (E : EN_ X G own cc nL rty) (hd : decode cc pc = .ok (.goto off, 3)) (h0 : 0 ≤ (pc : Int) + off) (k : WP_ X G Q cl sl ad shs σ ((pc : Int) + off).toNat L S) : WP_ X G Q cl sl ad shs σ pc L S :=
  wpp_ k (fun _ vS => vS) (fun _ _ _ _ _ _ kk => lv_goto E.1 E.2.1 hd (by omega) kk)
/-- a branch: both ways by their own walks -/
theorem wpb2_ {S' : List Sv_t} {P : Prop} {tgt : Nat} (hv : (∀ v ∈ S, tv_ shs v) → ∀ v ∈ S', tv_ shs v)
    (h : ∀ (H : Heap) (locs : List Loc) (ls : Array Slot), (∀ v ∈ S, tv_ shs v) → (P → Wx_ X Q cl sl H locs tgt ls (S'.map (val_ G.2.2.1 ad))) → (¬ P → Wx_ X Q cl sl H locs pc' ls (S'.map (val_ G.2.2.1 ad))) → Wx_ X Q cl sl H locs pc ls (S.map (val_ G.2.2.1 ad)))
    (k1 : P → WP_ X G Q cl sl ad shs σ tgt L S') (k2 : ¬ P → WP_ X G Q cl sl ad shs σ pc' L S') : WP_ X G Q cl sl ad shs σ pc L S :=
  fun hM hA H locs ls hP hD hS hl vL vS => h H locs ls vS (fun p => k1 p hM hA H locs ls hP hD hS hl vL (hv vS)) (fun p => k2 p hM hA H locs ls hP hD hS hl vL (hv vS))
theorem so_if {c : ClassFile.Cond} {off z : Int} (E : EN_ X G own cc nL rty) (hd : decode cc pc = .ok (.ifCond c off, 3)) (h0 : 0 ≤ (pc : Int) + off) {a b : Prop} (h : cmp0_ c z 0 a b) (k1 : a → WP_ X G Q cl sl ad shs σ ((pc : Int) + off).toNat L S) (k2 : b → WP_ X G Q cl sl ad shs σ (pc + 3) L S) : WP_ X G Q cl sl ad shs σ pc L ((0, z) :: S) := by
  have r0 : (-2147483648 : Int) ≤ 0 ∧ (0 : Int) ≤ 2147483647 := by omega
  have ht : (pc : Int) + off = ((((pc : Int) + off).toNat : Nat) : Int) := by omega
  cases c with
  | eq => exact wpb2_ (P := z = 0) (fun vS => (vt_ vS).2) (fun _ _ _ vS f g => lv_if_eq E.1 E.2.1 hd ht (fun q => f ((i3_eq (vt_ vS).1 r0).mp (q.trans i3_z))) (fun q => g (fun e => q (((i3_eq (vt_ vS).1 r0).mpr e).trans i3_z.symm)))) (fun p => k1 (h.1 p)) (fun p => k2 (h.2 p))
  | ne => exact wpb2_ (P := ¬ z = 0) (fun vS => (vt_ vS).2) (fun _ _ _ vS f g => lv_if_ne E.1 E.2.1 hd ht (fun q => f (fun e => q (((i3_eq (vt_ vS).1 r0).mpr e).trans i3_z.symm))) (fun q => g (fun e => e ((i3_eq (vt_ vS).1 r0).mp (q.trans i3_z))))) (fun p => k1 (h.1 p)) (fun p => k2 (h.2 (Decidable.not_not.mp p)))
  | lt => exact wpb2_ (P := z < 0) (fun vS => (vt_ vS).2) (fun _ _ _ vS f g => lv_if_lt E.1 E.2.1 hd ht (fun q => f ((i3_lt (vt_ vS).1 r0).mp (i3_z ▸ q))) (fun q => g (fun e => q (i3_z ▸ (i3_lt (vt_ vS).1 r0).mpr e)))) (fun p => k1 (h.1 p)) (fun p => k2 (h.2 (by omega)))
  | ge => exact wpb2_ (P := 0 ≤ z) (fun vS => (vt_ vS).2) (fun _ _ _ vS f g => lv_if_ge E.1 E.2.1 hd ht (fun q => f ((i3_le r0 (vt_ vS).1).mp (i3_z ▸ q))) (fun q => g (fun e => q (i3_z ▸ (i3_le r0 (vt_ vS).1).mpr e)))) (fun p => k1 (h.1 p)) (fun p => k2 (h.2 (by omega)))
  | gt => exact wpb2_ (P := 0 < z) (fun vS => (vt_ vS).2) (fun _ _ _ vS f g => lv_if_gt E.1 E.2.1 hd ht (fun q => f ((i3_lt r0 (vt_ vS).1).mp (i3_z ▸ q))) (fun q => g (fun e => q (i3_z ▸ (i3_lt r0 (vt_ vS).1).mpr e)))) (fun p => k1 (h.1 p)) (fun p => k2 (h.2 (by omega)))
  | le => exact wpb2_ (P := z ≤ 0) (fun vS => (vt_ vS).2) (fun _ _ _ vS f g => lv_if_le E.1 E.2.1 hd ht (fun q => f ((i3_le (vt_ vS).1 r0).mp (i3_z ▸ q))) (fun q => g (fun e => q (i3_z ▸ (i3_le (vt_ vS).1 r0).mpr e)))) (fun p => k1 (h.1 p)) (fun p => k2 (h.2 (by omega)))
theorem so_icmp {c : ClassFile.Cond} {off z y : Int} (E : EN_ X G own cc nL rty) (hd : decode cc pc = .ok (.if_icmp c off, 3)) (h0 : 0 ≤ (pc : Int) + off) {a b : Prop} (h : cmp0_ c z y a b) (k1 : a → WP_ X G Q cl sl ad shs σ ((pc : Int) + off).toNat L S) (k2 : b → WP_ X G Q cl sl ad shs σ (pc + 3) L S) : WP_ X G Q cl sl ad shs σ pc L ((0, y) :: (0, z) :: S) := by
  have ht : (pc : Int) + off = ((((pc : Int) + off).toNat : Nat) : Int) := by omega
  cases c with
  | eq => exact wpb2_ (P := z = y) (fun vS => (vt_ (vt_ vS).2).2) (fun _ _ _ vS f g => lv_icmp_eq E.1 E.2.1 hd ht (fun q => f ((i3_eq (vt_ (vt_ vS).2).1 (vt_ vS).1).mp q)) (fun q => g (fun e => q ((i3_eq (vt_ (vt_ vS).2).1 (vt_ vS).1).mpr e)))) (fun p => k1 (h.1 p)) (fun p => k2 (h.2 p))
  | ne => exact wpb2_ (P := ¬ z = y) (fun vS => (vt_ (vt_ vS).2).2) (fun _ _ _ vS f g => lv_icmp_ne E.1 E.2.1 hd ht (fun q => f (fun e => q ((i3_eq (vt_ (vt_ vS).2).1 (vt_ vS).1).mpr e))) (fun q => g (fun e => e ((i3_eq (vt_ (vt_ vS).2).1 (vt_ vS).1).mp q)))) (fun p => k1 (h.1 p)) (fun p => k2 (h.2 (Decidable.not_not.mp p)))
  | lt => exact wpb2_ (P := z < y) (fun vS => (vt_ (vt_ vS).2).2) (fun _ _ _ vS f g => lv_icmp_lt E.1 E.2.1 hd ht (fun q => f ((i3_lt (vt_ (vt_ vS).2).1 (vt_ vS).1).mp q)) (fun q => g (fun e => q ((i3_lt (vt_ (vt_ vS).2).1 (vt_ vS).1).mpr e)))) (fun p => k1 (h.1 p)) (fun p => k2 (h.2 (by omega)))
  | ge => exact wpb2_ (P := y ≤ z) (fun vS => (vt_ (vt_ vS).2).2) (fun _ _ _ vS f g => lv_icmp_ge E.1 E.2.1 hd ht (fun q => f ((i3_le (vt_ vS).1 (vt_ (vt_ vS).2).1).mp q)) (fun q => g (fun e => q ((i3_le (vt_ vS).1 (vt_ (vt_ vS).2).1).mpr e)))) (fun p => k1 (h.1 p)) (fun p => k2 (h.2 (by omega)))
  | gt => exact wpb2_ (P := y < z) (fun vS => (vt_ (vt_ vS).2).2) (fun _ _ _ vS f g => lv_icmp_gt E.1 E.2.1 hd ht (fun q => f ((i3_lt (vt_ vS).1 (vt_ (vt_ vS).2).1).mp q)) (fun q => g (fun e => q ((i3_lt (vt_ vS).1 (vt_ (vt_ vS).2).1).mpr e)))) (fun p => k1 (h.1 p)) (fun p => k2 (h.2 (by omega)))
  | le => exact wpb2_ (P := z ≤ y) (fun vS => (vt_ (vt_ vS).2).2) (fun _ _ _ vS f g => lv_icmp_le E.1 E.2.1 hd ht (fun q => f ((i3_le (vt_ (vt_ vS).2).1 (vt_ vS).1).mp q)) (fun q => g (fun e => q ((i3_le (vt_ (vt_ vS).2).1 (vt_ vS).1).mpr e)))) (fun p => k1 (h.1 p)) (fun p => k2 (h.2 (by omega)))
theorem tsw_at {J : Nat → Prop} {z : Int} : ∀ (offs : List Int) (lo : Int), tsw_ J pc z lo offs → ∀ (n : Nat) (o : Int), offs[n]? = some o → z = lo + n → J ((pc : Int) + o).toNat
  | [], _, _, n, o, h, _ => by simp at h
  | a :: os, lo, h, n, o, hn, hz => by
    obtain ⟨h1, h2⟩ := h
    cases n with
    | zero =>
      rw [List.getElem?_cons_zero] at hn
      cases hn
      exact h1 (by omega)
    | succ n =>
      rw [List.getElem?_cons_succ] at hn
      exact tsw_at os (lo + 1) h2 n o hn (by omega)
theorem so_tsw {d lo hi z : Int} {offs : Array Int} {len : Nat} (E : EN_ X G own cc nL rty) (hd : decode cc pc = .ok (.tableswitch d lo hi offs, len)) (hn : (offs.size : Int) = hi - lo + 1) (h0 : 0 ≤ (pc : Int) + d) (hp : ∀ o ∈ offs.toList, 0 ≤ (pc : Int) + o)
    (h : (z < lo ∨ hi < z → WP_ X G Q cl sl ad shs σ ((pc : Int) + d).toNat L S) ∧ tsw_ (fun t => WP_ X G Q cl sl ad shs σ t L S) pc z lo offs.toList) : WP_ X G Q cl sl ad shs σ pc L ((0, z) :: S) := by
  intro hM hA H locs ls hP hD hS hl vL vS
  have ez : (Int32.ofInt z).toInt = z := i3_t (vt_ vS).1
  by_cases ho : z < lo ∨ hi < z
  · exact lv_tableOut E.1 E.2.1 hd (by rw [ez]; exact ho) (tgt := ((pc : Int) + d).toNat) (by omega) (h.1 ho hM hA H locs ls hP hD hS hl vL (vt_ vS).2)
  · have hlt : (z - lo).toNat < offs.size := by omega
    have hoff : offs[(z - lo).toNat]? = some offs[(z - lo).toNat] := Array.getElem?_eq_getElem hlt
    have hl2 : offs.toList[(z - lo).toNat]? = some offs[(z - lo).toNat] := by rw [Array.getElem?_toList]; exact hoff
    have hk := tsw_at offs.toList lo h.2 (z - lo).toNat _ hl2 (by omega)
    have hpp := hp _ (List.mem_of_getElem? hl2)
    exact lv_tableIn E.1 E.2.1 hd (by rw [ez]; omega) (by rw [ez]; omega) (by rw [ez]; exact hoff) (tgt := ((pc : Int) + offs[(z - lo).toNat]).toNat) (by omega) (hk hM hA H locs ls hP hD hS hl vL (vt_ vS).2)
end SN2
end
section
section SN3
variable {X : Cx_t} {G : Gx_t} {Q : State → Prop} {cl sl : Nat} {ad shs : List Nat} {σ : Me_t} {pc pc' : Nat} {L S : List Sv_t} {own : String} {cc : ByteArray} {nL : Nat} {rty : Option FieldType}
theorem tn_ {z : Int} (h : 0 ≤ z) : ((z.toNat : Nat) : Int) = z := Int.toNat_of_nonneg h
theorem mt_at {o : Int} {t : Nat} {j : Nat} (hM : MT_ shs σ) (h : tv_ shs (t + 10, o)) (hj : j < sz_ t) : ok_ shs t o j (σ o (j : Int)) := by
  have h1 := hM o.toNat t h.2 j hj
  rw [tn_ h.1] at h1
  exact h1
theorem rg_ {N : Nat} {f : Nat → Value} {j : Nat} (h : j < N) : ((List.range N).map f)[j]? = some (f j) := by
  simp [List.getElem?_map, List.getElem?_range h]
theorem so_get {n c jn N : Nat} {ji : Int} {t : Nat} {o : Int} {fl : List (Nat × Nat × Nat × Int)} (hCL : CL_) (hF : FT_ own fl) (E : EN_ X G own cc nL rty) (hd : decode cc pc = .ok (.getfield n, 3)) (hl : lk_ fl n = some (c, jn, ji)) (hK : KT_ t = (0, c, N)) (hj : jn < N)
    (k : WP_ X G Q cl sl ad shs σ (pc + 3) L (((ty_ t jn).1, σ o ji) :: S)) : WP_ X G Q cl sl ad shs σ pc L ((t + 10, o) :: S) := by
  intro hM hA H locs ls hP hD hS hlh vL vS
  have hv := rs_ (vt_ vS).1
  obtain ⟨C, T, N', h1, h2, h3, h4⟩ := hF _ (lk_mem hl)
  simp only at h1 h2 h3 h4
  subst h3
  have hok := mt_at hM (vt_ vS).1 (j := jn) (by unfold sz_; rw [hK]; exact hj)
  rw [List.map_cons, val_r hv.1]
  have he := wl_get (cs := G.2.2.1) (tc := G.2.1) (ad := ad) (σ := σ) hv.2
  rw [ent_0 hK] at he
  refine va_get (cc := cc) E.1 E.2.1 (Ts := gl_) (own := own) (ref := (T jn).1) E.2.2.2.2.1 (hCL c C T N' h1).1 E.2.2.2.1 E.2.2.2.2.2.1 hP o.toNat he h1 jn h2 (E.2.2.2.2.1 _ h4) (fun x h => h) (rg_ hj) hd ?_
  rw [tn_ hv.1]
  exact k hM hA H locs ls hP hD hS hlh vL (vc_ hok.1 (vt_ vS).2)
/-- the memory behind a store -/
theorem mt_ups {o : Int} {t : Nat} {j : Nat} {z : Int} (hM : MT_ shs σ) (h : tv_ shs (t + 10, o)) (hz : ok_ shs t o j z) : MT_ shs (ups_ σ o (j : Int) z) := by
  intro k sh hk i hi
  by_cases e : (k : Int) = o ∧ (i : Int) = (j : Int)
  · obtain ⟨e1, e2⟩ := e
    have e3 : i = j := by omega
    subst e3
    have e4 : o.toNat = k := by omega
    have h := rs_ h
    rw [e4] at h
    have e5 : sh = t := by
      have := hk.symm.trans h.2
      exact Option.some.inj this
    subst e5
    rw [e1, ups_s]
    exact hz
  · have : ups_ σ o (j : Int) z (k : Int) (i : Int) = σ (k : Int) (i : Int) := by
      unfold ups_
      rw [if_neg e]
    rw [this]
    exact hM k sh hk i hi
theorem ups_row {o j z : Int} {a : Nat} (h : (a : Int) ≠ o) : ups_ σ o j z (a : Int) = σ (a : Int) := by
  funext b
  exact ups_n (Or.inl h)
theorem val_fit {cs : Nat → Nat} {ft : FieldType} {t : Nat × Int × Int} {z : Int} (h : tyok_ ft t = true) (hv : tv_ shs (t.1, z)) (hr : t.1 < 2 → t.2.1 ≤ z ∧ z ≤ t.2.2) : narrow ft (val_ cs ad (t.1, z)) = val_ cs ad (t.1, z) ∧ fits ft (val_ cs ad (t.1, z)) = true := by
  obtain ⟨g, lo, hi⟩ := t
  simp only at hv hr ⊢
  have ref : ∀ (ft : FieldType), (g == 2 || Nat.ble 10 g) = true → (∀ v : Value, (v = .null ∨ ∃ a, v = .ref a) → narrow ft v = v ∧ fits ft v = true) → narrow ft (val_ cs ad (g, z)) = val_ cs ad (g, z) ∧ fits ft (val_ cs ad (g, z)) = true := by
    intro ft hg hf
    apply hf
    have : val_ cs ad (g, z) = if z < 0 then .null else .ref (ad.getD z.toNat 0) := by
      simp only [Bool.or_eq_true, beq_iff_eq] at hg
      rcases hg with rfl | hg
      · rfl
      · have h10 := Nat.le_of_ble_eq_true hg
        obtain ⟨u, rfl⟩ : ∃ u, g = u + 10 := ⟨g - 10, by omega⟩
        rfl
    rw [this]
    split
    · exact Or.inl rfl
    · exact Or.inr ⟨_, rfl⟩
  cases ft with
  | int =>
    have : g = 0 := by simpa [tyok_] using h
    subst this
    exact ⟨rfl, rfl⟩
  | boolean =>
    simp only [tyok_, Bool.and_eq_true, beq_iff_eq, decide_eq_true_eq] at h
    obtain ⟨⟨rfl, h1⟩, h2⟩ := h
    have := hr (by omega)
    have hz : z = 0 ∨ z = 1 := by omega
    rcases hz with rfl | rfl
    · exact ⟨(show narrow .boolean (.int (Int32.ofInt 0)) = .int (Int32.ofInt 0) by decide), (show fits .boolean (.int (Int32.ofInt 0)) = true by decide)⟩
    · exact ⟨(show narrow .boolean (.int (Int32.ofInt 1)) = .int (Int32.ofInt 1) by decide), (show fits .boolean (.int (Int32.ofInt 1)) = true by decide)⟩
  | long =>
    have : g = 1 := by simpa [tyok_] using h
    subst this
    exact ⟨rfl, rfl⟩
  | object C => exact ref _ (by simpa [tyok_] using h) (fun v hv => by rcases hv with rfl | ⟨a, rfl⟩ <;> exact ⟨rfl, rfl⟩)
  | array C => exact ref _ (by simpa [tyok_] using h) (fun v hv => by rcases hv with rfl | ⟨a, rfl⟩ <;> exact ⟨rfl, rfl⟩)
  | _ => simp [tyok_] at h
theorem ls_set {N j : Nat} {f g : Nat → Value} {v : Value} (hj : j < N) (hv : g j = v) (hne : ∀ i, i ≠ j → g i = f i) : ((List.range N).map f).set j v = (List.range N).map g := by
  apply List.ext_getElem?
  intro i
  by_cases hi : i = j
  · subst hi
    rw [List.getElem?_set_self (by simpa using hj), rg_ hj, hv]
  · rw [List.getElem?_set_ne (Ne.symm hi)]
    by_cases hN : i < N
    · rw [rg_ hN, rg_ hN, hne i hi]
    · simp [List.getElem?_map, Nat.not_lt.mp hN]
theorem so_put {n c jn N : Nat} {ji : Int} {t : Nat} {o z : Int} {u : Nat} {pl : List (Nat × Nat × Nat × Int)} (hCL : CL_) (hSH : SH_) (hF : PT_ own pl) (E : EN_ X G own cc nL rty) (hd : decode cc pc = .ok (.putfield n, 3)) (hl : lk_ pl n = some (c, jn, ji)) (hK : KT_ t = (0, c, N)) (hj : jn < N)
    (hu : ∀ cs : Nat → Nat, val_ cs ad (u, z) = val_ cs ad ((ty_ t jn).1, z)) (hok : tv_ shs (u, z) → ok_ shs t o jn z)
    (k : WP_ X G Q cl sl ad shs (ups_ σ o ji z) (pc + 3) L S) : WP_ X G Q cl sl ad shs σ pc L ((u, z) :: (t + 10, o) :: S) := by
  intro hM hA H locs ls hP hD hS hlh vL vS
  have hz := hok (vt_ vS).1
  have ho := (vt_ (vt_ vS).2).1
  have hv := rs_ ho
  obtain ⟨C, T, N', h1, h2, h3, h4⟩ := hF.1 _ (lk_mem hl)
  simp only at h1 h2 h3 h4
  subst h3
  have hN : N' = N := by
    obtain ⟨⟨C2, T2, e⟩, -⟩ := hSH t c N hK
    have := h1.symm.trans e
    simp only [Option.some.injEq, Prod.mk.injEq] at this
    exact this.2.2
  have hnf := hF.2 _ (lk_mem hl) C T N' h1
  obtain ⟨q1, q2, q3⟩ := hCL c C T N' h1
  obtain ⟨w1, w2⟩ := val_fit (cs := G.2.2.1) (ad := ad) ((hSH t c N hK).2 jn hj) hz.1 hz.2.1
  rw [List.map_cons, List.map_cons, hu, val_r hv.1]
  have he := wl_get (cs := G.2.2.1) (tc := G.2.1) (ad := ad) (σ := σ) hv.2
  rw [ent_0 hK] at he
  refine va_put (cc := cc) E.1 E.2.1 (Ts := gl_) (own := own) (ref := (T jn).1) E.2.2.2.2.1 q1 (tyF_ c) q2 q3 E.2.2.2.1 E.2.2.2.2.2.1 hP hD hS o.toNat he h1 jn h2 (E.2.2.2.2.1 _ h4) (fun x h => h) hnf (q2 jn h2) w1 w2 (by simpa using hj) hd ?_
  intro H1 locs1 hP1 hD1 hS1
  have eq : (wl_ G.2.2.1 G.2.1 ad shs σ).set o.toNat (ad.getD o.toNat 0, .inr (c, ((List.range N).map fun j => val_ G.2.2.1 ad ((ty_ t j).1, σ (o.toNat : Int) (j : Int))).set jn (val_ G.2.2.1 ad ((ty_ t jn).1, z)))) = wl_ G.2.2.1 G.2.1 ad shs (ups_ σ o (jn : Int) z) := by
    refine wl_set hv.2 ?_ (fun a ha => ups_row (by omega))
    rw [ent_0 hK, tn_ hv.1]
    congr 2
    refine ls_set hj (by rw [ups_s]) (fun i hi => by rw [ups_n (Or.inr (by omega))])
  rw [eq] at hP1 hD1
  exact k (mt_ups hM ho hz) hA H1 locs1 ls hP1 hD1 hS1 hlh vL (vt_ (vt_ vS).2).2
theorem in_ {x : Int} {N : Nat} (h : 0 ≤ x ∧ x < (N : Int)) (hN : N < 100000) : vp_in (Int32.ofInt x) N := by
  rw [vp_in_iff, i3_t (by omega)]
  omega
theorem cl_ {x : Int} (h : 0 ≤ x) (h2 : x ≤ 2147483647) : (Int32.ofInt x).toNatClampNeg = x.toNat := by
  show (Int32.ofInt x).toInt.toNat = x.toNat
  rw [i3_t (by omega)]
theorem so_ild {t N c : Nat} {o x : Int} (hSA : SA_) (E : EN_ X G own cc nL rty) (hd : decode cc pc = .ok (.iaload, 1)) (hK : KT_ t = (1, c, N)) (hx : 0 ≤ x ∧ x < (N : Int)) (k : WP_ X G Q cl sl ad shs σ (pc + 1) L ((0, σ o x) :: S)) : WP_ X G Q cl sl ad shs σ pc L ((0, x) :: (t + 10, o) :: S) := by
  intro hM hA H locs ls hP hD hS hlh vL vS
  have ho := (vt_ (vt_ vS).2).1
  have hv := rs_ ho
  have hsa := hSA t 1 c N hK
  have hok := mt_at hM ho (j := x.toNat) (by unfold sz_; rw [hK]; simp only; omega)
  rw [tn_ hx.1] at hok
  have h0 := hok.1
  rw [(hsa.1 rfl x.toNat).1, (hsa.1 rfl 0).2] at h0
  have he := wl_get (cs := G.2.2.1) (tc := G.2.1) (ad := ad) (σ := σ) hv.2
  rw [ent_1 hK] at he
  rw [List.map_cons, List.map_cons, val_r hv.1]
  refine va_iald (cc := cc) E.1 E.2.1 E.2.2.2.2.2.1 hP o.toNat 0 he rfl (in_ hx hsa.2.2.2.2.2.2.2) hd ?_
  rw [cl_ hx.1 (by have := hsa.2.2.2.2.2.2.2; omega), tn_ hx.1, tn_ hv.1]
  exact k hM hA H locs ls hP hD hS hlh vL (vc_ h0 (vt_ (vt_ vS).2).2)
theorem so_bld {t N c : Nat} {o x : Int} (hSA : SA_) (E : EN_ X G own cc nL rty) (hd : decode cc pc = .ok (.baload, 1)) (hK : KT_ t = (2, c, N)) (hx : 0 ≤ x ∧ x < (N : Int)) (k : WP_ X G Q cl sl ad shs σ (pc + 1) L ((0, σ o x) :: S)) : WP_ X G Q cl sl ad shs σ pc L ((0, x) :: (t + 10, o) :: S) := by
  intro hM hA H locs ls hP hD hS hlh vL vS
  have ho := (vt_ (vt_ vS).2).1
  have hv := rs_ ho
  have hsa := hSA t 2 c N hK
  have hok := mt_at hM ho (j := x.toNat) (by unfold sz_; rw [hK]; simp only; omega)
  rw [tn_ hx.1] at hok
  have h0 := hok.1
  rw [(hsa.2.1 rfl x.toNat).1, (hsa.2.1 rfl 0).2.1] at h0
  have he := wl_get (cs := G.2.2.1) (tc := G.2.1) (ad := ad) (σ := σ) hv.2
  rw [ent_2 hK] at he
  rw [List.map_cons, List.map_cons, val_r hv.1]
  refine va_bald (cc := cc) E.1 E.2.1 E.2.2.2.2.2.1 hP o.toNat 1 he rfl (in_ hx hsa.2.2.2.2.2.2.2) hd ?_
  rw [cl_ hx.1 (by have := hsa.2.2.2.2.2.2.2; omega), tn_ hx.1, tn_ hv.1]
  exact k hM hA H locs ls hP hD hS hlh vL (vc_ h0 (vt_ (vt_ vS).2).2)
theorem so_zld {t N c : Nat} {o x : Int} (hSA : SA_) (E : EN_ X G own cc nL rty) (hd : decode cc pc = .ok (.baload, 1)) (hK : KT_ t = (3, c, N)) (hx : 0 ≤ x ∧ x < (N : Int)) (k : WP_ X G Q cl sl ad shs σ (pc + 1) L ((0, σ o x) :: S)) : WP_ X G Q cl sl ad shs σ pc L ((0, x) :: (t + 10, o) :: S) := by
  intro hM hA H locs ls hP hD hS hlh vL vS
  have ho := (vt_ (vt_ vS).2).1
  have hv := rs_ ho
  have hsa := hSA t 3 c N hK
  have hok := mt_at hM ho (j := x.toNat) (by unfold sz_; rw [hK]; simp only; omega)
  rw [tn_ hx.1] at hok
  have h0 := hok.1
  rw [(hsa.2.2.1 rfl x.toNat).1, (hsa.2.2.1 rfl 0).2.1] at h0
  have he := wl_get (cs := G.2.2.1) (tc := G.2.1) (ad := ad) (σ := σ) hv.2
  rw [ent_3 hK] at he
  rw [List.map_cons, List.map_cons, val_r hv.1]
  refine va_zald (cc := cc) E.1 E.2.1 E.2.2.2.2.2.1 hP o.toNat 2 he rfl (in_ hx hsa.2.2.2.2.2.2.2) hd ?_
  rw [cl_ hx.1 (by have := hsa.2.2.2.2.2.2.2; omega), tn_ hx.1, tn_ hv.1]
  exact k hM hA H locs ls hP hD hS hlh vL (vc_ h0 (vt_ (vt_ vS).2).2)
theorem so_lld {t N c : Nat} {o x : Int} (hSA : SA_) (E : EN_ X G own cc nL rty) (hd : decode cc pc = .ok (.laload, 1)) (hK : KT_ t = (4, c, N)) (hx : 0 ≤ x ∧ x < (N : Int)) (k : WP_ X G Q cl sl ad shs σ (pc + 1) L ((1, σ o x) :: S)) : WP_ X G Q cl sl ad shs σ pc L ((0, x) :: (t + 10, o) :: S) := by
  intro hM hA H locs ls hP hD hS hlh vL vS
  have ho := (vt_ (vt_ vS).2).1
  have hv := rs_ ho
  have hsa := hSA t 4 c N hK
  have hok := mt_at hM ho (j := x.toNat) (by unfold sz_; rw [hK]; simp only; omega)
  rw [tn_ hx.1] at hok
  have h0 := hok.1
  rw [(hsa.2.2.2.1 rfl x.toNat).1, (hsa.2.2.2.1 rfl 0).2] at h0
  have he := wl_get (cs := G.2.2.1) (tc := G.2.1) (ad := ad) (σ := σ) hv.2
  rw [ent_4 hK] at he
  rw [List.map_cons, List.map_cons, val_r hv.1]
  refine va_lald (cc := cc) E.1 E.2.1 E.2.2.2.2.2.1 hP o.toNat 3 he rfl (in_ hx hsa.2.2.2.2.2.2.2) hd ?_
  rw [cl_ hx.1 (by have := hsa.2.2.2.2.2.2.2; omega), tn_ hx.1, tn_ hv.1]
  exact k hM hA H locs ls hP hD hS hlh vL (vc_ h0 (vt_ (vt_ vS).2).2)
theorem so_ald {t N c : Nat} {o x r : Int} (hSA : SA_) (E : EN_ X G own cc nL rty) (hd : decode cc pc = .ok (.aaload, 1)) (hK : KT_ t = (5, c, N)) (hx : 0 ≤ x ∧ x < (N : Int)) (hr : rt_ t o 0 x = some r) (k : WP_ X G Q cl sl ad shs σ (pc + 1) L (((ty_ t 0).1, r) :: S)) : WP_ X G Q cl sl ad shs σ pc L ((0, x) :: (t + 10, o) :: S) := by
  intro hM hA H locs ls hP hD hS hlh vL vS
  have ho := (vt_ (vt_ vS).2).1
  have hv := rs_ ho
  have hsa := hSA t 5 c N hK
  obtain ⟨a1, a2, a3, a4⟩ := hsa.2.2.2.2.1 rfl
  have hok := mt_at hM ho (j := x.toNat) (by unfold sz_; rw [hK]; simp only; omega)
  rw [tn_ hx.1] at hok
  have h0 := hok.1
  rw [a1 x.toNat] at h0
  have er : σ o x = r := hok.2.2 r (by rw [tn_ hx.1, a4]; exact hr)
  rw [er] at h0
  have he := wl_get (cs := G.2.2.1) (tc := G.2.1) (ad := ad) (σ := σ) hv.2
  rw [ent_5 hK] at he
  rw [List.map_cons, List.map_cons, val_r hv.1]
  have hkk := k hM hA H locs ls hP hD hS hlh vL (vc_ h0 (vt_ (vt_ vS).2).2)
  have e1 : (Int32.ofInt x).toNatClampNeg = x.toNat := cl_ hx.1 (by have := hsa.2.2.2.2.2.2.2; omega)
  have ev : va_rf (if σ (o.toNat : Int) ((Int32.ofInt x).toNatClampNeg : Int) < 0 then none else some (ad.getD (σ (o.toNat : Int) ((Int32.ofInt x).toNatClampNeg : Int)).toNat 0)) = val_ G.2.2.1 ad ((ty_ t 0).1, r) := by
    rw [e1, tn_ hx.1, tn_ hv.1, er]
    have : val_ G.2.2.1 ad ((ty_ t 0).1, r) = if r < 0 then .null else .ref (ad.getD r.toNat 0) := by
      rcases a3 with e | e
      · rw [e]; rfl
      · obtain ⟨u, hu⟩ : ∃ u, (ty_ t 0).1 = u + 10 := ⟨(ty_ t 0).1 - 10, by omega⟩
        rw [hu]; rfl
    rw [this]
    split <;> rfl
  have hkk2 : Wx_ X Q cl sl H locs (pc + 1) ls (va_rf (if σ (o.toNat : Int) ((Int32.ofInt x).toNatClampNeg : Int) < 0 then none else some (ad.getD (σ (o.toNat : Int) ((Int32.ofInt x).toNatClampNeg : Int)).toNat 0)) :: S.map (val_ G.2.2.1 ad)) := by
    rw [ev]
    exact hkk
  rcases a2 with rfl | rfl | rfl
  · exact va_aldq (cc := cc) E.1 E.2.1 E.2.2.2.2.2.1 hP o.toNat 4 he rfl (in_ hx hsa.2.2.2.2.2.2.2) hd hkk2
  · exact va_aldq (cc := cc) E.1 E.2.1 E.2.2.2.2.2.1 hP o.toNat 5 he rfl (in_ hx hsa.2.2.2.2.2.2.2) hd hkk2
  · exact va_aldq (cc := cc) E.1 E.2.1 E.2.2.2.2.2.1 hP o.toNat 6 he rfl (in_ hx hsa.2.2.2.2.2.2.2) hd hkk2
end SN3
end
section
section SN4
variable {X : Cx_t} {G : Gx_t} {Q : State → Prop} {cl sl : Nat} {ad shs : List Nat} {σ : Me_t} {pc pc' : Nat} {L S : List Sv_t} {own : String} {cc : ByteArray} {nL : Nat} {rty : Option FieldType}
theorem upd_fn {o x z : Int} (hx : 0 ≤ x) : (fun j : Nat => Int32.ofInt (ups_ σ o x z o (j : Int))) = upd (fun j : Nat => Int32.ofInt (σ o (j : Int))) x.toNat (Int32.ofInt z) := by
  funext j
  unfold upd
  by_cases h : j = x.toNat
  · rw [if_pos h, show (j : Int) = x by omega, ups_s]
  · rw [if_neg h, ups_n (Or.inr (by omega))]
theorem updL_fn {o x z : Int} (hx : 0 ≤ x) : (fun j : Nat => Int64.ofInt (ups_ σ o x z o (j : Int))) = vp_updL (fun j : Nat => Int64.ofInt (σ o (j : Int))) x.toNat (Int64.ofInt z) := by
  funext j
  unfold vp_updL
  by_cases h : j = x.toNat
  · rw [if_pos h, show (j : Int) = x by omega, ups_s]
  · rw [if_neg h, ups_n (Or.inr (by omega))]
theorem nb_ {z : Int} (h1 : -128 ≤ z) (h2 : z ≤ 127) : vp_nar .byte (Int32.ofInt z) = Int32.ofInt z := by
  rw [vp_nar_byte, ← Int32.toInt_inj, Int8.toInt_toInt32, i3_t (by omega)]
  have : (Int32.ofInt z).toInt8 = Int8.ofInt z := by
    rw [← Int8.toInt_inj, Int32.toInt_toInt8, i3_t (by omega), Int8.toInt_ofInt]
  rw [this, Int8.toInt_ofInt_of_le (by omega) (by omega)]
theorem nz_ {z : Int} (h1 : 0 ≤ z) (h2 : z ≤ 1) : vp_nar .boolean (Int32.ofInt z) = Int32.ofInt z := by
  have hz : z = 0 ∨ z = 1 := by omega
  rcases hz with rfl | rfl
  · decide
  · decide
theorem mt_el {t N a c : Nat} {o x z : Int} (hK : KT_ t = (a, c, N)) (hM : MT_ shs σ) (ho : tv_ shs (t + 10, o)) (hx : 0 ≤ x ∧ x < (N : Int)) (hz : ok_ shs t o x.toNat z) : MT_ shs (ups_ σ o x z) := by
  have := mt_ups (j := x.toNat) hM ho hz
  rw [tn_ hx.1] at this
  exact this
theorem so_ist {t N c : Nat} {o x z : Int} (hSA : SA_) (E : EN_ X G own cc nL rty) (hd : decode cc pc = .ok (.iastore, 1)) (hK : KT_ t = (1, c, N)) (hx : 0 ≤ x ∧ x < (N : Int)) (hz : tv_ shs (0, z) → (ty_ t 0).2.1 ≤ z ∧ z ≤ (ty_ t 0).2.2) (k : WP_ X G Q cl sl ad shs (ups_ σ o x z) (pc + 1) L S) : WP_ X G Q cl sl ad shs σ pc L ((0, z) :: (0, x) :: (t + 10, o) :: S) := by
  intro hM hA H locs ls hP hD hS hlh vL vS
  have vz := (vt_ vS).1
  have ho := (vt_ (vt_ (vt_ vS).2).2).1
  have hv := rs_ ho
  have hsa := hSA t 1 c N hK
  have hok : ok_ shs t o x.toNat z := by
    obtain ⟨e1, e2⟩ := hsa.1 rfl x.toNat
    refine ⟨by rw [e1, e2]; exact vz, fun _ => by rw [e1]; exact hz vz, fun r hr => ?_⟩
    rw [hsa.2.2.2.2.2.2.1 (by omega) (by omega)] at hr
    cases hr
  have he := wl_get (cs := G.2.2.1) (tc := G.2.1) (ad := ad) (σ := σ) hv.2
  rw [ent_1 hK] at he
  rw [List.map_cons, List.map_cons, List.map_cons, val_r hv.1]
  refine va_iast (cc := cc) E.1 E.2.1 E.2.2.2.2.2.1 hP hD hS o.toNat 0 he rfl (in_ hx hsa.2.2.2.2.2.2.2) hd ?_
  intro H1 locs1 hP1 hD1 hS1
  have eq : (wl_ G.2.2.1 G.2.1 ad shs σ).set o.toNat (ad.getD o.toNat 0, .inl (G.2.1 1, N, .inl (upd (fun j : Nat => Int32.ofInt (σ (o.toNat : Int) (j : Int))) (Int32.ofInt x).toNatClampNeg (Int32.ofInt z)))) = wl_ G.2.2.1 G.2.1 ad shs (ups_ σ o x z) := by
    refine wl_set hv.2 ?_ (fun a ha => ups_row (by omega))
    rw [ent_1 hK, tn_ hv.1, upd_fn hx.1, cl_ hx.1 (by have := hsa.2.2.2.2.2.2.2; omega)]
  rw [eq] at hP1 hD1
  exact k (mt_el hK hM ho hx hok) hA H1 locs1 ls hP1 hD1 hS1 hlh vL (vt_ (vt_ (vt_ vS).2).2).2
theorem so_bst {t N c : Nat} {o x z : Int} (hSA : SA_) (E : EN_ X G own cc nL rty) (hd : decode cc pc = .ok (.bastore, 1)) (hK : KT_ t = (2, c, N)) (hx : 0 ≤ x ∧ x < (N : Int)) (hz : (ty_ t 0).2.1 ≤ z ∧ z ≤ (ty_ t 0).2.2) (k : WP_ X G Q cl sl ad shs (ups_ σ o x z) (pc + 1) L S) : WP_ X G Q cl sl ad shs σ pc L ((0, z) :: (0, x) :: (t + 10, o) :: S) := by
  intro hM hA H locs ls hP hD hS hlh vL vS
  have vz := (vt_ vS).1
  have ho := (vt_ (vt_ (vt_ vS).2).2).1
  have hv := rs_ ho
  have hsa := hSA t 2 c N hK
  obtain ⟨e1, e2, e3, e4⟩ := hsa.2.1 rfl x.toNat
  have hok : ok_ shs t o x.toNat z := by
    refine ⟨by rw [e1, e2]; exact vz, fun _ => by rw [e1]; exact hz, fun r hr => ?_⟩
    rw [hsa.2.2.2.2.2.2.1 (by omega) (by omega)] at hr
    cases hr
  have he := wl_get (cs := G.2.2.1) (tc := G.2.1) (ad := ad) (σ := σ) hv.2
  rw [ent_2 hK] at he
  rw [List.map_cons, List.map_cons, List.map_cons, val_r hv.1]
  refine va_bast (cc := cc) E.1 E.2.1 E.2.2.2.2.2.1 hP hD hS o.toNat 1 he rfl (in_ hx hsa.2.2.2.2.2.2.2) hd ?_
  intro H1 locs1 hP1 hD1 hS1
  have eq : (wl_ G.2.2.1 G.2.1 ad shs σ).set o.toNat (ad.getD o.toNat 0, .inl (G.2.1 2, N, .inl (upd (fun j : Nat => Int32.ofInt (σ (o.toNat : Int) (j : Int))) (Int32.ofInt x).toNatClampNeg (vp_nar .byte (Int32.ofInt z))))) = wl_ G.2.2.1 G.2.1 ad shs (ups_ σ o x z) := by
    refine wl_set hv.2 ?_ (fun a ha => ups_row (by omega))
    rw [ent_2 hK, tn_ hv.1, upd_fn hx.1, cl_ hx.1 (by have := hsa.2.2.2.2.2.2.2; omega), nb_ (by omega) (by omega)]
  rw [eq] at hP1 hD1
  exact k (mt_el hK hM ho hx hok) hA H1 locs1 ls hP1 hD1 hS1 hlh vL (vt_ (vt_ (vt_ vS).2).2).2
theorem so_zst {t N c : Nat} {o x z : Int} (hSA : SA_) (E : EN_ X G own cc nL rty) (hd : decode cc pc = .ok (.bastore, 1)) (hK : KT_ t = (3, c, N)) (hx : 0 ≤ x ∧ x < (N : Int)) (hz : (ty_ t 0).2.1 ≤ z ∧ z ≤ (ty_ t 0).2.2) (k : WP_ X G Q cl sl ad shs (ups_ σ o x z) (pc + 1) L S) : WP_ X G Q cl sl ad shs σ pc L ((0, z) :: (0, x) :: (t + 10, o) :: S) := by
  intro hM hA H locs ls hP hD hS hlh vL vS
  have vz := (vt_ vS).1
  have ho := (vt_ (vt_ (vt_ vS).2).2).1
  have hv := rs_ ho
  have hsa := hSA t 3 c N hK
  obtain ⟨e1, e2, e3, e4⟩ := hsa.2.2.1 rfl x.toNat
  have hok : ok_ shs t o x.toNat z := by
    refine ⟨by rw [e1, e2]; exact vz, fun _ => by rw [e1]; exact hz, fun r hr => ?_⟩
    rw [hsa.2.2.2.2.2.2.1 (by omega) (by omega)] at hr
    cases hr
  have he := wl_get (cs := G.2.2.1) (tc := G.2.1) (ad := ad) (σ := σ) hv.2
  rw [ent_3 hK] at he
  rw [List.map_cons, List.map_cons, List.map_cons, val_r hv.1]
  refine va_zast (cc := cc) E.1 E.2.1 E.2.2.2.2.2.1 hP hD hS o.toNat 2 he rfl (in_ hx hsa.2.2.2.2.2.2.2) hd ?_
  intro H1 locs1 hP1 hD1 hS1
  have eq : (wl_ G.2.2.1 G.2.1 ad shs σ).set o.toNat (ad.getD o.toNat 0, .inl (G.2.1 3, N, .inl (upd (fun j : Nat => Int32.ofInt (σ (o.toNat : Int) (j : Int))) (Int32.ofInt x).toNatClampNeg (vp_nar .boolean (Int32.ofInt z))))) = wl_ G.2.2.1 G.2.1 ad shs (ups_ σ o x z) := by
    refine wl_set hv.2 ?_ (fun a ha => ups_row (by omega))
    rw [ent_3 hK, tn_ hv.1, upd_fn hx.1, cl_ hx.1 (by have := hsa.2.2.2.2.2.2.2; omega), nz_ (by omega) (by omega)]
  rw [eq] at hP1 hD1
  exact k (mt_el hK hM ho hx hok) hA H1 locs1 ls hP1 hD1 hS1 hlh vL (vt_ (vt_ (vt_ vS).2).2).2
theorem so_lst {t N c : Nat} {o x z : Int} (hSA : SA_) (E : EN_ X G own cc nL rty) (hd : decode cc pc = .ok (.lastore, 1)) (hK : KT_ t = (4, c, N)) (hx : 0 ≤ x ∧ x < (N : Int)) (hz : tv_ shs (1, z) → (ty_ t 0).2.1 ≤ z ∧ z ≤ (ty_ t 0).2.2) (k : WP_ X G Q cl sl ad shs (ups_ σ o x z) (pc + 1) L S) : WP_ X G Q cl sl ad shs σ pc L ((1, z) :: (0, x) :: (t + 10, o) :: S) := by
  intro hM hA H locs ls hP hD hS hlh vL vS
  have vz := (vt_ vS).1
  have ho := (vt_ (vt_ (vt_ vS).2).2).1
  have hv := rs_ ho
  have hsa := hSA t 4 c N hK
  obtain ⟨e1, e2⟩ := hsa.2.2.2.1 rfl x.toNat
  have hok : ok_ shs t o x.toNat z := by
    refine ⟨by rw [e1, e2]; exact vz, fun _ => by rw [e1]; exact hz vz, fun r hr => ?_⟩
    rw [hsa.2.2.2.2.2.2.1 (by omega) (by omega)] at hr
    cases hr
  have he := wl_get (cs := G.2.2.1) (tc := G.2.1) (ad := ad) (σ := σ) hv.2
  rw [ent_4 hK] at he
  rw [List.map_cons, List.map_cons, List.map_cons, val_r hv.1]
  refine va_last (cc := cc) E.1 E.2.1 E.2.2.2.2.2.1 hP hD hS o.toNat 3 he rfl (in_ hx hsa.2.2.2.2.2.2.2) hd ?_
  intro H1 locs1 hP1 hD1 hS1
  have eq : (wl_ G.2.2.1 G.2.1 ad shs σ).set o.toNat (ad.getD o.toNat 0, .inl (G.2.1 4, N, .inr (.inl (vp_updL (fun j : Nat => Int64.ofInt (σ (o.toNat : Int) (j : Int))) (Int32.ofInt x).toNatClampNeg (Int64.ofInt z))))) = wl_ G.2.2.1 G.2.1 ad shs (ups_ σ o x z) := by
    refine wl_set hv.2 ?_ (fun a ha => ups_row (by omega))
    rw [ent_4 hK, tn_ hv.1, updL_fn hx.1, cl_ hx.1 (by have := hsa.2.2.2.2.2.2.2; omega)]
  rw [eq] at hP1 hD1
  exact k (mt_el hK hM ho hx hok) hA H1 locs1 ls hP1 hD1 hS1 hlh vL (vt_ (vt_ (vt_ vS).2).2).2
theorem so_alen {t N a c : Nat} {o : Int} (hSA : SA_) (E : EN_ X G own cc nL rty) (hd : decode cc pc = .ok (.arraylength, 1)) (hK : KT_ t = (a, c, N)) (ha : 1 ≤ a ∧ a ≤ 5) (k : WP_ X G Q cl sl ad shs σ (pc + 1) L ((0, (N : Int)) :: S)) : WP_ X G Q cl sl ad shs σ pc L ((t + 10, o) :: S) := by
  intro hM hA H locs ls hP hD hS hlh vL vS
  have ho := (vt_ vS).1
  have hv := rs_ ho
  have hsa := hSA t a c N hK
  have hN := hsa.2.2.2.2.2.2.2
  have he := wl_get (cs := G.2.2.1) (tc := G.2.1) (ad := ad) (σ := σ) hv.2
  have kk := k hM hA H locs ls hP hD hS hlh vL (vc_ (show -2147483648 ≤ (N : Int) ∧ (N : Int) ≤ 2147483647 by omega) (vt_ vS).2)
  rw [List.map_cons, val_r hv.1]
  have e0 : Int32.ofNat N = Int32.ofInt (N : Int) := rfl
  have ha' : a = 1 ∨ a = 2 ∨ a = 3 ∨ a = 4 ∨ a = 5 := by omega
  rcases ha' with rfl | rfl | rfl | rfl | rfl
  · rw [ent_1 hK] at he
    exact va_alen (cc := cc) E.1 E.2.1 E.2.2.2.2.2.1 hP o.toNat 0 he rfl e0 hd kk
  · rw [ent_2 hK] at he
    exact va_alen (cc := cc) E.1 E.2.1 E.2.2.2.2.2.1 hP o.toNat 1 he rfl e0 hd kk
  · rw [ent_3 hK] at he
    exact va_alen (cc := cc) E.1 E.2.1 E.2.2.2.2.2.1 hP o.toNat 2 he rfl e0 hd kk
  · rw [ent_4 hK] at he
    exact va_alen (cc := cc) E.1 E.2.1 E.2.2.2.2.2.1 hP o.toNat 3 he rfl e0 hd kk
  · rw [ent_5 hK] at he
    obtain ⟨-, a2, -⟩ := hsa.2.2.2.2.1 rfl
    rcases a2 with rfl | rfl | rfl
    · exact va_alen (cc := cc) E.1 E.2.1 E.2.2.2.2.2.1 hP o.toNat 4 he rfl e0 hd kk
    · exact va_alen (cc := cc) E.1 E.2.1 E.2.2.2.2.2.1 hP o.toNat 5 he rfl e0 hd kk
    · exact va_alen (cc := cc) E.1 E.2.1 E.2.2.2.2.2.1 hP o.toNat 6 he rfl e0 hd kk
end SN4
end
section
/-! A ROW OF INSTRUCTIONS -/
abbrev Ci_t : Type := List (Nat × Instr × Nat)
def wpb_ (fl pl : List (Nat × Nat × Nat × Int)) (kn : List (Nat × Sv_t)) (cal : List (Nat × Nat × Tr_t)) (rk : Nat) (Ret : List Sv_t → Me_t → Prop) (J : Nat → List Sv_t → List Sv_t → Me_t → Prop) (scr : Nat × (Int → Int)) : Ci_t → List Sv_t → List Sv_t → Me_t → Prop
  | [], _, _, _ => False
  | q :: cs, L, S, σ => stp_ fl pl kn cal rk Ret J scr q.1 q.2.1 L S σ (wpb_ fl pl kn cal rk Ret J scr cs)
/-- places and lengths fit; jumps stay at 0 and above; constants of the right kind -/
def jok_ (kn : List (Nat × Sv_t)) (pc : Nat) (i : Instr) (len : Nat) : Bool := match i with
  | .ifCond _ o => decide (0 ≤ (pc : Int) + o) && len == 3
  | .if_icmp _ o => decide (0 ≤ (pc : Int) + o) && len == 3
  | .goto o => decide (0 ≤ (pc : Int) + o) && len == 3
  | .tableswitch d lo hi offs => decide (0 ≤ (pc : Int) + d) && offs.toList.all (fun o => decide (0 ≤ (pc : Int) + o)) && decide ((offs.size : Int) = hi - lo + 1)
  | .ldc n => (match lk_ kn n with | some v => v.1 == 0 | none => true) && len == 2
  | .ldc_w n => (match lk_ kn n with | some v => v.1 == 0 | none => true) && len == 3
  | .ldc2_w n => (match lk_ kn n with | some v => v.1 == 1 | none => true) && len == 3
  | i => len == ln_ i
def ck_ (kn : List (Nat × Sv_t)) : Ci_t → Bool
  | [] => true
  | q :: cs => jok_ kn q.1 q.2.1 q.2.2 && (match cs with | [] => true | q2 :: _ => q.1 + q.2.2 == q2.1) && ck_ kn cs
section BLK
variable {X : Cx_t} {G : Gx_t} {Q : State → Prop} {cl sl : Nat} {ad shs : List Nat} {σ : Me_t} {pc pc' : Nat} {L S : List Sv_t} {own : String} {cc : ByteArray} {nL : Nat} {rty : Option FieldType}
/-- a call by its transformer -/
def COK_ (X : Cx_t) (G : Gx_t) (Q : State → Prop) (cl sl : Nat) (ad shs : List Nat) (cc : ByteArray) (nL : Nat) (n na : Nat) (T : Tr_t) : Prop :=
  ∀ (pc : Nat) (i : Instr) (σ : Me_t) (L as S : List Sv_t) (k : List Sv_t → Me_t → Prop), ((i = .invokevirtual (n / 2) ∧ n % 2 = 0) ∨ (i = .invokestatic (n / 2) ∧ n % 2 = 1)) → decode cc pc = .ok (i, 3) → as.length = na → csum_ S ≤ 8 → L.length = nL → T as σ k → (∀ r σ', k r σ' → WP_ X G Q cl sl ad shs σ' (pc + 3) L (r ++ S)) → WP_ X G Q cl sl ad shs σ pc L (as.reverse ++ S)
/-- what the end asks -/
def ROK_ (X : Cx_t) (G : Gx_t) (Q : State → Prop) (cl sl : Nat) (ad shs : List Nat) (cc : ByteArray) (rk : Nat) (Ret : List Sv_t → Me_t → Prop) : Prop :=
  ∀ (pc : Nat) (σ : Me_t) (L S : List Sv_t), ((decode cc pc = .ok (.ireturn, 1) ∧ ∃ z, S = [(0, z)] ∧ (rk = 1 ∨ rk = 2 ∧ 0 ≤ z ∧ z ≤ 1)) ∨ (decode cc pc = .ok (.lreturn, 1) ∧ rk = 3 ∧ ∃ z, S = [(1, z)]) ∨ (decode cc pc = .ok (.areturn, 1) ∧ rk = 4 ∧ ∃ t z, S = [(t + 10, z)]) ∨ (decode cc pc = .ok (.return_, 1) ∧ rk = 0 ∧ S = [])) → Ret S σ → WP_ X G Q cl sl ad shs σ pc L S
/-- the script -/
def SOK_ (X : Cx_t) (G : Gx_t) (Q : State → Prop) (cl sl : Nat) (ad shs : List Nat) (cc : ByteArray) (scr : Nat × (Int → Int)) : Prop :=
  ∀ (pc : Nat) (σ : Me_t) (L S : List Sv_t), (∀ x : Int, decode cc pc = .ok (.iaload, 1) → 0 ≤ x ∧ x < (scr.1 : Int) → WP_ X G Q cl sl ad shs σ (pc + 1) L ((0, scr.2 x) :: S) → WP_ X G Q cl sl ad shs σ pc L ((0, x) :: (4, 0) :: S)) ∧ (decode cc pc = .ok (.arraylength, 1) → WP_ X G Q cl sl ad shs σ (pc + 1) L ((0, (scr.1 : Int)) :: S) → WP_ X G Q cl sl ad shs σ pc L ((4, 0) :: S))
theorem SOK_no {scr : Nat × (Int → Int)} (h : True) : True := h
theorem blt_ {a b : Nat} (h : a.blt b = true) : a < b := by
  unfold Nat.blt at h
  exact Nat.le_of_ble_eq_true h
set_option maxHeartbeats 2000000 in
theorem stp_ok {fl pl : List (Nat × Nat × Nat × Int)} {kn : List (Nat × Sv_t)} {cal : List (Nat × Nat × Tr_t)} {rk : Nat} {Ret : List Sv_t → Me_t → Prop} {scr : Nat × (Int → Int)} {i : Instr} {len : Nat} {k : List Sv_t → List Sv_t → Me_t → Prop}
    (hCL : CL_) (hSH : SH_) (hSA : SA_) (hF : FT_ own fl) (hP : PT_ own pl) (hK : KN_ own kn) (hC : ∀ n na T, lk_ cal n = some (na, T) → COK_ X G Q cl sl ad shs cc nL n na T) (hR : ROK_ X G Q cl sl ad shs cc rk Ret) (hS : SOK_ X G Q cl sl ad shs cc scr)
    (E : EN_ X G own cc nL rty) (hd : decode cc pc = .ok (i, len)) (hj : jok_ kn pc i len = true) (hL : L.length = nL) (h : stp_ fl pl kn cal rk Ret (fun tg L' S' σ' => WP_ X G Q cl sl ad shs σ' tg L' S') scr pc i L S σ k)
    (hk : ∀ L' S' σ', L'.length = nL → k L' S' σ' → WP_ X G Q cl sl ad shs σ' (pc + len) L' S') : WP_ X G Q cl sl ad shs σ pc L S := by
  have l1 : ∀ n v, (ls1_ L n v).length = nL := fun n v => by simp [ls1_, ls0_len, hL]
  have l2 : ∀ n v, (ls2_ L n v).length = nL := fun n v => by simp [ls2_, ls0_len, hL]
  cases i with
  | iload n =>
    have e : len = 2 := by simpa [jok_, ln_] using hj
    subst e
    simp only [stp_] at h
    split at h
    next z hz => exact so_iload (i := 0) E hd hz (hk _ _ _ hL h)
    next => exact h.elim
  | iload_n n =>
    have e : len = 1 := by simpa [jok_, ln_] using hj
    subst e
    simp only [stp_] at h
    split at h
    next z hz => exact so_iload_n E hd hz (hk _ _ _ hL h)
    next => exact h.elim
  | lload n =>
    have e : len = 2 := by simpa [jok_, ln_] using hj
    subst e
    simp only [stp_] at h
    split at h
    next z hz => exact so_lload E hd hz (hk _ _ _ hL h)
    next => exact h.elim
  | lload_n n =>
    have e : len = 1 := by simpa [jok_, ln_] using hj
    subst e
    simp only [stp_] at h
    split at h
    next z hz => exact so_lload_n E hd hz (hk _ _ _ hL h)
    next => exact h.elim
  | aload n =>
    have e : len = 2 := by simpa [jok_, ln_] using hj
    subst e
    simp only [stp_] at h
    split at h
    next z hz => exact so_aload4 E hd hz (hk _ _ _ hL h)
    next t z hz => exact so_aload E hd hz (hk _ _ _ hL h)
    next => exact h.elim
  | aload_n n =>
    have e : len = 1 := by simpa [jok_, ln_] using hj
    subst e
    simp only [stp_] at h
    split at h
    next z hz => exact so_aload4_n E hd hz (hk _ _ _ hL h)
    next t z hz => exact so_aload_n E hd hz (hk _ _ _ hL h)
    next => exact h.elim
  | istore n =>
    have e : len = 2 := by simpa [jok_, ln_] using hj
    subst e
    simp only [stp_] at h
    split at h
    next z S' =>
      cases hb : n.blt L.length with
      | true => rw [hb] at h; exact so_istore E hd (blt_ hb) (hk _ _ _ (l1 _ _) h)
      | false => rw [hb] at h; exact h.elim
    next => exact h.elim
  | istore_n n =>
    have e : len = 1 := by simpa [jok_, ln_] using hj
    subst e
    simp only [stp_] at h
    split at h
    next z S' =>
      cases hb : n.val.blt L.length with
      | true => rw [hb] at h; exact so_istore_n E hd (blt_ hb) (hk _ _ _ (l1 _ _) h)
      | false => rw [hb] at h; exact h.elim
    next => exact h.elim
  | lstore n =>
    have e : len = 2 := by simpa [jok_, ln_] using hj
    subst e
    simp only [stp_] at h
    split at h
    next z S' =>
      cases hb : (n + 1).blt L.length with
      | true => rw [hb] at h; exact so_lstore E hd (blt_ hb) (hk _ _ _ (l2 _ _) h)
      | false => rw [hb] at h; exact h.elim
    next => exact h.elim
  | lstore_n n =>
    have e : len = 1 := by simpa [jok_, ln_] using hj
    subst e
    simp only [stp_] at h
    split at h
    next z S' =>
      cases hb : (n.val + 1).blt L.length with
      | true => rw [hb] at h; exact so_lstore_n E hd (blt_ hb) (hk _ _ _ (l2 _ _) h)
      | false => rw [hb] at h; exact h.elim
    next => exact h.elim
  | astore n =>
    have e : len = 2 := by simpa [jok_, ln_] using hj
    subst e
    simp only [stp_] at h
    split at h
    next t z S' =>
      cases hb : n.blt L.length with
      | true => rw [hb] at h; exact so_astore E hd (blt_ hb) (hk _ _ _ (l1 _ _) h)
      | false => rw [hb] at h; exact h.elim
    next => exact h.elim
  | astore_n n =>
    have e : len = 1 := by simpa [jok_, ln_] using hj
    subst e
    simp only [stp_] at h
    split at h
    next t z S' =>
      cases hb : n.val.blt L.length with
      | true => rw [hb] at h; exact so_astore_n E hd (blt_ hb) (hk _ _ _ (l1 _ _) h)
      | false => rw [hb] at h; exact h.elim
    next => exact h.elim
  | iinc n c =>
    have e : len = 3 := by simpa [jok_, ln_] using hj
    subst e
    simp only [stp_] at h
    split at h
    next z hz => exact so_iinc E hd hz h.1 (hk _ _ _ (l1 _ _) h.2)
    next => exact h.elim
  | iconst c =>
    have e : len = 1 := by simpa [jok_, ln_] using hj
    subst e
    simp only [stp_] at h
    cases hb : (decide (-128 ≤ c) && decide (c ≤ 127)) with
    | true =>
      rw [hb] at h
      simp only [Bool.and_eq_true, decide_eq_true_eq] at hb
      exact so_iconst E hd hb.1 hb.2 (hk _ _ _ hL h)
    | false => rw [hb] at h; exact h.elim
  | bipush c =>
    have e : len = 2 := by simpa [jok_, ln_] using hj
    subst e
    simp only [stp_] at h
    cases hb : (decide (-128 ≤ c) && decide (c ≤ 127)) with
    | true =>
      rw [hb] at h
      simp only [Bool.and_eq_true, decide_eq_true_eq] at hb
      exact so_bipush E hd hb.1 hb.2 (hk _ _ _ hL h)
    | false => rw [hb] at h; exact h.elim
  | sipush c =>
    have e : len = 3 := by simpa [jok_, ln_] using hj
    subst e
    simp only [stp_] at h
    cases hb : (decide (-32768 ≤ c) && decide (c ≤ 32767)) with
    | true =>
      rw [hb] at h
      simp only [Bool.and_eq_true, decide_eq_true_eq] at hb
      exact so_sipush E hd hb.1 hb.2 (hk _ _ _ hL h)
    | false => rw [hb] at h; exact h.elim
  | lconst c =>
    have e : len = 1 := by simpa [jok_, ln_] using hj
    subst e
    simp only [stp_] at h
    cases hb : (c.val == 0) with
    | true => rw [hb] at h; exact so_lconst0 E hd (by simpa using hb) (hk _ _ _ hL h)
    | false => rw [hb] at h; exact so_lconst1 E hd (by simpa using hb) (hk _ _ _ hL h)
  | ldc n =>
    simp only [stp_] at h
    split at h
    next v hv =>
      simp only [jok_, hv, Bool.and_eq_true, beq_iff_eq] at hj
      obtain ⟨h0, rfl⟩ := hj
      exact so_ldc E hK hv hd (hk _ _ _ hL h) h0
    next => exact h.elim
  | ldc_w n =>
    simp only [stp_] at h
    split at h
    next v hv =>
      simp only [jok_, hv, Bool.and_eq_true, beq_iff_eq] at hj
      obtain ⟨h0, rfl⟩ := hj
      exact so_ldcw E hK hv hd (hk _ _ _ hL h) h0
    next => exact h.elim
  | ldc2_w n =>
    simp only [stp_] at h
    split at h
    next v hv =>
      simp only [jok_, hv, Bool.and_eq_true, beq_iff_eq] at hj
      obtain ⟨h0, rfl⟩ := hj
      exact so_ldc2 E hK hv hd (hk _ _ _ hL h) h0
    next => exact h.elim
  | iadd =>
    have e : len = 1 := by simpa [jok_, ln_] using hj
    subst e
    simp only [stp_] at h
    split at h
    next b a S' => exact so_iadd E hd h.1 (hk _ _ _ hL h.2)
    next => exact h.elim
  | isub =>
    have e : len = 1 := by simpa [jok_, ln_] using hj
    subst e
    simp only [stp_] at h
    split at h
    next b a S' => exact so_isub E hd h.1 (hk _ _ _ hL h.2)
    next => exact h.elim
  | imul =>
    have e : len = 1 := by simpa [jok_, ln_] using hj
    subst e
    simp only [stp_] at h
    split at h
    next b a S' => exact so_imul E hd h.1 (hk _ _ _ hL h.2)
    next => exact h.elim
  | idiv =>
    have e : len = 1 := by simpa [jok_, ln_] using hj
    subst e
    simp only [stp_] at h
    split at h
    next b a S' => exact so_idiv E hd h.1.1 h.1.2 (hk _ _ _ hL h.2)
    next => exact h.elim
  | irem =>
    have e : len = 1 := by simpa [jok_, ln_] using hj
    subst e
    simp only [stp_] at h
    split at h
    next b a S' => exact so_irem E hd h.1 (hk _ _ _ hL h.2)
    next => exact h.elim
  | iand =>
    have e : len = 1 := by simpa [jok_, ln_] using hj
    subst e
    simp only [stp_] at h
    split at h
    next b a S' => exact so_iand E hd (hk _ _ _ hL h)
    next => exact h.elim
  | ior =>
    have e : len = 1 := by simpa [jok_, ln_] using hj
    subst e
    simp only [stp_] at h
    split at h
    next b a S' => exact so_ior E hd (hk _ _ _ hL h)
    next => exact h.elim
  | ixor =>
    have e : len = 1 := by simpa [jok_, ln_] using hj
    subst e
    simp only [stp_] at h
    split at h
    next b a S' => exact so_ixor E hd (hk _ _ _ hL h)
    next => exact h.elim
  | ishl =>
    have e : len = 1 := by simpa [jok_, ln_] using hj
    subst e
    simp only [stp_] at h
    split at h
    next b a S' => exact so_ishl E hd (hk _ _ _ hL h)
    next => exact h.elim
  | ishr =>
    have e : len = 1 := by simpa [jok_, ln_] using hj
    subst e
    simp only [stp_] at h
    split at h
    next b a S' => exact so_ishr E hd (hk _ _ _ hL h)
    next => exact h.elim
  | i2b =>
    have e : len = 1 := by simpa [jok_, ln_] using hj
    subst e
    simp only [stp_] at h
    split at h
    next a S' => exact so_i2b E hd (hk _ _ _ hL h)
    next => exact h.elim
  | i2s =>
    have e : len = 1 := by simpa [jok_, ln_] using hj
    subst e
    simp only [stp_] at h
    split at h
    next a S' => exact so_i2s E hd (hk _ _ _ hL h)
    next => exact h.elim
  | i2l =>
    have e : len = 1 := by simpa [jok_, ln_] using hj
    subst e
    simp only [stp_] at h
    split at h
    next a S' => exact so_i2l E hd (hk _ _ _ hL h)
    next => exact h.elim
  | l2i =>
    have e : len = 1 := by simpa [jok_, ln_] using hj
    subst e
    simp only [stp_] at h
    split at h
    next a S' => exact so_l2i E hd (hk _ _ _ hL h)
    next => exact h.elim
  | ladd =>
    have e : len = 1 := by simpa [jok_, ln_] using hj
    subst e
    simp only [stp_] at h
    split at h
    next b a S' => exact so_ladd E hd h.1 (hk _ _ _ hL h.2)
    next => exact h.elim
  | lsub =>
    have e : len = 1 := by simpa [jok_, ln_] using hj
    subst e
    simp only [stp_] at h
    split at h
    next b a S' => exact so_lsub E hd h.1 (hk _ _ _ hL h.2)
    next => exact h.elim
  | lmul =>
    have e : len = 1 := by simpa [jok_, ln_] using hj
    subst e
    simp only [stp_] at h
    split at h
    next b a S' => exact so_lmul E hd h.1 (hk _ _ _ hL h.2)
    next => exact h.elim
  | ldiv =>
    have e : len = 1 := by simpa [jok_, ln_] using hj
    subst e
    simp only [stp_] at h
    split at h
    next b a S' => exact so_ldiv E hd h.1.1 h.1.2 (hk _ _ _ hL h.2)
    next => exact h.elim
  | lrem =>
    have e : len = 1 := by simpa [jok_, ln_] using hj
    subst e
    simp only [stp_] at h
    split at h
    next b a S' => exact so_lrem E hd h.1 (hk _ _ _ hL h.2)
    next => exact h.elim
  | land =>
    have e : len = 1 := by simpa [jok_, ln_] using hj
    subst e
    simp only [stp_] at h
    split at h
    next b a S' => exact so_land E hd (hk _ _ _ hL h)
    next => exact h.elim
  | lor =>
    have e : len = 1 := by simpa [jok_, ln_] using hj
    subst e
    simp only [stp_] at h
    split at h
    next b a S' => exact so_lor E hd (hk _ _ _ hL h)
    next => exact h.elim
  | lshl =>
    have e : len = 1 := by simpa [jok_, ln_] using hj
    subst e
    simp only [stp_] at h
    split at h
    next b a S' => exact so_lshl E hd (hk _ _ _ hL h)
    next => exact h.elim
  | lshr =>
    have e : len = 1 := by simpa [jok_, ln_] using hj
    subst e
    simp only [stp_] at h
    split at h
    next b a S' => exact so_lshr E hd (hk _ _ _ hL h)
    next => exact h.elim
  | lcmp =>
    have e : len = 1 := by simpa [jok_, ln_] using hj
    subst e
    simp only [stp_] at h
    split at h
    next b a S' => exact so_lcmp E hd (hk _ _ _ hL h)
    next => exact h.elim
  | dup =>
    have e : len = 1 := by simpa [jok_, ln_] using hj
    subst e
    simp only [stp_] at h
    split at h
    next v S' =>
      cases hb : (v.1 == 1) with
      | true => rw [hb] at h; exact h.elim
      | false => rw [hb] at h; exact so_dup E hd hb (hk _ _ _ hL h)
    next => exact h.elim
  | dup2 =>
    have e : len = 1 := by simpa [jok_, ln_] using hj
    subst e
    simp only [stp_] at h
    split at h
    next v w S' =>
      cases hb : (v.1 == 1 || w.1 == 1) with
      | true => rw [hb] at h; exact h.elim
      | false =>
        rw [hb] at h
        simp only [Bool.or_eq_false_iff] at hb
        exact so_dup2 E hd hb.1 hb.2 (hk _ _ _ hL h)
    next => exact h.elim
  | pop =>
    have e : len = 1 := by simpa [jok_, ln_] using hj
    subst e
    simp only [stp_] at h
    split at h
    next v S' =>
      cases hb : (v.1 == 1) with
      | true => rw [hb] at h; exact h.elim
      | false => rw [hb] at h; exact so_pop E hd hb (hk _ _ _ hL h)
    next => exact h.elim
  | ifCond c off =>
    simp only [jok_, Bool.and_eq_true, decide_eq_true_eq, beq_iff_eq] at hj
    obtain ⟨h0, rfl⟩ := hj
    simp only [stp_] at h
    split at h
    next z S' => exact so_if E hd h0 h (fun a => a) (fun b => hk _ _ _ hL b)
    next => exact h.elim
  | if_icmp c off =>
    simp only [jok_, Bool.and_eq_true, decide_eq_true_eq, beq_iff_eq] at hj
    obtain ⟨h0, rfl⟩ := hj
    simp only [stp_] at h
    split at h
    next y z S' => exact so_icmp E hd h0 h (fun a => a) (fun b => hk _ _ _ hL b)
    next => exact h.elim
  | goto off =>
    simp only [jok_, Bool.and_eq_true, decide_eq_true_eq, beq_iff_eq] at hj
    obtain ⟨h0, rfl⟩ := hj
    exact so_goto E hd h0 h
  | tableswitch d lo hi offs =>
    simp only [jok_, Bool.and_eq_true, decide_eq_true_eq, List.all_eq_true] at hj
    obtain ⟨⟨h0, h1⟩, h2⟩ := hj
    simp only [stp_] at h
    split at h
    next z S' => exact so_tsw E hd h2 h0 h1 h
    next => exact h.elim
  | getfield n =>
    have e : len = 3 := by simpa [jok_, ln_] using hj
    subst e
    simp only [stp_] at h
    split at h
    next t o S' =>
      split at h
      next c jn ji hl =>
        split at h
        next c' N hkt =>
          cases hb : (c == c' && jn.blt N) with
          | false => rw [hb] at h; exact h.elim
          | true =>
            rw [hb] at h
            simp only [Bool.and_eq_true, beq_iff_eq] at hb
            obtain ⟨rfl, hb⟩ := hb
            have hjn := blt_ hb
            obtain ⟨C, T, N', g1, g2, g3, g4⟩ := hF _ (lk_mem hl)
            simp only at g3
            simp only [cond_true] at h
            split at h
            next r hr =>
              intro hM hA H locs ls hP hD hS hlh vL vS
              have hok := mt_at hM (vt_ vS).1 (j := jn) (by unfold sz_; rw [hkt]; exact hjn)
              have er : σ o ji = r := by
                have := hok.2.2 r (by rw [← g3]; exact hr)
                rw [g3]; exact this
              exact so_get hCL hF E hd hl hkt hjn (by rw [er]; exact hk _ _ _ hL h) hM hA H locs ls hP hD hS hlh vL vS
            next => exact so_get hCL hF E hd hl hkt hjn (hk _ _ _ hL h)
        next => exact h.elim
      next => exact h.elim
    next => exact h.elim
  | putfield n =>
    have e : len = 3 := by simpa [jok_, ln_] using hj
    subst e
    simp only [stp_] at h
    split at h
    next u z t o S' =>
      split at h
      next c jn ji hl =>
        split at h
        next c' N hkt =>
          cases hb : (c == c' && jn.blt N) with
          | false => rw [hb] at h; exact h.elim
          | true =>
            rw [hb] at h
            simp only [Bool.and_eq_true, beq_iff_eq] at hb
            obtain ⟨rfl, hb⟩ := hb
            have hjn := blt_ hb
            obtain ⟨C, T, N', g1, g2, g3, g4⟩ := hP.1 _ (lk_mem hl)
            simp only at g3
            simp only [cond_true] at h
            split at h
            next => exact h.elim
            next hrt =>
              have hrt' : ∀ r, rt_ t o jn (jn : Int) = some r → z = r := fun r q => by rw [← g3, hrt] at q; cases q
              split at h
              next lo hi hty =>
                cases hu : (u == 0) with
                | false => rw [hu] at h; exact h.elim
                | true =>
                  rw [hu] at h
                  have eu : u = 0 := by simpa using hu
                  subst eu
                  simp only [cond_true] at h
                  cases hf : ful_ lo hi with
                  | true =>
                    rw [hf] at h
                    simp only [ful_, Bool.and_eq_true, decide_eq_true_eq] at hf
                    exact so_put hCL hSH hP E hd hl hkt hjn (fun cs => by rw [hty]) (fun hv => ⟨by rw [hty]; exact hv, fun _ => by rw [hty]; have hv : -2147483648 ≤ z ∧ z ≤ 2147483647 := hv; exact ⟨Int.le_trans hf.1 hv.1, Int.le_trans hv.2 hf.2⟩, hrt'⟩) (hk _ _ _ hL h)
                  | false =>
                    rw [hf] at h
                    exact so_put hCL hSH hP E hd hl hkt hjn (fun cs => by rw [hty]) (fun hv => ⟨by rw [hty]; exact hv, fun _ => by rw [hty]; exact h.1, hrt'⟩) (hk _ _ _ hL h.2)
              next lo hi hty =>
                cases hu : (u == 1 && ful6_ lo hi) with
                | false => rw [hu] at h; exact h.elim
                | true =>
                  rw [hu] at h
                  simp only [Bool.and_eq_true, beq_iff_eq, ful6_, decide_eq_true_eq] at hu
                  obtain ⟨rfl, hf⟩ := hu
                  exact so_put hCL hSH hP E hd hl hkt hjn (fun cs => by rw [hty]) (fun hv => ⟨by rw [hty]; exact hv, fun _ => by rw [hty]; have hv : -9223372036854775808 ≤ z ∧ z ≤ 9223372036854775807 := hv; exact ⟨Int.le_trans hf.1 hv.1, Int.le_trans hv.2 hf.2⟩, hrt'⟩) (hk _ _ _ hL h)
              next lo hi hty =>
                cases hu : Nat.ble 10 u with
                | false => rw [hu] at h; exact h.elim
                | true =>
                  rw [hu] at h
                  obtain ⟨w, rfl⟩ : ∃ w, u = w + 10 := ⟨u - 10, by have := Nat.le_of_ble_eq_true hu; omega⟩
                  exact so_put hCL hSH hP E hd hl hkt hjn (fun cs => by rw [hty]; rfl) (fun hv => ⟨by rw [hty]; exact Or.inr (List.getElem?_eq_some_iff.mp hv.2).1, fun q => by rw [hty] at q; simp at q, hrt'⟩) (hk _ _ _ hL h)
              next g lo hi _ _ _ hty =>
                cases hu : (u == g && Nat.ble 10 g) with
                | false => rw [hu] at h; exact h.elim
                | true =>
                  rw [hu] at h
                  simp only [Bool.and_eq_true, beq_iff_eq] at hu
                  obtain ⟨rfl, hu⟩ := hu
                  have h10 := Nat.le_of_ble_eq_true hu
                  exact so_put hCL hSH hP E hd hl hkt hjn (fun cs => by rw [hty]) (fun hv => ⟨by rw [hty]; exact hv, fun q => by rw [hty] at q; simp only at q; omega, hrt'⟩) (hk _ _ _ hL h)
        next => exact h.elim
      next => exact h.elim
    next => exact h.elim
  | iaload =>
    have e : len = 1 := by simpa [jok_, ln_] using hj
    subst e
    simp only [stp_] at h
    split at h
    next x S' => exact (hS pc σ L S').1 x hd h.1 (hk _ _ _ hL h.2)
    next x t o S' =>
      split at h
      next c N hkt => exact so_ild hSA E hd hkt h.1 (hk _ _ _ hL h.2)
      next => exact h.elim
    next => exact h.elim
  | baload =>
    have e : len = 1 := by simpa [jok_, ln_] using hj
    subst e
    simp only [stp_] at h
    split at h
    next x t o S' =>
      split at h
      next c N hkt => exact so_bld hSA E hd hkt h.1 (hk _ _ _ hL h.2)
      next c N hkt => exact so_zld hSA E hd hkt h.1 (hk _ _ _ hL h.2)
      next => exact h.elim
    next => exact h.elim
  | laload =>
    have e : len = 1 := by simpa [jok_, ln_] using hj
    subst e
    simp only [stp_] at h
    split at h
    next x t o S' =>
      split at h
      next c N hkt => exact so_lld hSA E hd hkt h.1 (hk _ _ _ hL h.2)
      next => exact h.elim
    next => exact h.elim
  | aaload =>
    have e : len = 1 := by simpa [jok_, ln_] using hj
    subst e
    simp only [stp_] at h
    split at h
    next x t o S' =>
      split at h
      next c N hkt =>
        obtain ⟨h1, h2⟩ := h
        split at h2
        next r hr => exact so_ald hSA E hd hkt h1 hr (hk _ _ _ hL h2)
        next => exact h2.elim
      next => exact h.elim
    next => exact h.elim
  | iastore =>
    have e : len = 1 := by simpa [jok_, ln_] using hj
    subst e
    simp only [stp_] at h
    split at h
    next z x t o S' =>
      split at h
      next c N hkt =>
        obtain ⟨h1, h2⟩ := h
        cases hf : ful_ (ty_ t 0).2.1 (ty_ t 0).2.2 with
        | true =>
          rw [hf] at h2
          simp only [ful_, Bool.and_eq_true, decide_eq_true_eq] at hf
          exact so_ist hSA E hd hkt h1 (fun hv => by have hv : -2147483648 ≤ z ∧ z ≤ 2147483647 := hv; exact ⟨Int.le_trans hf.1 hv.1, Int.le_trans hv.2 hf.2⟩) (hk _ _ _ hL h2)
        | false =>
          rw [hf] at h2
          exact so_ist hSA E hd hkt h1 (fun _ => h2.1) (hk _ _ _ hL h2.2)
      next => exact h.elim
    next => exact h.elim
  | bastore =>
    have e : len = 1 := by simpa [jok_, ln_] using hj
    subst e
    simp only [stp_] at h
    split at h
    next z x t o S' =>
      split at h
      next c N hkt => exact so_bst hSA E hd hkt h.1 h.2.1 (hk _ _ _ hL h.2.2)
      next c N hkt => exact so_zst hSA E hd hkt h.1 h.2.1 (hk _ _ _ hL h.2.2)
      next => exact h.elim
    next => exact h.elim
  | lastore =>
    have e : len = 1 := by simpa [jok_, ln_] using hj
    subst e
    simp only [stp_] at h
    split at h
    next z x t o S' =>
      split at h
      next c N hkt =>
        obtain ⟨h1, h2⟩ := h
        cases hf : ful6_ (ty_ t 0).2.1 (ty_ t 0).2.2 with
        | true =>
          rw [hf] at h2
          simp only [ful6_, Bool.and_eq_true, decide_eq_true_eq] at hf
          exact so_lst hSA E hd hkt h1 (fun hv => by have hv : -9223372036854775808 ≤ z ∧ z ≤ 9223372036854775807 := hv; exact ⟨Int.le_trans hf.1 hv.1, Int.le_trans hv.2 hf.2⟩) (hk _ _ _ hL h2)
        | false => rw [hf] at h2; exact h2.elim
      next => exact h.elim
    next => exact h.elim
  | arraylength =>
    have e : len = 1 := by simpa [jok_, ln_] using hj
    subst e
    simp only [stp_] at h
    split at h
    next S' => exact (hS pc σ L S').2 hd (hk _ _ _ hL h)
    next t o S' =>
      obtain ⟨a, c, N, hkt⟩ : ∃ a c N, KT_ t = (a, c, N) := ⟨_, _, _, rfl⟩
      · rw [hkt] at h
        cases hb : (Nat.ble 1 a && Nat.ble a 5) with
        | false => rw [hb] at h; exact h.elim
        | true =>
          rw [hb] at h
          simp only [Bool.and_eq_true] at hb
          exact so_alen hSA E hd hkt ⟨Nat.le_of_ble_eq_true hb.1, Nat.le_of_ble_eq_true hb.2⟩ (hk _ _ _ hL h)
    next => exact h.elim
  | invokevirtual n =>
    have e : len = 3 := by simpa [jok_, ln_] using hj
    subst e
    simp only [stp_] at h
    split at h
    next na T hl =>
      cases hb : (Nat.ble na S.length && Nat.ble (csum_ (S.drop na)) 8) with
      | false => rw [hb] at h; exact h.elim
      | true =>
        rw [hb] at h
        simp only [Bool.and_eq_true] at hb
        have h1 := Nat.le_of_ble_eq_true hb.1
        have h2 := Nat.le_of_ble_eq_true hb.2
        have := hC _ _ _ hl pc (.invokevirtual n) σ L (S.take na).reverse (S.drop na) _ (Or.inl ⟨by rw [Nat.mul_div_cancel_left _ (by omega)], by omega⟩) hd (by simp; omega) h2 hL h (fun r σ' q => hk _ _ _ hL q)
        rw [List.reverse_reverse, List.take_append_drop] at this
        exact this
    next => exact h.elim
  | invokestatic n =>
    have e : len = 3 := by simpa [jok_, ln_] using hj
    subst e
    simp only [stp_] at h
    split at h
    next na T hl =>
      cases hb : (Nat.ble na S.length && Nat.ble (csum_ (S.drop na)) 8) with
      | false => rw [hb] at h; exact h.elim
      | true =>
        rw [hb] at h
        simp only [Bool.and_eq_true] at hb
        have h1 := Nat.le_of_ble_eq_true hb.1
        have h2 := Nat.le_of_ble_eq_true hb.2
        have := hC _ _ _ hl pc (.invokestatic n) σ L (S.take na).reverse (S.drop na) _ (Or.inr ⟨by rw [show (2 * n + 1) / 2 = n by omega], by omega⟩) hd (by simp; omega) h2 hL h (fun r σ' q => hk _ _ _ hL q)
        rw [List.reverse_reverse, List.take_append_drop] at this
        exact this
    next => exact h.elim
  | ireturn =>
    have e : len = 1 := by simpa [jok_, ln_] using hj
    subst e
    simp only [stp_] at h
    split at h
    next z =>
      cases h1 : (rk == 1) with
      | true => rw [h1] at h; exact hR pc σ L _ (Or.inl ⟨hd, z, rfl, Or.inl (by simpa using h1)⟩) h
      | false =>
        rw [h1] at h
        simp only [cond_false] at h
        cases h2 : (rk == 2) with
        | true => rw [h2] at h; exact hR pc σ L _ (Or.inl ⟨hd, z, rfl, Or.inr ⟨by simpa using h2, h.1⟩⟩) h.2
        | false => rw [h2] at h; exact h.elim
    next => exact h.elim
  | lreturn =>
    have e : len = 1 := by simpa [jok_, ln_] using hj
    subst e
    simp only [stp_] at h
    split at h
    next z =>
      cases h1 : (rk == 3) with
      | true => rw [h1] at h; exact hR pc σ L _ (Or.inr (Or.inl ⟨hd, by simpa using h1, z, rfl⟩)) h
      | false => rw [h1] at h; exact h.elim
    next => exact h.elim
  | areturn =>
    have e : len = 1 := by simpa [jok_, ln_] using hj
    subst e
    simp only [stp_] at h
    split at h
    next t z =>
      cases h1 : (rk == 4) with
      | true => rw [h1] at h; exact hR pc σ L _ (Or.inr (Or.inr (Or.inl ⟨hd, by simpa using h1, t, z, rfl⟩))) h
      | false => rw [h1] at h; exact h.elim
    next => exact h.elim
  | return_ =>
    have e : len = 1 := by simpa [jok_, ln_] using hj
    subst e
    simp only [stp_] at h
    split at h
    next =>
      cases h1 : (rk == 0) with
      | true => rw [h1] at h; exact hR pc σ L _ (Or.inr (Or.inr (Or.inr ⟨hd, by simpa using h1, rfl⟩))) h
      | false => rw [h1] at h; exact h.elim
    next => exact h.elim
  | _ => exact h.elim
theorem blk_ {fl pl : List (Nat × Nat × Nat × Int)} {kn : List (Nat × Sv_t)} {cal : List (Nat × Nat × Tr_t)} {rk : Nat} {Ret : List Sv_t → Me_t → Prop} {scr : Nat × (Int → Int)}
    (hCL : CL_) (hSH : SH_) (hSA : SA_) (hF : FT_ own fl) (hP : PT_ own pl) (hK : KN_ own kn) (hC : ∀ n na T, lk_ cal n = some (na, T) → COK_ X G Q cl sl ad shs cc nL n na T) (hR : ROK_ X G Q cl sl ad shs cc rk Ret) (hS : SOK_ X G Q cl sl ad shs cc scr)
    (E : EN_ X G own cc nL rty) : ∀ (cs : Ci_t), (∀ q ∈ cs, decode cc q.1 = .ok q.2) → ck_ kn cs = true → ∀ (pc : Nat) (L S : List Sv_t) (σ : Me_t), L.length = nL → (cs.head?.map (fun q => q.1)) = some pc → wpb_ fl pl kn cal rk Ret (fun tg L' S' σ' => WP_ X G Q cl sl ad shs σ' tg L' S') scr cs L S σ → WP_ X G Q cl sl ad shs σ pc L S := by
  intro cs
  induction cs with
  | nil => intro _ _ pc L S σ _ _ h; exact h.elim
  | cons q cs ih =>
    intro hd hck pc L S σ hL hpc h
    simp only [List.head?_cons, Option.map_some, Option.some.injEq] at hpc
    subst hpc
    simp only [ck_, Bool.and_eq_true] at hck
    obtain ⟨⟨h1, h2⟩, h3⟩ := hck
    refine stp_ok hCL hSH hSA hF hP hK hC hR hS E (hd q List.mem_cons_self) h1 hL h ?_
    intro L' S' σ' hL' hk
    cases cs with
    | nil => exact hk.elim
    | cons q2 cs2 =>
      have e : q.1 + q.2.2 = q2.1 := by simpa using h2
      rw [e]
      exact ih (fun r hr => hd r (List.mem_cons_of_mem _ hr)) h3 q2.1 L' S' σ' hL' rfl hk
end BLK
end
section
/-! CONTRACTS OVER THE MEMORY -/
def PC_ (D : va_G) (tc : Nat → ClassId) (cs : Nat → Nat) (ad : List Nat) (σ : Me_t) (as : List Sv_t) : Array Value → State → Prop := fun v U => v = (as.map (val_ cs ad)).toArray ∧ va_P D cls_ (wl_ cs tc ad SHS_ σ) U.heap ∧ va_K D cls_ (tys_ tc) U ∧ va_D (fun _ => True) (wl_ cs tc ad SHS_ σ) ∧ XW_ U
def QC_ (D : va_G) (tc : Nat → ClassId) (cs : Nat → Nat) (ad : List Nat) (Rt : List Sv_t → Me_t → Prop) : Array Value → State → Outcome → State → Prop := fun _ st oc t => (∃ (r : List Sv_t) (σ' : Me_t), oc = .returned (r.head?.map (val_ cs ad)) ∧ r.length ≤ 1 ∧ Rt r σ' ∧ MT_ SHS_ σ' ∧ (∀ v ∈ r, tv_ SHS_ v) ∧ va_P D cls_ (wl_ cs tc ad SHS_ σ') t.heap) ∧ va_F (fun q => q ∈ ad) st t
def CT_ {α : Type} (l : Launch) (y : MethodName) (cc : ByteArray) (nL : Nat) (ret : Option FieldType) (fr lo : Nat) (as : α → List Sv_t) (rm : Int → List Sv_t) (Pre : α → Me_t → Prop) (Post : α → Me_t → Int → Me_t → Prop) : Prop :=
  ∀ (D : va_G) (tc : Nat → ClassId) (cs : Nat → Nat) (ad : List Nat) (σ : Me_t) (a : α), ad.length = SHS_.length → MT_ SHS_ σ → (∀ v ∈ as a, tv_ SHS_ v) → Pre a σ →
    Met l y (.code y cc nL ret :: gl_) { frames := fr, cells := 0, slots := 0, locals := lo } (PC_ D tc cs ad σ (as a)) (QC_ D tc cs ad (fun r σ' => ∃ z, r = rm z ∧ Post a σ z σ')) 0 0 (fun q => q ∈ ad)
def TR_ {α : Type} (as : α → List Sv_t) (rm : Int → List Sv_t) (Pre : α → Me_t → Prop) (Post : α → Me_t → Int → Me_t → Prop) : Tr_t := fun args σ k => ∃ a : α, args = as a ∧ Pre a σ ∧ ∀ (z : Int) (σ' : Me_t), Post a σ z σ' → k (rm z) σ'
def entL_ (as : List Sv_t) (nL : Nat) : List Sv_t := (as.flatMap fun v => bif v.1 == 1 then [v, (9, 0)] else [v]) ++ List.replicate (nL - (as.flatMap fun v => bif v.1 == 1 then [v, ((9 : Nat), (0 : Int))] else [v]).length) (9, 0)
theorem wl_D {A : Nat → Prop} {cs : Nat → Nat} {tc : Nat → ClassId} {ad shs : List Nat} {σ σ' : Me_t} (h : va_D A (wl_ cs tc ad shs σ)) : va_D A (wl_ cs tc ad shs σ') := by
  have key : ∀ (k : Nat) (q : Nat × va_E), (wl_ cs tc ad shs σ')[k]? = some q → ∃ q0 : Nat × va_E, (wl_ cs tc ad shs σ)[k]? = some q0 ∧ q0.1 = q.1 := by
    intro k q hq
    cases hs : shs[k]? with
    | none => rw [wl_none hs] at hq; cases hq
    | some sh =>
      rw [wl_get hs] at hq
      cases hq
      exact ⟨_, wl_get hs, rfl⟩
  refine ⟨fun i j x y hi hj hxy => ?_, fun k q hk => ?_⟩
  · obtain ⟨x0, h1, h2⟩ := key i x hi
    obtain ⟨y0, h3, h4⟩ := key j y hj
    exact h.1 i j x0 y0 h1 h3 (h2.trans (hxy.trans h4.symm))
  · obtain ⟨q0, h1, h2⟩ := key k q hk
    rw [← h2]
    exact h.2 k q0 h1
theorem wl_in {cs : Nat → Nat} {tc : Nat → ClassId} {ad shs : List Nat} {σ : Me_t} (hA : ad.length = shs.length) {k : Nat} {q : Nat × va_E} (h : (wl_ cs tc ad shs σ)[k]? = some q) : q.1 ∈ ad := by
  cases hs : shs[k]? with
  | none => rw [wl_none hs] at h; cases h
  | some sh =>
    rw [wl_get hs] at h
    cases h
    have hk : k < ad.length := by rw [hA]; exact (List.getElem?_eq_some_iff.mp hs).1
    simp [List.getD_eq_getElem?_getD, hk]
theorem map_cat {cs : Nat → Nat} {ad : List Nat} : ∀ S : List Sv_t, ((S.map (val_ cs ad)).map fun v => v.category).sum = csum_ S
  | [] => rfl
  | v :: S => by
    rw [List.map_cons, List.map_cons, List.sum_cons, map_cat S, val_cat]
    have e : csum_ (v :: S) = (bif v.1 == 1 then 2 else 1) + csum_ S := rfl
    rw [e]
    by_cases h : v.1 = 1
    · simp [h]
    · have h2 : (v.1 == 1) = false := by simpa using h
      simp [h, h2]
/-- behind a call -/
theorem run_ {p : Program} {l : Launch} {e : Env} {R : Room} {s : State} {m : MethodId} {args : Array Value} {below : List Frame} {meth : Method} {c : Code} {H : Heap} {locs : List Loc} {cells slots : Nat} {Q : State → Prop} {pc : Nat} {ls : Array Slot} {rest st0 : List Value} {a : Array Value} {A0 : Nat → Prop} {H0 : Heap}
    {D : va_G} {tc : Nat → ClassId} {cs : Nat → Nat} {ad : List Nat} {Rt : List Sv_t → Me_t → Prop} (hr : va_Run p l e R s m args below meth c H locs cells slots 0 0 (F0 m pc ls st0) rest (QC_ D tc cs ad Rt a) (fun q => q ∈ ad)) (hS : va_S A0 H0 H locs) (hA : ∀ q, q ∈ ad → A0 q)
    (kk : ∀ (r : List Sv_t) (σ' : Me_t) (H1 : Heap) (locs1 : List Loc), Rt r σ' → MT_ SHS_ σ' → (∀ v ∈ r, tv_ SHS_ v) → va_P D cls_ (wl_ cs tc ad SHS_ σ') H1 → va_S A0 H0 H1 locs1 → W p l e R s m args below meth c H1 locs1 cells slots Q (F0 m (pc + 3) ls (r.map (val_ cs ad) ++ rest))) : W p l e R s m args below meth c H locs cells slots Q (F0 m pc ls st0) := by
  intro T hT X
  obtain ⟨v, st₀, t, T', L, h0, X', hL, e1, e2, ⟨⟨r, σ', hv, hlen, hp, hM, ht, hP⟩, hz, hk⟩, st⟩ := hr T hT X
  have hv : v = r.head?.map (val_ cs ad) := Outcome.returned.inj hv
  subst hv
  rw [h0] at hz hk
  have hl : (r.head?.map (val_ cs ad)).toList = r.map (val_ cs ad) := by
    match r, hlen with
    | [], _ => rfl
    | [x], _ => rfl
    | x :: y :: w, h => simp at h
  obtain ⟨t2, a1, b1⟩ := kk r σ' T'.heap (locs ++ L) hp hM ht (by rw [e1]; exact hP)
    ⟨Nat.le_trans hS.1 (by rw [e1]; exact hz), fun q h1 h2 => by rw [e1, hk q (Nat.lt_of_lt_of_le h1 hS.1) (fun z => h2 (hA q z))]; exact hS.2.1 q h1 h2, fun q hq => by
      rcases List.mem_append.mp hq with h | h
      · exact hS.2.2 q h
      · exact hA _ (hL q h)⟩ T' rfl X'
  refine ⟨t2, st t2 ?_, b1⟩
  rw [hl]
  exact a1
theorem gin_ {ws : List Cond} (h : ∀ w ∈ ws, w ∈ gl_) : GoodIn gl_ (ws ++ gl_) := by
  intro w hw
  have hg : w ∈ gl_ := (List.mem_append.mp hw).elim (h w) id
  exact ⟨hg, good_of_word (List.mem_filter.mp hg).2⟩
theorem pcb_ {D : va_G} {tc : Nat → ClassId} {cs : Nat → Nat} {ad : List Nat} {σ : Me_t} {as : List Sv_t} : FrameBlind (PC_ D tc cs ad σ as) := fun a U g mk q => by
  obtain ⟨q0, q1, q2, q3, q4⟩ := q
  exact ⟨q0, q1, va_K.moved (u := U) (U := U.calling g mk a) (Vm.Alike.refl U.vm) q2, q3, XW_same (s := U) (U := U.calling g mk a) rfl q4⟩
section COK
variable {α : Type} {X : Cx_t} {G : Gx_t} {Q : State → Prop} {ad : List Nat} {own : String} {cc bytes : ByteArray} {nL maxL fr lo fr0 lo0 : Nat} {rty ret : Option FieldType} {y : MethodName} {as : α → List Sv_t} {rm : Int → List Sv_t} {Pre : α → Me_t → Prop} {Post : α → Me_t → Int → Me_t → Prop}
/-- a call of an instance's method by its contract: the receiver is of shape t, class number c -/
theorem cok_v {t c N idx n cl sl : Nat} {C : String} {Tc : u_T} (E : EN_ X G own cc nL rty) (hct : CT_ X.2.1 y bytes maxL ret fr lo as rm Pre Post) (hRm : fr + 1 ≤ X.2.2.2.1.frames ∧ 8 + (maxL + 11) + lo ≤ X.2.2.2.1.locals) (hc0 : cl ≤ X.2.2.2.1.cells) (hs0 : sl ≤ X.2.2.2.1.slots) (hG : ∀ q, q ∈ ad → G.2.2.2 q)
    (hK : KT_ t = (0, c, N)) (hc : cls_[c]? = some (C, Tc, N)) (hy : y.cls = C ∧ y.cls ≠ "java/lang/invoke/MethodHandle" ∧ y.cls ≠ "java/lang/invoke/VarHandle" ∧ (parseMethodDescriptor y.desc).map (fun d => d.parameters.length) = some n)
    (has : ∀ a, ∃ (o : Int) (r : List Sv_t), as a = (t + 10, o) :: r ∧ r.length = n)
    (w1 : Cond.methodLink own idx y ∈ gl_) (w2 : Cond.instanceMethod y ∈ gl_) (w3 : Cond.selects C y y ∈ gl_) (w4 : Cond.initialized C ∈ gl_) (w5 : Cond.code y bytes maxL ret ∈ gl_) :
    COK_ X G Q cl sl ad SHS_ cc nL (2 * idx) (n + 1) (TR_ as rm Pre Post) := by
  obtain ⟨p, l, e, R, s, m, args, below, meth, code⟩ := X
  obtain ⟨D, tc, cs, A⟩ := G
  intro pc i σ L as0 S k hi hd hlen hcs hL hT hk
  have hi : i = .invokevirtual idx := by
    rcases hi with ⟨h, -⟩ | ⟨-, h⟩
    · rw [Nat.mul_div_cancel_left _ (by omega)] at h; exact h
    · omega
  subst hi
  obtain ⟨a, rfl, hpre, hpost⟩ := hT
  obtain ⟨o, r, ha, hr⟩ := has a
  intro hM hA H locs ls hP hD hS hlh vL vS
  have va : ∀ v ∈ as a, tv_ SHS_ v := fun v hv => vS v (List.mem_append_left _ (List.mem_reverse.mpr hv))
  have hv := rs_ (va (t + 10, o) (by rw [ha]; exact List.mem_cons_self))
  have he := wl_get (cs := cs) (tc := tc) (ad := ad) (σ := σ) hv.2
  rw [ent_0 hK] at he
  have hrec := va_recv E.2.2.2.2.2.1 hP hc he
  have hmet := hct D tc cs ad σ a hA hM va hpre
  have hmap : (as a).map (val_ cs ad) = .ref (ad.getD o.toNat 0) :: r.map (val_ cs ad) := by rw [ha, List.map_cons, val_r hv.1]
  refine run_ (va_runV (As := r.map (val_ cs ad)) (rest := S.map (val_ cs ad)) (b := ad.getD o.toNat 0) ⟨E.1, E.2.1, E.2.2.1, E.2.2.2.1, E.2.2.2.2.1⟩ hmet (cwV n E.2.2.2.2.1 ?_ rfl rfl rfl hy hRm) ⟨pcb_, hrec, fun U hU hW => ?_⟩ rfl (by rw [List.length_map, hr]) (hlh.1.trans hL) ?_ ?_ hd ⟨hc0, hs0⟩) hS hG ?_
  · have := gin_ (ws := [Cond.methodLink own idx y, Cond.instanceMethod y, Cond.selects C y y, Cond.initialized C, Cond.code y bytes maxL ret]) (fun w hw => by
      simp only [List.mem_cons, List.not_mem_nil, or_false] at hw
      rcases hw with rfl | rfl | rfl | rfl | rfl <;> assumption)
    exact this
  · refine ⟨by rw [hmap], by rw [hU]; exact hP, va_K.moved hW.alike E.2.2.2.2.2.1, hD.weaken (fun _ _ _ _ => trivial), XW_warm hW E.2.2.2.2.2.2.2.2⟩
  · show List.map (val_ cs ad) ((as a).reverse ++ S) = _
    rw [List.map_append, List.map_reverse, hmap, List.reverse_cons]
    simp
  · rw [map_cat]
    show 2 * 0 + csum_ S ≤ 8
    omega
  · intro r' σ' H1 locs1 ⟨z, hz, hq⟩ hM' ht hP' hS'
    subst hz
    have := hk _ _ (hpost z σ' hq) hM' hA H1 locs1 ls hP' (wl_D hD) hS' hlh vL (fun v hv => by
      rcases List.mem_append.mp hv with h | h
      · exact ht v h
      · exact vS v (List.mem_append_right _ h))
    rw [List.map_append] at this
    exact this
theorem cok_s {idx n cl sl : Nat} (E : EN_ X G own cc nL rty) (hct : CT_ X.2.1 y bytes maxL ret fr lo as rm Pre Post) (hRm : fr + 1 ≤ X.2.2.2.1.frames ∧ 8 + (maxL + 11) + lo ≤ X.2.2.2.1.locals) (hc0 : cl ≤ X.2.2.2.1.cells) (hs0 : sl ≤ X.2.2.2.1.slots) (hG : ∀ q, q ∈ ad → G.2.2.2 q)
    (hy : y.cls = own ∧ y.cls ≠ "java/lang/invoke/MethodHandle" ∧ y.cls ≠ "java/lang/invoke/VarHandle" ∧ (parseMethodDescriptor y.desc).map (fun d => d.parameters.length) = some n)
    (has : ∀ a, (as a).length = n)
    (w1 : Cond.methodLink own idx y ∈ gl_) (w2 : Cond.static y ∈ gl_) (w4 : Cond.initialized own ∈ gl_) (w5 : Cond.code y bytes maxL ret ∈ gl_) :
    COK_ X G Q cl sl ad SHS_ cc nL (2 * idx + 1) n (TR_ as rm Pre Post) := by
  obtain ⟨p, l, e, R, s, m, args, below, meth, code⟩ := X
  obtain ⟨D, tc, cs, A⟩ := G
  intro pc i σ L as0 S k hi hd hlen hcs hL hT hk
  have hi : i = .invokestatic idx := by
    rcases hi with ⟨-, h⟩ | ⟨h, -⟩
    · omega
    · rw [show (2 * idx + 1) / 2 = idx by omega] at h; exact h
  subst hi
  obtain ⟨a, rfl, hpre, hpost⟩ := hT
  intro hM hA H locs ls hP hD hS hlh vL vS
  have va : ∀ v ∈ as a, tv_ SHS_ v := fun v hv => vS v (List.mem_append_left _ (List.mem_reverse.mpr hv))
  have hmet := hct D tc cs ad σ a hA hM va hpre
  refine run_ (va_runS (As := (as a).map (val_ cs ad)) (rest := S.map (val_ cs ad)) ⟨E.1, E.2.1, E.2.2.1, E.2.2.2.1, E.2.2.2.2.1⟩ hmet (cwS n E.2.2.2.2.1 ?_ rfl rfl rfl hy hRm) ⟨pcb_, fun U hU hW => ?_⟩ rfl (by rw [List.length_map, has]) (hlh.1.trans hL) ?_ ?_ hd ⟨hc0, hs0⟩) hS hG ?_
  · have := gin_ (ws := [Cond.methodLink own idx y, Cond.static y, Cond.initialized own, Cond.code y bytes maxL ret]) (fun w hw => by
      simp only [List.mem_cons, List.not_mem_nil, or_false] at hw
      rcases hw with rfl | rfl | rfl | rfl <;> assumption)
    exact this
  · refine ⟨rfl, by rw [hU]; exact hP, va_K.moved hW.alike E.2.2.2.2.2.1, hD.weaken (fun _ _ _ _ => trivial), XW_warm hW E.2.2.2.2.2.2.2.2⟩
  · show List.map (val_ cs ad) ((as a).reverse ++ S) = _
    rw [List.map_append, List.map_reverse]
  · rw [map_cat]
    show 2 * 0 + csum_ S ≤ 8
    omega
  · intro r' σ' H1 locs1 ⟨z, hz, hq⟩ hM' ht hP' hS'
    subst hz
    have := hk _ _ (hpost z σ' hq) hM' hA H1 locs1 ls hP' (wl_D hD) hS' hlh vL (fun v hv => by
      rcases List.mem_append.mp hv with h | h
      · exact ht v h
      · exact vS v (List.mem_append_right _ h))
    rw [List.map_append] at this
    exact this
end COK
def rk_ (ret : Option FieldType) : Nat := match ret with
  | none => 0
  | some .int => 1
  | some .boolean => 2
  | some .long => 3
  | some (.object _) => 4
  | _ => 9
/-- the end of a method, for its contract -/
theorem rok_ {X : Cx_t} {G : Gx_t} {ad : List Nat} {own : String} {cc : ByteArray} {nL : Nat} {ret : Option FieldType} {Rt : List Sv_t → Me_t → Prop} (E : EN_ X G own cc nL ret) (hG : G.2.2.2 = fun q => q ∈ ad) :
    ROK_ X G (MQ X.2.2.2.2.2.2.2.1 (QC_ G.1 G.2.1 G.2.2.1 ad Rt) X.2.2.2.2.2.2.1 X.2.2.2.2.1 0 0 (fun q => q ∈ ad)) 0 0 ad SHS_ cc (rk_ ret) Rt := by
  obtain ⟨p, l, e, R, s, m, args, below, meth, code⟩ := X
  obtain ⟨D, tc, cs, A⟩ := G
  simp only at hG
  subst hG
  intro pc σ L S hcase hRt hM hA H locs ls hP hD hS hlh vL vS
  have hlocks : meth.locks = false := E.2.2.2.2.2.2.2.1
  have hq : ∀ (r : List Sv_t), r = S → r.length ≤ 1 → ∀ t : State, t.heap = H → s.WarmedH t.vm → QC_ D tc cs ad Rt args s (.returned (r.head?.map (val_ cs ad))) t := by
    intro r hr hl t ht hW
    subst hr
    exact ⟨⟨r, σ, rfl, hl, hRt, hM, vS, by rw [ht]; exact hP⟩, hS.F ht⟩
  rcases hcase with ⟨hd, z, rfl, hr⟩ | ⟨hd, hr, z, rfl⟩ | ⟨hd, hr, t, z, rfl⟩ | ⟨hd, hr, rfl⟩
  · have hh := hq [(0, z)] rfl (by simp)
    rcases hr with hr | ⟨hr, h0, h1⟩
    · have : meth.sig.returnType = some .int := by
        have := E.2.2.2.2.2.2.1
        simp only at this
        rw [this]
        unfold rk_ at hr
        split at hr <;> simp_all
      exact W.iret E.1 E.2.1 this hh hS.2.2 hd
    · have : meth.sig.returnType = some .boolean := by
        have := E.2.2.2.2.2.2.1
        simp only at this
        rw [this]
        unfold rk_ at hr
        split at hr <;> simp_all
      have hz : z = 0 ∨ z = 1 := by omega
      refine W.zret E.1 E.2.1 this ?_ hh hS.2.2 hd
      rcases hz with rfl | rfl <;> decide
  · have hh := hq [(1, z)] rfl (by simp)
    have : meth.sig.returnType = some .long := by
      have := E.2.2.2.2.2.2.1
      simp only at this
      rw [this]
      unfold rk_ at hr
      split at hr <;> simp_all
    exact W.lret E.1 E.2.1 this hh hS.2.2 hd
  · have hh := hq [(t + 10, z)] rfl (by simp)
    have : ∃ C, meth.sig.returnType = some (.object C) := by
      have := E.2.2.2.2.2.2.1
      simp only at this
      rw [this]
      unfold rk_ at hr
      split at hr <;> simp_all
    obtain ⟨C, this⟩ := this
    have ez : val_ cs ad (t + 10, z) = .ref (ad.getD z.toNat 0) := val_r (rs_ (vS _ List.mem_cons_self)).1
    refine W.aret E.1 E.2.1 this (Or.inl ⟨C, rfl⟩) (Or.inr ⟨_, ez⟩) hh hS.2.2 hd
  · have hh := hq [] rfl (by simp)
    have : meth.sig.returnType = none := by
      have := E.2.2.2.2.2.2.1
      simp only at this
      rw [this]
      unfold rk_ at hr
      split at hr <;> simp_all
    exact W.vret E.1 E.2.1 this hh hS.2.2 hd
end
section
theorem vcat_ {cs : Nat → Nat} {ad : List Nat} {v : Sv_t} (h : v.1 = 1) : (val_ cs ad v).category = 2 := by rw [val_cat, if_pos h]
theorem lgs_len {cs : Nat → Nat} {ad : List Nat} : ∀ as : List Sv_t, (lg_sl (as.map (val_ cs ad))).length = (as.flatMap fun v => bif v.1 == 1 then [v, ((9 : Nat), (0 : Int))] else [v]).length
  | [] => rfl
  | v :: as => by
    have ih := lgs_len (cs := cs) (ad := ad) as
    unfold lg_sl at ih ⊢
    rw [List.map_cons, List.flatMap_cons, List.flatMap_cons, List.length_append, List.length_append, ih, val_cat]
    by_cases h : v.1 = 1
    · have h2 : (v.1 == 1) = true := by simpa using h
      simp [h]
    · have h2 : (v.1 == 1) = false := by simpa using h
      simp [h, h2]
theorem ent_mem {cs : Nat → Nat} {ad : List Nat} : ∀ (as : List Sv_t) (n : Nat) (j : Nat) (v : Sv_t), (as.flatMap fun v => bif v.1 == 1 then [v, ((9 : Nat), (0 : Int))] else [v])[j]? = some v → v.1 ≠ 9 → (n + j, val_ cs ad v) ∈ lv_args n (as.map (val_ cs ad))
  | [], n, j, v, h, _ => by simp at h
  | w :: as, n, j, v, h, h9 => by
    rw [List.flatMap_cons] at h
    rw [List.map_cons]
    unfold lv_args
    rw [val_cat]
    by_cases hw : w.1 = 1
    · have h2 : (w.1 == 1) = true := by simpa using hw
      rw [h2] at h
      rw [if_pos hw, if_pos rfl]
      match j, h with
      | 0, h =>
        simp at h
        subst h
        exact List.mem_cons_self
      | 1, h =>
        simp at h
        subst h
        exact absurd rfl h9
      | j + 2, h =>
        simp only [cond_true, List.cons_append, List.nil_append, List.getElem?_cons_succ] at h
        have := ent_mem (cs := cs) (ad := ad) as (n + 2) j v h h9
        rw [show n + (j + 2) = n + 2 + j by omega]
        exact List.mem_cons_of_mem _ this
    · have h2 : (w.1 == 1) = false := by simpa using hw
      rw [h2] at h
      rw [if_neg hw, if_neg (by omega)]
      match j, h with
      | 0, h =>
        simp at h
        subst h
        exact List.mem_cons_self
      | j + 1, h =>
        simp only [cond_false, List.cons_append, List.nil_append, List.getElem?_cons_succ] at h
        have := ent_mem (cs := cs) (ad := ad) as (n + 1) j v h h9
        rw [show n + (j + 1) = n + 1 + j by omega]
        exact List.mem_cons_of_mem _ this
theorem ent_tv {shs : List Nat} {as : List Sv_t} {nL : Nat} (h : ∀ v ∈ as, tv_ shs v) : ∀ v ∈ entL_ as nL, tv_ shs v := by
  intro v hv
  unfold entL_ at hv
  rcases List.mem_append.mp hv with hv | hv
  · obtain ⟨w, h1, h2⟩ := List.mem_flatMap.mp hv
    cases hw : (w.1 == 1) with
    | true =>
      rw [hw] at h2
      simp at h2
      rcases h2 with rfl | rfl
      · exact h _ h1
      · trivial
    | false =>
      rw [hw] at h2
      simp at h2
      subst h2
      exact h _ h1
  · have := List.eq_of_mem_replicate hv
    subst this
    trivial
/-- A CONTRACT OUT OF A WALK -/
theorem ct_of {α : Type} {l : Launch} {y : MethodName} {cc : ByteArray} {nL : Nat} {ret : Option FieldType} {fr lo : Nat} {as : α → List Sv_t} {rm : Int → List Sv_t} {Pre : α → Me_t → Prop} {Post : α → Me_t → Int → Me_t → Prop} (hy : plainName y.cls = true) (hln : ∀ a, ((as a).flatMap fun v => bif v.1 == 1 then [v, ((9 : Nat), (0 : Int))] else [v]).length ≤ nL)
    (body : ∀ (X : Cx_t) (G : Gx_t) (Q : State → Prop) (ad : List Nat) (σ : Me_t) (a : α), X.2.1 = l → X.2.2.2.1 = { frames := fr, cells := 0, slots := 0, locals := lo } → EN_ X G y.cls cc nL ret → (∀ q, q ∈ ad → G.2.2.2 q) → ROK_ X G Q 0 0 ad SHS_ cc (rk_ ret) (fun r σ' => ∃ z, r = rm z ∧ Post a σ z σ') → MT_ SHS_ σ → (∀ v ∈ as a, tv_ SHS_ v) → Pre a σ → WP_ X G Q 0 0 ad SHS_ σ 0 (entL_ (as a) nL) []) : CT_ l y cc nL ret fr lo as rm Pre Post := by
  intro D tc cs ad σ a hA hM hv hpre
  refine Met.ofW (cc := cc) (maxL := nL) (ret := ret) hy rfl ?_
  intro p e s m args below meth c s₁ B hml hP
  obtain ⟨rfl, hPP, hK, hD0, hXW⟩ := hP
  have hts := atoms_spec (ws := .code y cc nL ret :: gl_) B.pre
  have E : EN_ (p, l, e, { frames := fr, cells := 0, slots := 0, locals := lo }, s, m, ((as a).map (val_ cs ad)).toArray, below, meth, c) (D, tc, cs, fun q => q ∈ ad) y.cls cc nL ret :=
    ⟨B.exec, B.bytes, hml, findClass_of_methodNamed B.named, fun w hw => hts w (List.mem_cons_of_mem _ hw), hK, B.returns, B.notSynchronized, hXW⟩
  have hD : va_D (fun q => q ∈ ad) (wl_ cs tc ad SHS_ σ) := ⟨hD0.1, fun k q hk => wl_in hA hk⟩
  have b := body _ _ _ ad σ a rfl rfl E (fun _ h => h) (rok_ E rfl) hM hv hpre hM hA s.heap [] ((lg_sl ((as a).map (val_ cs ad)) ++ List.replicate (nL - (lg_sl ((as a).map (val_ cs ad))).length) Slot.unset).toArray) hPP hD va_S.rf ?_ (ent_tv hv) (fun v h => by simp at h)
  · rw [lg_entry_eq]
    exact b
  · have h1 := lv_entry ((as a).map (val_ cs ad)) (n := nL) (by rw [lgs_len]; exact hln a)
    refine lh_of h1 ?_ ?_
    · unfold entL_
      have := hln a
      simp only [List.length_append, List.length_replicate]
      omega
    · intro j v hj h9
      unfold entL_ at hj
      by_cases hlt : j < ((as a).flatMap fun v => bif v.1 == 1 then [v, ((9 : Nat), (0 : Int))] else [v]).length
      · rw [List.getElem?_append_left hlt] at hj
        have := ent_mem (cs := cs) (ad := ad) (as a) 0 j v hj h9
        rw [Nat.zero_add] at this
        exact this
      · rw [List.getElem?_append_right (by omega)] at hj
        have := List.eq_of_mem_replicate (List.mem_of_getElem? hj)
        subst this
        exact absurd rfl h9
end
section
set_option maxRecDepth 100000 in
theorem tb_dummy : True := trivial
set_option maxRecDepth 100000 in
theorem uX0 : ∀ w ∈ u_ws RX0 TX0 9, w ∈ gl_ := by
  show ∀ w ∈ [u_lay RX0 TX0 0, u_lay RX0 TX0 1, u_lay RX0 TX0 2, u_lay RX0 TX0 3, u_lay RX0 TX0 4, u_lay RX0 TX0 5, u_lay RX0 TX0 6, u_lay RX0 TX0 7, u_lay RX0 TX0 8], w ∈ gl_
  exact List.forall_mem_cons.mpr ⟨wg_ 295 (by decide +kernel) rfl, List.forall_mem_cons.mpr ⟨wg_ 297 (by decide +kernel) rfl, List.forall_mem_cons.mpr ⟨wg_ 299 (by decide +kernel) rfl, List.forall_mem_cons.mpr ⟨wg_ 301 (by decide +kernel) rfl, List.forall_mem_cons.mpr ⟨wg_ 303 (by decide +kernel) rfl, List.forall_mem_cons.mpr ⟨wg_ 305 (by decide +kernel) rfl, List.forall_mem_cons.mpr ⟨wg_ 307 (by decide +kernel) rfl, List.forall_mem_cons.mpr ⟨wg_ 309 (by decide +kernel) rfl, List.forall_mem_cons.mpr ⟨wg_ 311 (by decide +kernel) rfl, fun _ h => absurd h List.not_mem_nil⟩⟩⟩⟩⟩⟩⟩⟩⟩
set_option maxRecDepth 100000 in
theorem uX1 : ∀ w ∈ u_ws RX1 TX1 9, w ∈ gl_ := by
  show ∀ w ∈ [u_lay RX1 TX1 0, u_lay RX1 TX1 1, u_lay RX1 TX1 2, u_lay RX1 TX1 3, u_lay RX1 TX1 4, u_lay RX1 TX1 5, u_lay RX1 TX1 6, u_lay RX1 TX1 7, u_lay RX1 TX1 8], w ∈ gl_
  exact List.forall_mem_cons.mpr ⟨wg_ 199 (by decide +kernel) rfl, List.forall_mem_cons.mpr ⟨wg_ 201 (by decide +kernel) rfl, List.forall_mem_cons.mpr ⟨wg_ 203 (by decide +kernel) rfl, List.forall_mem_cons.mpr ⟨wg_ 205 (by decide +kernel) rfl, List.forall_mem_cons.mpr ⟨wg_ 207 (by decide +kernel) rfl, List.forall_mem_cons.mpr ⟨wg_ 209 (by decide +kernel) rfl, List.forall_mem_cons.mpr ⟨wg_ 211 (by decide +kernel) rfl, List.forall_mem_cons.mpr ⟨wg_ 213 (by decide +kernel) rfl, List.forall_mem_cons.mpr ⟨wg_ 215 (by decide +kernel) rfl, fun _ h => absurd h List.not_mem_nil⟩⟩⟩⟩⟩⟩⟩⟩⟩
set_option maxRecDepth 100000 in
theorem uX2 : ∀ w ∈ u_ws RX2 TX2 3, w ∈ gl_ := by
  show ∀ w ∈ [u_lay RX2 TX2 0, u_lay RX2 TX2 1, u_lay RX2 TX2 2], w ∈ gl_
  exact List.forall_mem_cons.mpr ⟨wg_ 343 (by decide +kernel) rfl, List.forall_mem_cons.mpr ⟨wg_ 345 (by decide +kernel) rfl, List.forall_mem_cons.mpr ⟨wg_ 347 (by decide +kernel) rfl, fun _ h => absurd h List.not_mem_nil⟩⟩⟩
set_option maxRecDepth 100000 in
theorem uX3 : ∀ w ∈ u_ws RX3 TX3 8, w ∈ gl_ := by
  show ∀ w ∈ [u_lay RX3 TX3 0, u_lay RX3 TX3 1, u_lay RX3 TX3 2, u_lay RX3 TX3 3, u_lay RX3 TX3 4, u_lay RX3 TX3 5, u_lay RX3 TX3 6, u_lay RX3 TX3 7], w ∈ gl_
  exact List.forall_mem_cons.mpr ⟨wg_ 138 (by decide +kernel) rfl, List.forall_mem_cons.mpr ⟨wg_ 140 (by decide +kernel) rfl, List.forall_mem_cons.mpr ⟨wg_ 142 (by decide +kernel) rfl, List.forall_mem_cons.mpr ⟨wg_ 144 (by decide +kernel) rfl, List.forall_mem_cons.mpr ⟨wg_ 146 (by decide +kernel) rfl, List.forall_mem_cons.mpr ⟨wg_ 148 (by decide +kernel) rfl, List.forall_mem_cons.mpr ⟨wg_ 150 (by decide +kernel) rfl, List.forall_mem_cons.mpr ⟨wg_ 152 (by decide +kernel) rfl, fun _ h => absurd h List.not_mem_nil⟩⟩⟩⟩⟩⟩⟩⟩
set_option maxRecDepth 100000 in
theorem uX4 : ∀ w ∈ u_ws RX4 TX4 4, w ∈ gl_ := by
  show ∀ w ∈ [u_lay RX4 TX4 0, u_lay RX4 TX4 1, u_lay RX4 TX4 2, u_lay RX4 TX4 3], w ∈ gl_
  exact List.forall_mem_cons.mpr ⟨wg_ 417 (by decide +kernel) rfl, List.forall_mem_cons.mpr ⟨wg_ 419 (by decide +kernel) rfl, List.forall_mem_cons.mpr ⟨wg_ 421 (by decide +kernel) rfl, List.forall_mem_cons.mpr ⟨wg_ 423 (by decide +kernel) rfl, fun _ h => absurd h List.not_mem_nil⟩⟩⟩⟩
set_option maxRecDepth 100000 in
theorem uX5 : ∀ w ∈ u_ws RX5 TX5 3, w ∈ gl_ := by
  show ∀ w ∈ [u_lay RX5 TX5 0, u_lay RX5 TX5 1, u_lay RX5 TX5 2], w ∈ gl_
  exact List.forall_mem_cons.mpr ⟨wg_ 326 (by decide +kernel) rfl, List.forall_mem_cons.mpr ⟨wg_ 328 (by decide +kernel) rfl, List.forall_mem_cons.mpr ⟨wg_ 330 (by decide +kernel) rfl, fun _ h => absurd h List.not_mem_nil⟩⟩⟩
set_option maxRecDepth 100000 in
theorem uX6 : ∀ w ∈ u_ws RX6 TX6 5, w ∈ gl_ := by
  show ∀ w ∈ [u_lay RX6 TX6 0, u_lay RX6 TX6 1, u_lay RX6 TX6 2, u_lay RX6 TX6 3, u_lay RX6 TX6 4], w ∈ gl_
  exact List.forall_mem_cons.mpr ⟨wg_ 365 (by decide +kernel) rfl, List.forall_mem_cons.mpr ⟨wg_ 367 (by decide +kernel) rfl, List.forall_mem_cons.mpr ⟨wg_ 369 (by decide +kernel) rfl, List.forall_mem_cons.mpr ⟨wg_ 371 (by decide +kernel) rfl, List.forall_mem_cons.mpr ⟨wg_ 373 (by decide +kernel) rfl, fun _ h => absurd h List.not_mem_nil⟩⟩⟩⟩⟩
set_option maxRecDepth 100000 in
theorem uX7 : ∀ w ∈ u_ws RX7 TX7 5, w ∈ gl_ := by
  show ∀ w ∈ [u_lay RX7 TX7 0, u_lay RX7 TX7 1, u_lay RX7 TX7 2, u_lay RX7 TX7 3, u_lay RX7 TX7 4], w ∈ gl_
  exact List.forall_mem_cons.mpr ⟨wg_ 389 (by decide +kernel) rfl, List.forall_mem_cons.mpr ⟨wg_ 391 (by decide +kernel) rfl, List.forall_mem_cons.mpr ⟨wg_ 393 (by decide +kernel) rfl, List.forall_mem_cons.mpr ⟨wg_ 395 (by decide +kernel) rfl, List.forall_mem_cons.mpr ⟨wg_ 397 (by decide +kernel) rfl, fun _ h => absurd h List.not_mem_nil⟩⟩⟩⟩⟩
set_option maxRecDepth 100000 in
theorem uX8 : ∀ w ∈ u_ws RX8 TX8 2, w ∈ gl_ := by
  show ∀ w ∈ [u_lay RX8 TX8 0, u_lay RX8 TX8 1], w ∈ gl_
  exact List.forall_mem_cons.mpr ⟨wg_ 116 (by decide +kernel) rfl, List.forall_mem_cons.mpr ⟨wg_ 118 (by decide +kernel) rfl, fun _ h => absurd h List.not_mem_nil⟩⟩
set_option maxRecDepth 100000 in
theorem uX9 : ∀ w ∈ u_ws RX9 TX9 10, w ∈ gl_ := by
  show ∀ w ∈ [u_lay RX9 TX9 0, u_lay RX9 TX9 1, u_lay RX9 TX9 2, u_lay RX9 TX9 3, u_lay RX9 TX9 4, u_lay RX9 TX9 5, u_lay RX9 TX9 6, u_lay RX9 TX9 7, u_lay RX9 TX9 8, u_lay RX9 TX9 9], w ∈ gl_
  exact List.forall_mem_cons.mpr ⟨wg_ 250 (by decide +kernel) rfl, List.forall_mem_cons.mpr ⟨wg_ 252 (by decide +kernel) rfl, List.forall_mem_cons.mpr ⟨wg_ 254 (by decide +kernel) rfl, List.forall_mem_cons.mpr ⟨wg_ 256 (by decide +kernel) rfl, List.forall_mem_cons.mpr ⟨wg_ 258 (by decide +kernel) rfl, List.forall_mem_cons.mpr ⟨wg_ 260 (by decide +kernel) rfl, List.forall_mem_cons.mpr ⟨wg_ 262 (by decide +kernel) rfl, List.forall_mem_cons.mpr ⟨wg_ 264 (by decide +kernel) rfl, List.forall_mem_cons.mpr ⟨wg_ 266 (by decide +kernel) rfl, List.forall_mem_cons.mpr ⟨wg_ 268 (by decide +kernel) rfl, fun _ h => absurd h List.not_mem_nil⟩⟩⟩⟩⟩⟩⟩⟩⟩⟩
set_option maxRecDepth 100000 in
theorem uX10 : ∀ w ∈ u_ws RX10 TX10 14, w ∈ gl_ := by
  show ∀ w ∈ [u_lay RX10 TX10 0, u_lay RX10 TX10 1, u_lay RX10 TX10 2, u_lay RX10 TX10 3, u_lay RX10 TX10 4, u_lay RX10 TX10 5, u_lay RX10 TX10 6, u_lay RX10 TX10 7, u_lay RX10 TX10 8, u_lay RX10 TX10 9, u_lay RX10 TX10 10, u_lay RX10 TX10 11, u_lay RX10 TX10 12, u_lay RX10 TX10 13], w ∈ gl_
  exact List.forall_mem_cons.mpr ⟨wg_ 441 (by decide +kernel) rfl, List.forall_mem_cons.mpr ⟨wg_ 443 (by decide +kernel) rfl, List.forall_mem_cons.mpr ⟨wg_ 445 (by decide +kernel) rfl, List.forall_mem_cons.mpr ⟨wg_ 447 (by decide +kernel) rfl, List.forall_mem_cons.mpr ⟨wg_ 449 (by decide +kernel) rfl, List.forall_mem_cons.mpr ⟨wg_ 451 (by decide +kernel) rfl, List.forall_mem_cons.mpr ⟨wg_ 453 (by decide +kernel) rfl, List.forall_mem_cons.mpr ⟨wg_ 455 (by decide +kernel) rfl, List.forall_mem_cons.mpr ⟨wg_ 457 (by decide +kernel) rfl, List.forall_mem_cons.mpr ⟨wg_ 459 (by decide +kernel) rfl, List.forall_mem_cons.mpr ⟨wg_ 461 (by decide +kernel) rfl, List.forall_mem_cons.mpr ⟨wg_ 463 (by decide +kernel) rfl, List.forall_mem_cons.mpr ⟨wg_ 465 (by decide +kernel) rfl, List.forall_mem_cons.mpr ⟨wg_ 467 (by decide +kernel) rfl, fun _ h => absurd h List.not_mem_nil⟩⟩⟩⟩⟩⟩⟩⟩⟩⟩⟩⟩⟩⟩
set_option maxRecDepth 100000 in
theorem uX11 : ∀ w ∈ u_ws RX11 TX11 39, w ∈ gl_ := by
  show ∀ w ∈ [u_lay RX11 TX11 0, u_lay RX11 TX11 1, u_lay RX11 TX11 2, u_lay RX11 TX11 3, u_lay RX11 TX11 4, u_lay RX11 TX11 5, u_lay RX11 TX11 6, u_lay RX11 TX11 7, u_lay RX11 TX11 8, u_lay RX11 TX11 9, u_lay RX11 TX11 10, u_lay RX11 TX11 11, u_lay RX11 TX11 12, u_lay RX11 TX11 13, u_lay RX11 TX11 14, u_lay RX11 TX11 15, u_lay RX11 TX11 16, u_lay RX11 TX11 17, u_lay RX11 TX11 18, u_lay RX11 TX11 19, u_lay RX11 TX11 20, u_lay RX11 TX11 21, u_lay RX11 TX11 22, u_lay RX11 TX11 23, u_lay RX11 TX11 24, u_lay RX11 TX11 25, u_lay RX11 TX11 26, u_lay RX11 TX11 27, u_lay RX11 TX11 28, u_lay RX11 TX11 29, u_lay RX11 TX11 30, u_lay RX11 TX11 31, u_lay RX11 TX11 32, u_lay RX11 TX11 33, u_lay RX11 TX11 34, u_lay RX11 TX11 35, u_lay RX11 TX11 36, u_lay RX11 TX11 37, u_lay RX11 TX11 38], w ∈ gl_
  exact List.forall_mem_cons.mpr ⟨wg_ 1269 (by decide +kernel) rfl, List.forall_mem_cons.mpr ⟨wg_ 1271 (by decide +kernel) rfl, List.forall_mem_cons.mpr ⟨wg_ 1273 (by decide +kernel) rfl, List.forall_mem_cons.mpr ⟨wg_ 1275 (by decide +kernel) rfl, List.forall_mem_cons.mpr ⟨wg_ 1277 (by decide +kernel) rfl, List.forall_mem_cons.mpr ⟨wg_ 1279 (by decide +kernel) rfl, List.forall_mem_cons.mpr ⟨wg_ 1281 (by decide +kernel) rfl, List.forall_mem_cons.mpr ⟨wg_ 1283 (by decide +kernel) rfl, List.forall_mem_cons.mpr ⟨wg_ 1285 (by decide +kernel) rfl, List.forall_mem_cons.mpr ⟨wg_ 1287 (by decide +kernel) rfl, List.forall_mem_cons.mpr ⟨wg_ 1289 (by decide +kernel) rfl, List.forall_mem_cons.mpr ⟨wg_ 1291 (by decide +kernel) rfl, List.forall_mem_cons.mpr ⟨wg_ 1293 (by decide +kernel) rfl, List.forall_mem_cons.mpr ⟨wg_ 1295 (by decide +kernel) rfl, List.forall_mem_cons.mpr ⟨wg_ 1297 (by decide +kernel) rfl, List.forall_mem_cons.mpr ⟨wg_ 1299 (by decide +kernel) rfl, List.forall_mem_cons.mpr ⟨wg_ 1301 (by decide +kernel) rfl, List.forall_mem_cons.mpr ⟨wg_ 1303 (by decide +kernel) rfl, List.forall_mem_cons.mpr ⟨wg_ 1305 (by decide +kernel) rfl, List.forall_mem_cons.mpr ⟨wg_ 1307 (by decide +kernel) rfl, List.forall_mem_cons.mpr ⟨wg_ 1309 (by decide +kernel) rfl, List.forall_mem_cons.mpr ⟨wg_ 1311 (by decide +kernel) rfl, List.forall_mem_cons.mpr ⟨wg_ 1313 (by decide +kernel) rfl, List.forall_mem_cons.mpr ⟨wg_ 1315 (by decide +kernel) rfl, List.forall_mem_cons.mpr ⟨wg_ 1317 (by decide +kernel) rfl, List.forall_mem_cons.mpr ⟨wg_ 1319 (by decide +kernel) rfl, List.forall_mem_cons.mpr ⟨wg_ 1321 (by decide +kernel) rfl, List.forall_mem_cons.mpr ⟨wg_ 1323 (by decide +kernel) rfl, List.forall_mem_cons.mpr ⟨wg_ 1325 (by decide +kernel) rfl, List.forall_mem_cons.mpr ⟨wg_ 1327 (by decide +kernel) rfl, List.forall_mem_cons.mpr ⟨wg_ 1329 (by decide +kernel) rfl, List.forall_mem_cons.mpr ⟨wg_ 1331 (by decide +kernel) rfl, List.forall_mem_cons.mpr ⟨wg_ 1333 (by decide +kernel) rfl, List.forall_mem_cons.mpr ⟨wg_ 1335 (by decide +kernel) rfl, List.forall_mem_cons.mpr ⟨wg_ 1337 (by decide +kernel) rfl, List.forall_mem_cons.mpr ⟨wg_ 1339 (by decide +kernel) rfl, List.forall_mem_cons.mpr ⟨wg_ 1341 (by decide +kernel) rfl, List.forall_mem_cons.mpr ⟨wg_ 1343 (by decide +kernel) rfl, List.forall_mem_cons.mpr ⟨wg_ 1345 (by decide +kernel) rfl, fun _ h => absurd h List.not_mem_nil⟩⟩⟩⟩⟩⟩⟩⟩⟩⟩⟩⟩⟩⟩⟩⟩⟩⟩⟩⟩⟩⟩⟩⟩⟩⟩⟩⟩⟩⟩⟩⟩⟩⟩⟩⟩⟩⟩⟩
set_option maxRecDepth 100000 in
theorem CL_ok : CL_ := by
  intro c C T N h
  match c, h with
  | 0, h => cases h; exact ⟨uX0, tyX0_ok, nmX0⟩
  | 1, h => cases h; exact ⟨uX1, tyX1_ok, nmX1⟩
  | 2, h => cases h; exact ⟨uX2, tyX2_ok, nmX2⟩
  | 3, h => cases h; exact ⟨uX3, tyX3_ok, nmX3⟩
  | 4, h => cases h; exact ⟨uX4, tyX4_ok, nmX4⟩
  | 5, h => cases h; exact ⟨uX5, tyX5_ok, nmX5⟩
  | 6, h => cases h; exact ⟨uX6, tyX6_ok, nmX6⟩
  | 7, h => cases h; exact ⟨uX7, tyX7_ok, nmX7⟩
  | 8, h => cases h; exact ⟨uX8, tyX8_ok, nmX8⟩
  | 9, h => cases h; exact ⟨uX9, tyX9_ok, nmX9⟩
  | 10, h => cases h; exact ⟨uX10, tyX10_ok, nmX10⟩
  | 11, h => cases h; exact ⟨uX11, tyX11_ok, nmX11⟩
  | c + 12, h => simp at h
set_option maxRecDepth 100000 in
theorem KT_lt {sh : Nat} (h : (KT_ sh).1 < 9) : sh < 83 := by
  rcases Nat.lt_or_ge sh 83 with q | q
  · exact q
  · have : KT_ sh = (9, 0, 0) := by unfold KT_; rw [List.getD_eq_getElem?_getD, List.getElem?_eq_none (by show 83 ≤ sh; exact q)]; rfl
    rw [this] at h
    exact absurd h (by decide)
set_option maxRecDepth 100000 in
theorem SH_b : ∀ sh, sh < 83 → (KT_ sh).1 = 0 → (cls_[(KT_ sh).2.1]?.map fun q => q.2.2) = some (KT_ sh).2.2 ∧ ∀ j, j < (KT_ sh).2.2 → tyok_ (tyF_ (KT_ sh).2.1 j) (ty_ sh j) = true := by decide +kernel
set_option maxRecDepth 100000 in
theorem SH_ok : SH_ := by
  intro sh c n h
  have hlt := KT_lt (sh := sh) (by rw [h]; exact (by decide : (0 : Nat) < 9))
  obtain ⟨h1, h2⟩ := SH_b sh hlt (by rw [h])
  rw [h] at h1 h2
  simp only at h1 h2
  refine ⟨?_, h2⟩
  cases hc : cls_[c]? with
  | none => rw [hc] at h1; cases h1
  | some q =>
    rw [hc] at h1
    obtain ⟨C, T, N⟩ := q
    simp only [Option.map_some, Option.some.injEq] at h1
    subst h1
    exact ⟨C, T, rfl⟩
set_option maxRecDepth 100000 in
theorem sa_9 {sh : Nat} (h : KT_ sh = (9, 0, 0)) : ∀ (a c n : Nat), KT_ sh = (a, c, n) → a = 9 ∧ n = 0 := by
  intro a c n h2
  rw [h] at h2
  cases h2
  exact ⟨rfl, rfl⟩
set_option maxRecDepth 100000 in
theorem SA_ok : SA_ := by
  intro sh a c n h
  by_cases hlt : sh < 83
  · match sh, hlt, h with
    | 0, _, h => cases h; exact ⟨(fun q => by cases q), (fun q => by cases q), (fun q => by cases q), (fun q => by cases q), (fun q => by cases q), (fun _ _ _ _ _ => rfl), (fun q => by omega), by decide⟩
    | 1, _, h => cases h; exact ⟨(fun q => by cases q), (fun q => by cases q), (fun q => by cases q), (fun q => by cases q), (fun q => by cases q), (fun _ _ _ _ _ => rfl), (fun q => by omega), by decide⟩
    | 2, _, h => cases h; exact ⟨(fun q => by cases q), (fun _ _ => ⟨rfl, rfl, by decide, by decide⟩), (fun q => by cases q), (fun q => by cases q), (fun q => by cases q), (fun q => by cases q), (fun _ _ _ _ _ => rfl), by decide⟩
    | 3, _, h => cases h; exact ⟨(fun q => by cases q), (fun q => by cases q), (fun q => by cases q), (fun q => by cases q), (fun q => by cases q), (fun _ _ _ _ _ => rfl), (fun q => by omega), by decide⟩
    | 4, _, h => cases h; exact ⟨(fun q => by cases q), (fun _ _ => ⟨rfl, rfl, by decide, by decide⟩), (fun q => by cases q), (fun q => by cases q), (fun q => by cases q), (fun q => by cases q), (fun _ _ _ _ _ => rfl), by decide⟩
    | 5, _, h => cases h; exact ⟨(fun q => by cases q), (fun q => by cases q), (fun q => by cases q), (fun q => by cases q), (fun q => by cases q), (fun _ _ _ _ _ => rfl), (fun q => by omega), by decide⟩
    | 6, _, h => cases h; exact ⟨(fun q => by cases q), (fun q => by cases q), (fun q => by cases q), (fun q => by cases q), (fun _ => ⟨fun _ => rfl, by decide, by decide, fun _ _ _ => rfl⟩), (fun q => by cases q), (fun _ q => by omega), by decide⟩
    | 7, _, h => cases h; exact ⟨(fun _ _ => ⟨rfl, rfl⟩), (fun q => by cases q), (fun q => by cases q), (fun q => by cases q), (fun q => by cases q), (fun q => by cases q), (fun _ _ _ _ _ => rfl), by decide⟩
    | 8, _, h => cases h; exact ⟨(fun _ _ => ⟨rfl, rfl⟩), (fun q => by cases q), (fun q => by cases q), (fun q => by cases q), (fun q => by cases q), (fun q => by cases q), (fun _ _ _ _ _ => rfl), by decide⟩
    | 9, _, h => cases h; exact ⟨(fun _ _ => ⟨rfl, rfl⟩), (fun q => by cases q), (fun q => by cases q), (fun q => by cases q), (fun q => by cases q), (fun q => by cases q), (fun _ _ _ _ _ => rfl), by decide⟩
    | 10, _, h => cases h; exact ⟨(fun q => by cases q), (fun q => by cases q), (fun q => by cases q), (fun q => by cases q), (fun q => by cases q), (fun _ _ _ _ _ => rfl), (fun q => by omega), by decide⟩
    | 11, _, h => cases h; exact ⟨(fun _ _ => ⟨rfl, rfl⟩), (fun q => by cases q), (fun q => by cases q), (fun q => by cases q), (fun q => by cases q), (fun q => by cases q), (fun _ _ _ _ _ => rfl), by decide⟩
    | 12, _, h => cases h; exact ⟨(fun q => by cases q), (fun q => by cases q), (fun q => by cases q), (fun q => by cases q), (fun _ => ⟨fun _ => rfl, by decide, by decide, fun _ _ _ => rfl⟩), (fun q => by cases q), (fun _ q => by omega), by decide⟩
    | 13, _, h => cases h; exact ⟨(fun q => by cases q), (fun q => by cases q), (fun _ _ => ⟨rfl, rfl, by decide, by decide⟩), (fun q => by cases q), (fun q => by cases q), (fun q => by cases q), (fun _ _ _ _ _ => rfl), by decide⟩
    | 14, _, h => cases h; exact ⟨(fun q => by cases q), (fun q => by cases q), (fun q => by cases q), (fun q => by cases q), (fun _ => ⟨fun _ => rfl, by decide, by decide, fun _ _ _ => rfl⟩), (fun q => by cases q), (fun _ q => by omega), by decide⟩
    | 15, _, h => cases h; exact ⟨(fun q => by cases q), (fun q => by cases q), (fun q => by cases q), (fun q => by cases q), (fun q => by cases q), (fun _ _ _ _ _ => rfl), (fun q => by omega), by decide⟩
    | 16, _, h => cases h; exact ⟨(fun _ _ => ⟨rfl, rfl⟩), (fun q => by cases q), (fun q => by cases q), (fun q => by cases q), (fun q => by cases q), (fun q => by cases q), (fun _ _ _ _ _ => rfl), by decide⟩
    | 17, _, h => cases h; exact ⟨(fun q => by cases q), (fun _ _ => ⟨rfl, rfl, by decide, by decide⟩), (fun q => by cases q), (fun q => by cases q), (fun q => by cases q), (fun q => by cases q), (fun _ _ _ _ _ => rfl), by decide⟩
    | 18, _, h => cases h; exact ⟨(fun q => by cases q), (fun _ _ => ⟨rfl, rfl, by decide, by decide⟩), (fun q => by cases q), (fun q => by cases q), (fun q => by cases q), (fun q => by cases q), (fun _ _ _ _ _ => rfl), by decide⟩
    | 19, _, h => cases h; exact ⟨(fun q => by cases q), (fun q => by cases q), (fun q => by cases q), (fun q => by cases q), (fun q => by cases q), (fun _ _ _ _ _ => rfl), (fun q => by omega), by decide⟩
    | 20, _, h => cases h; exact ⟨(fun q => by cases q), (fun q => by cases q), (fun _ _ => ⟨rfl, rfl, by decide, by decide⟩), (fun q => by cases q), (fun q => by cases q), (fun q => by cases q), (fun _ _ _ _ _ => rfl), by decide⟩
    | 21, _, h => cases h; exact ⟨(fun q => by cases q), (fun q => by cases q), (fun q => by cases q), (fun q => by cases q), (fun q => by cases q), (fun _ _ _ _ _ => rfl), (fun q => by omega), by decide⟩
    | 22, _, h => cases h; exact ⟨(fun _ _ => ⟨rfl, rfl⟩), (fun q => by cases q), (fun q => by cases q), (fun q => by cases q), (fun q => by cases q), (fun q => by cases q), (fun _ _ _ _ _ => rfl), by decide⟩
    | 23, _, h => cases h; exact ⟨(fun _ _ => ⟨rfl, rfl⟩), (fun q => by cases q), (fun q => by cases q), (fun q => by cases q), (fun q => by cases q), (fun q => by cases q), (fun _ _ _ _ _ => rfl), by decide⟩
    | 24, _, h => cases h; exact ⟨(fun q => by cases q), (fun q => by cases q), (fun q => by cases q), (fun q => by cases q), (fun q => by cases q), (fun _ _ _ _ _ => rfl), (fun q => by omega), by decide⟩
    | 25, _, h => cases h; exact ⟨(fun _ _ => ⟨rfl, rfl⟩), (fun q => by cases q), (fun q => by cases q), (fun q => by cases q), (fun q => by cases q), (fun q => by cases q), (fun _ _ _ _ _ => rfl), by decide⟩
    | 26, _, h => cases h; exact ⟨(fun _ _ => ⟨rfl, rfl⟩), (fun q => by cases q), (fun q => by cases q), (fun q => by cases q), (fun q => by cases q), (fun q => by cases q), (fun _ _ _ _ _ => rfl), by decide⟩
    | 27, _, h => cases h; exact ⟨(fun q => by cases q), (fun q => by cases q), (fun q => by cases q), (fun q => by cases q), (fun q => by cases q), (fun _ _ _ _ _ => rfl), (fun q => by omega), by decide⟩
    | 28, _, h => cases h; exact ⟨(fun _ _ => ⟨rfl, rfl⟩), (fun q => by cases q), (fun q => by cases q), (fun q => by cases q), (fun q => by cases q), (fun q => by cases q), (fun _ _ _ _ _ => rfl), by decide⟩
    | 29, _, h => cases h; exact ⟨(fun _ _ => ⟨rfl, rfl⟩), (fun q => by cases q), (fun q => by cases q), (fun q => by cases q), (fun q => by cases q), (fun q => by cases q), (fun _ _ _ _ _ => rfl), by decide⟩
    | 30, _, h => cases h; exact ⟨(fun q => by cases q), (fun q => by cases q), (fun q => by cases q), (fun q => by cases q), (fun q => by cases q), (fun _ _ _ _ _ => rfl), (fun q => by omega), by decide⟩
    | 31, _, h => cases h; exact ⟨(fun q => by cases q), (fun q => by cases q), (fun q => by cases q), (fun _ _ => ⟨rfl, rfl⟩), (fun q => by cases q), (fun q => by cases q), (fun _ _ _ _ _ => rfl), by decide⟩
    | 32, _, h => cases h; exact ⟨(fun q => by cases q), (fun q => by cases q), (fun q => by cases q), (fun q => by cases q), (fun q => by cases q), (fun _ _ _ _ _ => rfl), (fun q => by omega), by decide⟩
    | 33, _, h => cases h; exact ⟨(fun _ _ => ⟨rfl, rfl⟩), (fun q => by cases q), (fun q => by cases q), (fun q => by cases q), (fun q => by cases q), (fun q => by cases q), (fun _ _ _ _ _ => rfl), by decide⟩
    | 34, _, h => cases h; exact ⟨(fun _ _ => ⟨rfl, rfl⟩), (fun q => by cases q), (fun q => by cases q), (fun q => by cases q), (fun q => by cases q), (fun q => by cases q), (fun _ _ _ _ _ => rfl), by decide⟩
    | 35, _, h => cases h; exact ⟨(fun q => by cases q), (fun q => by cases q), (fun _ _ => ⟨rfl, rfl, by decide, by decide⟩), (fun q => by cases q), (fun q => by cases q), (fun q => by cases q), (fun _ _ _ _ _ => rfl), by decide⟩
    | 36, _, h => cases h; exact ⟨(fun q => by cases q), (fun _ _ => ⟨rfl, rfl, by decide, by decide⟩), (fun q => by cases q), (fun q => by cases q), (fun q => by cases q), (fun q => by cases q), (fun _ _ _ _ _ => rfl), by decide⟩
    | 37, _, h => cases h; exact ⟨(fun _ _ => ⟨rfl, rfl⟩), (fun q => by cases q), (fun q => by cases q), (fun q => by cases q), (fun q => by cases q), (fun q => by cases q), (fun _ _ _ _ _ => rfl), by decide⟩
    | 38, _, h => cases h; exact ⟨(fun _ _ => ⟨rfl, rfl⟩), (fun q => by cases q), (fun q => by cases q), (fun q => by cases q), (fun q => by cases q), (fun q => by cases q), (fun _ _ _ _ _ => rfl), by decide⟩
    | 39, _, h => cases h; exact ⟨(fun _ _ => ⟨rfl, rfl⟩), (fun q => by cases q), (fun q => by cases q), (fun q => by cases q), (fun q => by cases q), (fun q => by cases q), (fun _ _ _ _ _ => rfl), by decide⟩
    | 40, _, h => cases h; exact ⟨(fun _ _ => ⟨rfl, rfl⟩), (fun q => by cases q), (fun q => by cases q), (fun q => by cases q), (fun q => by cases q), (fun q => by cases q), (fun _ _ _ _ _ => rfl), by decide⟩
    | 41, _, h => cases h; exact ⟨(fun _ _ => ⟨rfl, rfl⟩), (fun q => by cases q), (fun q => by cases q), (fun q => by cases q), (fun q => by cases q), (fun q => by cases q), (fun _ _ _ _ _ => rfl), by decide⟩
    | 42, _, h => cases h; exact ⟨(fun _ _ => ⟨rfl, rfl⟩), (fun q => by cases q), (fun q => by cases q), (fun q => by cases q), (fun q => by cases q), (fun q => by cases q), (fun _ _ _ _ _ => rfl), by decide⟩
    | 43, _, h => cases h; exact ⟨(fun q => by cases q), (fun q => by cases q), (fun _ _ => ⟨rfl, rfl, by decide, by decide⟩), (fun q => by cases q), (fun q => by cases q), (fun q => by cases q), (fun _ _ _ _ _ => rfl), by decide⟩
    | 44, _, h => cases h; exact ⟨(fun _ _ => ⟨rfl, rfl⟩), (fun q => by cases q), (fun q => by cases q), (fun q => by cases q), (fun q => by cases q), (fun q => by cases q), (fun _ _ _ _ _ => rfl), by decide⟩
    | 45, _, h => cases h; exact ⟨(fun _ _ => ⟨rfl, rfl⟩), (fun q => by cases q), (fun q => by cases q), (fun q => by cases q), (fun q => by cases q), (fun q => by cases q), (fun _ _ _ _ _ => rfl), by decide⟩
    | 46, _, h => cases h; exact ⟨(fun _ _ => ⟨rfl, rfl⟩), (fun q => by cases q), (fun q => by cases q), (fun q => by cases q), (fun q => by cases q), (fun q => by cases q), (fun _ _ _ _ _ => rfl), by decide⟩
    | 47, _, h => cases h; exact ⟨(fun _ _ => ⟨rfl, rfl⟩), (fun q => by cases q), (fun q => by cases q), (fun q => by cases q), (fun q => by cases q), (fun q => by cases q), (fun _ _ _ _ _ => rfl), by decide⟩
    | 48, _, h => cases h; exact ⟨(fun _ _ => ⟨rfl, rfl⟩), (fun q => by cases q), (fun q => by cases q), (fun q => by cases q), (fun q => by cases q), (fun q => by cases q), (fun _ _ _ _ _ => rfl), by decide⟩
    | 49, _, h => cases h; exact ⟨(fun _ _ => ⟨rfl, rfl⟩), (fun q => by cases q), (fun q => by cases q), (fun q => by cases q), (fun q => by cases q), (fun q => by cases q), (fun _ _ _ _ _ => rfl), by decide⟩
    | 50, _, h => cases h; exact ⟨(fun q => by cases q), (fun q => by cases q), (fun q => by cases q), (fun _ _ => ⟨rfl, rfl⟩), (fun q => by cases q), (fun q => by cases q), (fun _ _ _ _ _ => rfl), by decide⟩
    | 51, _, h => cases h; exact ⟨(fun q => by cases q), (fun q => by cases q), (fun q => by cases q), (fun _ _ => ⟨rfl, rfl⟩), (fun q => by cases q), (fun q => by cases q), (fun _ _ _ _ _ => rfl), by decide⟩
    | 52, _, h => cases h; exact ⟨(fun q => by cases q), (fun q => by cases q), (fun q => by cases q), (fun q => by cases q), (fun q => by cases q), (fun q => by cases q), (fun _ q => by omega), by decide⟩
    | 53, _, h => cases h; exact ⟨(fun q => by cases q), (fun q => by cases q), (fun q => by cases q), (fun q => by cases q), (fun q => by cases q), (fun q => by cases q), (fun _ q => by omega), by decide⟩
    | 54, _, h => cases h; exact ⟨(fun q => by cases q), (fun q => by cases q), (fun q => by cases q), (fun q => by cases q), (fun q => by cases q), (fun q => by cases q), (fun _ q => by omega), by decide⟩
    | 55, _, h => cases h; exact ⟨(fun q => by cases q), (fun q => by cases q), (fun q => by cases q), (fun q => by cases q), (fun q => by cases q), (fun q => by cases q), (fun _ q => by omega), by decide⟩
    | 56, _, h => cases h; exact ⟨(fun q => by cases q), (fun q => by cases q), (fun q => by cases q), (fun q => by cases q), (fun q => by cases q), (fun q => by cases q), (fun _ q => by omega), by decide⟩
    | 57, _, h => cases h; exact ⟨(fun q => by cases q), (fun q => by cases q), (fun q => by cases q), (fun q => by cases q), (fun q => by cases q), (fun q => by cases q), (fun _ q => by omega), by decide⟩
    | 58, _, h => cases h; exact ⟨(fun q => by cases q), (fun q => by cases q), (fun q => by cases q), (fun q => by cases q), (fun q => by cases q), (fun q => by cases q), (fun _ q => by omega), by decide⟩
    | 59, _, h => cases h; exact ⟨(fun q => by cases q), (fun q => by cases q), (fun q => by cases q), (fun q => by cases q), (fun q => by cases q), (fun q => by cases q), (fun _ q => by omega), by decide⟩
    | 60, _, h => cases h; exact ⟨(fun q => by cases q), (fun q => by cases q), (fun q => by cases q), (fun q => by cases q), (fun q => by cases q), (fun _ _ _ _ _ => rfl), (fun q => by omega), by decide⟩
    | 61, _, h => cases h; exact ⟨(fun q => by cases q), (fun q => by cases q), (fun q => by cases q), (fun q => by cases q), (fun q => by cases q), (fun _ _ _ _ _ => rfl), (fun q => by omega), by decide⟩
    | 62, _, h => cases h; exact ⟨(fun q => by cases q), (fun q => by cases q), (fun q => by cases q), (fun q => by cases q), (fun q => by cases q), (fun _ _ _ _ _ => rfl), (fun q => by omega), by decide⟩
    | 63, _, h => cases h; exact ⟨(fun q => by cases q), (fun q => by cases q), (fun q => by cases q), (fun q => by cases q), (fun q => by cases q), (fun _ _ _ _ _ => rfl), (fun q => by omega), by decide⟩
    | 64, _, h => cases h; exact ⟨(fun q => by cases q), (fun q => by cases q), (fun q => by cases q), (fun q => by cases q), (fun q => by cases q), (fun _ _ _ _ _ => rfl), (fun q => by omega), by decide⟩
    | 65, _, h => cases h; exact ⟨(fun q => by cases q), (fun q => by cases q), (fun q => by cases q), (fun q => by cases q), (fun q => by cases q), (fun _ _ _ _ _ => rfl), (fun q => by omega), by decide⟩
    | 66, _, h => cases h; exact ⟨(fun q => by cases q), (fun q => by cases q), (fun q => by cases q), (fun q => by cases q), (fun q => by cases q), (fun _ _ _ _ _ => rfl), (fun q => by omega), by decide⟩
    | 67, _, h => cases h; exact ⟨(fun q => by cases q), (fun q => by cases q), (fun q => by cases q), (fun q => by cases q), (fun q => by cases q), (fun _ _ _ _ _ => rfl), (fun q => by omega), by decide⟩
    | 68, _, h => cases h; exact ⟨(fun q => by cases q), (fun q => by cases q), (fun q => by cases q), (fun q => by cases q), (fun q => by cases q), (fun _ _ _ _ _ => rfl), (fun q => by omega), by decide⟩
    | 69, _, h => cases h; exact ⟨(fun q => by cases q), (fun q => by cases q), (fun q => by cases q), (fun q => by cases q), (fun q => by cases q), (fun _ _ _ _ _ => rfl), (fun q => by omega), by decide⟩
    | 70, _, h => cases h; exact ⟨(fun q => by cases q), (fun q => by cases q), (fun q => by cases q), (fun q => by cases q), (fun q => by cases q), (fun _ _ _ _ _ => rfl), (fun q => by omega), by decide⟩
    | 71, _, h => cases h; exact ⟨(fun q => by cases q), (fun q => by cases q), (fun q => by cases q), (fun q => by cases q), (fun q => by cases q), (fun _ _ _ _ _ => rfl), (fun q => by omega), by decide⟩
    | 72, _, h => cases h; exact ⟨(fun q => by cases q), (fun q => by cases q), (fun q => by cases q), (fun q => by cases q), (fun q => by cases q), (fun q => by cases q), (fun _ q => by omega), by decide⟩
    | 73, _, h => cases h; exact ⟨(fun q => by cases q), (fun q => by cases q), (fun q => by cases q), (fun q => by cases q), (fun q => by cases q), (fun q => by cases q), (fun _ q => by omega), by decide⟩
    | 74, _, h => cases h; exact ⟨(fun q => by cases q), (fun q => by cases q), (fun q => by cases q), (fun q => by cases q), (fun q => by cases q), (fun q => by cases q), (fun _ q => by omega), by decide⟩
    | 75, _, h => cases h; exact ⟨(fun q => by cases q), (fun q => by cases q), (fun q => by cases q), (fun q => by cases q), (fun q => by cases q), (fun q => by cases q), (fun _ q => by omega), by decide⟩
    | 76, _, h => cases h; exact ⟨(fun q => by cases q), (fun q => by cases q), (fun q => by cases q), (fun q => by cases q), (fun q => by cases q), (fun q => by cases q), (fun _ q => by omega), by decide⟩
    | 77, _, h => cases h; exact ⟨(fun q => by cases q), (fun q => by cases q), (fun q => by cases q), (fun q => by cases q), (fun q => by cases q), (fun q => by cases q), (fun _ q => by omega), by decide⟩
    | 78, _, h => cases h; exact ⟨(fun q => by cases q), (fun q => by cases q), (fun q => by cases q), (fun q => by cases q), (fun q => by cases q), (fun q => by cases q), (fun _ q => by omega), by decide⟩
    | 79, _, h => cases h; exact ⟨(fun q => by cases q), (fun q => by cases q), (fun q => by cases q), (fun q => by cases q), (fun q => by cases q), (fun q => by cases q), (fun _ q => by omega), by decide⟩
    | 80, _, h => cases h; exact ⟨(fun q => by cases q), (fun q => by cases q), (fun q => by cases q), (fun q => by cases q), (fun _ => ⟨fun _ => rfl, by decide, by decide, fun _ _ _ => rfl⟩), (fun q => by cases q), (fun _ q => by omega), by decide⟩
    | 81, _, h => cases h; exact ⟨(fun q => by cases q), (fun q => by cases q), (fun q => by cases q), (fun q => by cases q), (fun _ => ⟨fun _ => rfl, by decide, by decide, fun _ _ _ => rfl⟩), (fun q => by cases q), (fun _ q => by omega), by decide⟩
    | 82, _, h => cases h; exact ⟨(fun q => by cases q), (fun q => by cases q), (fun q => by cases q), (fun q => by cases q), (fun _ => ⟨fun _ => rfl, by decide, by decide, fun _ _ _ => rfl⟩), (fun q => by cases q), (fun _ q => by omega), by decide⟩
    | n + 83, hlt, _ => exact absurd hlt (by omega)
  · have e : KT_ sh = (9, 0, 0) := by unfold KT_; rw [List.getD_eq_getElem?_getD, List.getElem?_eq_none (by show 83 ≤ sh; omega)]; rfl
    obtain ⟨rfl, rfl⟩ := sa_9 e a c n h
    exact ⟨(fun q => by cases q), (fun q => by cases q), (fun q => by cases q), (fun q => by cases q), (fun q => by cases q), (fun q => by cases q), (fun _ q => by omega), by decide⟩
def flX0 : List (Nat × Nat × Nat × Int) := [(9, 0, 0, 0), (15, 0, 1, 1), (19, 0, 2, 2), (22, 0, 3, 3), (26, 0, 4, 4), (30, 0, 5, 5), (33, 0, 6, 6), (36, 0, 7, 7), (39, 0, 8, 8), (42, 9, 2, 2), (53, 9, 6, 6), (75, 1, 0, 0), (78, 1, 1, 1), (81, 1, 3, 3), (84, 1, 2, 2), (87, 9, 3, 3), (90, 9, 7, 7), (97, 9, 4, 4), (100, 9, 8, 8)]
def plX0 : List (Nat × Nat × Nat × Int) := [(22, 0, 3, 3), (26, 0, 4, 4), (30, 0, 5, 5), (33, 0, 6, 6), (36, 0, 7, 7), (39, 0, 8, 8), (42, 9, 2, 2), (75, 1, 0, 0), (78, 1, 1, 1), (81, 1, 3, 3), (84, 1, 2, 2), (87, 9, 3, 3), (97, 9, 4, 4)]
set_option maxRecDepth 100000 in
theorem flX0_ok : FT_ RX0 flX0 := List.forall_mem_cons.mpr ⟨⟨_, _, _, rfl, by decide, rfl, wg_ 280 (by decide +kernel) rfl⟩, List.forall_mem_cons.mpr ⟨⟨_, _, _, rfl, by decide, rfl, wg_ 281 (by decide +kernel) rfl⟩, List.forall_mem_cons.mpr ⟨⟨_, _, _, rfl, by decide, rfl, wg_ 282 (by decide +kernel) rfl⟩, List.forall_mem_cons.mpr ⟨⟨_, _, _, rfl, by decide, rfl, wg_ 285 (by decide +kernel) rfl⟩, List.forall_mem_cons.mpr ⟨⟨_, _, _, rfl, by decide, rfl, wg_ 286 (by decide +kernel) rfl⟩, List.forall_mem_cons.mpr ⟨⟨_, _, _, rfl, by decide, rfl, wg_ 287 (by decide +kernel) rfl⟩, List.forall_mem_cons.mpr ⟨⟨_, _, _, rfl, by decide, rfl, wg_ 289 (by decide +kernel) rfl⟩, List.forall_mem_cons.mpr ⟨⟨_, _, _, rfl, by decide, rfl, wg_ 291 (by decide +kernel) rfl⟩, List.forall_mem_cons.mpr ⟨⟨_, _, _, rfl, by decide, rfl, wg_ 293 (by decide +kernel) rfl⟩, List.forall_mem_cons.mpr ⟨⟨_, _, _, rfl, by decide, rfl, wg_ 227 (by decide +kernel) rfl⟩, List.forall_mem_cons.mpr ⟨⟨_, _, _, rfl, by decide, rfl, wg_ 240 (by decide +kernel) rfl⟩, List.forall_mem_cons.mpr ⟨⟨_, _, _, rfl, by decide, rfl, wg_ 169 (by decide +kernel) rfl⟩, List.forall_mem_cons.mpr ⟨⟨_, _, _, rfl, by decide, rfl, wg_ 173 (by decide +kernel) rfl⟩, List.forall_mem_cons.mpr ⟨⟨_, _, _, rfl, by decide, rfl, wg_ 182 (by decide +kernel) rfl⟩, List.forall_mem_cons.mpr ⟨⟨_, _, _, rfl, by decide, rfl, wg_ 177 (by decide +kernel) rfl⟩, List.forall_mem_cons.mpr ⟨⟨_, _, _, rfl, by decide, rfl, wg_ 231 (by decide +kernel) rfl⟩, List.forall_mem_cons.mpr ⟨⟨_, _, _, rfl, by decide, rfl, wg_ 244 (by decide +kernel) rfl⟩, List.forall_mem_cons.mpr ⟨⟨_, _, _, rfl, by decide, rfl, wg_ 235 (by decide +kernel) rfl⟩, List.forall_mem_cons.mpr ⟨⟨_, _, _, rfl, by decide, rfl, wg_ 247 (by decide +kernel) rfl⟩, fun _ h => absurd h List.not_mem_nil⟩⟩⟩⟩⟩⟩⟩⟩⟩⟩⟩⟩⟩⟩⟩⟩⟩⟩⟩
set_option maxRecDepth 100000 in
theorem plX0_ok : PT_ RX0 plX0 := ⟨List.forall_mem_cons.mpr ⟨⟨_, _, _, rfl, by decide, rfl, wg_ 285 (by decide +kernel) rfl⟩, List.forall_mem_cons.mpr ⟨⟨_, _, _, rfl, by decide, rfl, wg_ 286 (by decide +kernel) rfl⟩, List.forall_mem_cons.mpr ⟨⟨_, _, _, rfl, by decide, rfl, wg_ 287 (by decide +kernel) rfl⟩, List.forall_mem_cons.mpr ⟨⟨_, _, _, rfl, by decide, rfl, wg_ 289 (by decide +kernel) rfl⟩, List.forall_mem_cons.mpr ⟨⟨_, _, _, rfl, by decide, rfl, wg_ 291 (by decide +kernel) rfl⟩, List.forall_mem_cons.mpr ⟨⟨_, _, _, rfl, by decide, rfl, wg_ 293 (by decide +kernel) rfl⟩, List.forall_mem_cons.mpr ⟨⟨_, _, _, rfl, by decide, rfl, wg_ 227 (by decide +kernel) rfl⟩, List.forall_mem_cons.mpr ⟨⟨_, _, _, rfl, by decide, rfl, wg_ 169 (by decide +kernel) rfl⟩, List.forall_mem_cons.mpr ⟨⟨_, _, _, rfl, by decide, rfl, wg_ 173 (by decide +kernel) rfl⟩, List.forall_mem_cons.mpr ⟨⟨_, _, _, rfl, by decide, rfl, wg_ 182 (by decide +kernel) rfl⟩, List.forall_mem_cons.mpr ⟨⟨_, _, _, rfl, by decide, rfl, wg_ 177 (by decide +kernel) rfl⟩, List.forall_mem_cons.mpr ⟨⟨_, _, _, rfl, by decide, rfl, wg_ 231 (by decide +kernel) rfl⟩, List.forall_mem_cons.mpr ⟨⟨_, _, _, rfl, by decide, rfl, wg_ 235 (by decide +kernel) rfl⟩, fun _ h => absurd h List.not_mem_nil⟩⟩⟩⟩⟩⟩⟩⟩⟩⟩⟩⟩⟩, List.forall_mem_cons.mpr ⟨fun C T N h => by cases h; rfl, List.forall_mem_cons.mpr ⟨fun C T N h => by cases h; rfl, List.forall_mem_cons.mpr ⟨fun C T N h => by cases h; rfl, List.forall_mem_cons.mpr ⟨fun C T N h => by cases h; rfl, List.forall_mem_cons.mpr ⟨fun C T N h => by cases h; rfl, List.forall_mem_cons.mpr ⟨fun C T N h => by cases h; rfl, List.forall_mem_cons.mpr ⟨fun C T N h => by cases h; rfl, List.forall_mem_cons.mpr ⟨fun C T N h => by cases h; rfl, List.forall_mem_cons.mpr ⟨fun C T N h => by cases h; rfl, List.forall_mem_cons.mpr ⟨fun C T N h => by cases h; rfl, List.forall_mem_cons.mpr ⟨fun C T N h => by cases h; rfl, List.forall_mem_cons.mpr ⟨fun C T N h => by cases h; rfl, List.forall_mem_cons.mpr ⟨fun C T N h => by cases h; rfl, fun _ h => absurd h List.not_mem_nil⟩⟩⟩⟩⟩⟩⟩⟩⟩⟩⟩⟩⟩⟩
def knX0 : List (Nat × Sv_t) := []
set_option maxRecDepth 100000 in
theorem knX0_ok : KN_ RX0 knX0 := fun _ h => absurd h List.not_mem_nil
def flX1 : List (Nat × Nat × Nat × Int) := [(9, 1, 0, 0), (15, 1, 1, 1), (18, 1, 2, 2), (21, 1, 3, 3), (24, 1, 4, 4), (27, 1, 5, 5), (30, 1, 6, 6), (33, 1, 7, 7), (36, 1, 8, 8)]
def plX1 : List (Nat × Nat × Nat × Int) := [(9, 1, 0, 0), (15, 1, 1, 1), (18, 1, 2, 2), (21, 1, 3, 3), (24, 1, 4, 4), (27, 1, 5, 5), (30, 1, 6, 6), (33, 1, 7, 7)]
set_option maxRecDepth 100000 in
theorem flX1_ok : FT_ RX1 flX1 := List.forall_mem_cons.mpr ⟨⟨_, _, _, rfl, by decide, rfl, wg_ 168 (by decide +kernel) rfl⟩, List.forall_mem_cons.mpr ⟨⟨_, _, _, rfl, by decide, rfl, wg_ 172 (by decide +kernel) rfl⟩, List.forall_mem_cons.mpr ⟨⟨_, _, _, rfl, by decide, rfl, wg_ 176 (by decide +kernel) rfl⟩, List.forall_mem_cons.mpr ⟨⟨_, _, _, rfl, by decide, rfl, wg_ 180 (by decide +kernel) rfl⟩, List.forall_mem_cons.mpr ⟨⟨_, _, _, rfl, by decide, rfl, wg_ 185 (by decide +kernel) rfl⟩, List.forall_mem_cons.mpr ⟨⟨_, _, _, rfl, by decide, rfl, wg_ 188 (by decide +kernel) rfl⟩, List.forall_mem_cons.mpr ⟨⟨_, _, _, rfl, by decide, rfl, wg_ 191 (by decide +kernel) rfl⟩, List.forall_mem_cons.mpr ⟨⟨_, _, _, rfl, by decide, rfl, wg_ 194 (by decide +kernel) rfl⟩, List.forall_mem_cons.mpr ⟨⟨_, _, _, rfl, by decide, rfl, wg_ 195 (by decide +kernel) rfl⟩, fun _ h => absurd h List.not_mem_nil⟩⟩⟩⟩⟩⟩⟩⟩⟩
set_option maxRecDepth 100000 in
theorem plX1_ok : PT_ RX1 plX1 := ⟨List.forall_mem_cons.mpr ⟨⟨_, _, _, rfl, by decide, rfl, wg_ 168 (by decide +kernel) rfl⟩, List.forall_mem_cons.mpr ⟨⟨_, _, _, rfl, by decide, rfl, wg_ 172 (by decide +kernel) rfl⟩, List.forall_mem_cons.mpr ⟨⟨_, _, _, rfl, by decide, rfl, wg_ 176 (by decide +kernel) rfl⟩, List.forall_mem_cons.mpr ⟨⟨_, _, _, rfl, by decide, rfl, wg_ 180 (by decide +kernel) rfl⟩, List.forall_mem_cons.mpr ⟨⟨_, _, _, rfl, by decide, rfl, wg_ 185 (by decide +kernel) rfl⟩, List.forall_mem_cons.mpr ⟨⟨_, _, _, rfl, by decide, rfl, wg_ 188 (by decide +kernel) rfl⟩, List.forall_mem_cons.mpr ⟨⟨_, _, _, rfl, by decide, rfl, wg_ 191 (by decide +kernel) rfl⟩, List.forall_mem_cons.mpr ⟨⟨_, _, _, rfl, by decide, rfl, wg_ 194 (by decide +kernel) rfl⟩, fun _ h => absurd h List.not_mem_nil⟩⟩⟩⟩⟩⟩⟩⟩, List.forall_mem_cons.mpr ⟨fun C T N h => by cases h; rfl, List.forall_mem_cons.mpr ⟨fun C T N h => by cases h; rfl, List.forall_mem_cons.mpr ⟨fun C T N h => by cases h; rfl, List.forall_mem_cons.mpr ⟨fun C T N h => by cases h; rfl, List.forall_mem_cons.mpr ⟨fun C T N h => by cases h; rfl, List.forall_mem_cons.mpr ⟨fun C T N h => by cases h; rfl, List.forall_mem_cons.mpr ⟨fun C T N h => by cases h; rfl, List.forall_mem_cons.mpr ⟨fun C T N h => by cases h; rfl, fun _ h => absurd h List.not_mem_nil⟩⟩⟩⟩⟩⟩⟩⟩⟩
def knX1 : List (Nat × Sv_t) := []
set_option maxRecDepth 100000 in
theorem knX1_ok : KN_ RX1 knX1 := fun _ h => absurd h List.not_mem_nil
def flX2 : List (Nat × Nat × Nat × Int) := [(11, 2, 0, 0), (15, 2, 1, 1), (18, 2, 2, 2), (22, 4, 3, 3), (29, 4, 0, 0)]
def plX2 : List (Nat × Nat × Nat × Int) := [(18, 2, 2, 2), (22, 4, 3, 3)]
set_option maxRecDepth 100000 in
theorem flX2_ok : FT_ RX2 flX2 := List.forall_mem_cons.mpr ⟨⟨_, _, _, rfl, by decide, rfl, wg_ 339 (by decide +kernel) rfl⟩, List.forall_mem_cons.mpr ⟨⟨_, _, _, rfl, by decide, rfl, wg_ 340 (by decide +kernel) rfl⟩, List.forall_mem_cons.mpr ⟨⟨_, _, _, rfl, by decide, rfl, wg_ 341 (by decide +kernel) rfl⟩, List.forall_mem_cons.mpr ⟨⟨_, _, _, rfl, by decide, rfl, wg_ 414 (by decide +kernel) rfl⟩, List.forall_mem_cons.mpr ⟨⟨_, _, _, rfl, by decide, rfl, wg_ 407 (by decide +kernel) rfl⟩, fun _ h => absurd h List.not_mem_nil⟩⟩⟩⟩⟩
set_option maxRecDepth 100000 in
theorem plX2_ok : PT_ RX2 plX2 := ⟨List.forall_mem_cons.mpr ⟨⟨_, _, _, rfl, by decide, rfl, wg_ 341 (by decide +kernel) rfl⟩, List.forall_mem_cons.mpr ⟨⟨_, _, _, rfl, by decide, rfl, wg_ 414 (by decide +kernel) rfl⟩, fun _ h => absurd h List.not_mem_nil⟩⟩, List.forall_mem_cons.mpr ⟨fun C T N h => by cases h; rfl, List.forall_mem_cons.mpr ⟨fun C T N h => by cases h; rfl, fun _ h => absurd h List.not_mem_nil⟩⟩⟩
def knX2 : List (Nat × Sv_t) := []
set_option maxRecDepth 100000 in
theorem knX2_ok : KN_ RX2 knX2 := fun _ h => absurd h List.not_mem_nil
def flX3 : List (Nat × Nat × Nat × Int) := [(9, 3, 0, 0), (15, 3, 1, 1), (19, 3, 2, 2), (22, 3, 3, 3), (25, 3, 4, 4), (28, 3, 5, 5), (31, 3, 6, 6), (34, 3, 7, 7), (37, 8, 0, 0), (40, 8, 1, 1), (53, 9, 0, 0), (67, 9, 2, 2), (79, 9, 3, 3), (87, 9, 4, 4), (107, 9, 1, 1), (109, 9, 6, 6), (118, 1, 0, 0), (122, 1, 1, 1), (126, 1, 2, 2), (136, 1, 4, 4), (140, 1, 3, 3), (143, 1, 5, 5), (148, 1, 6, 6), (153, 1, 8, 8)]
def plX3 : List (Nat × Nat × Nat × Int) := [(9, 3, 0, 0), (15, 3, 1, 1), (19, 3, 2, 2), (22, 3, 3, 3), (25, 3, 4, 4), (28, 3, 5, 5), (31, 3, 6, 6), (34, 3, 7, 7), (40, 8, 1, 1), (53, 9, 0, 0), (67, 9, 2, 2), (79, 9, 3, 3), (87, 9, 4, 4), (107, 9, 1, 1), (118, 1, 0, 0), (122, 1, 1, 1), (126, 1, 2, 2), (136, 1, 4, 4), (140, 1, 3, 3), (143, 1, 5, 5), (148, 1, 6, 6)]
set_option maxRecDepth 100000 in
theorem flX3_ok : FT_ RX3 flX3 := List.forall_mem_cons.mpr ⟨⟨_, _, _, rfl, by decide, rfl, wg_ 128 (by decide +kernel) rfl⟩, List.forall_mem_cons.mpr ⟨⟨_, _, _, rfl, by decide, rfl, wg_ 129 (by decide +kernel) rfl⟩, List.forall_mem_cons.mpr ⟨⟨_, _, _, rfl, by decide, rfl, wg_ 130 (by decide +kernel) rfl⟩, List.forall_mem_cons.mpr ⟨⟨_, _, _, rfl, by decide, rfl, wg_ 131 (by decide +kernel) rfl⟩, List.forall_mem_cons.mpr ⟨⟨_, _, _, rfl, by decide, rfl, wg_ 132 (by decide +kernel) rfl⟩, List.forall_mem_cons.mpr ⟨⟨_, _, _, rfl, by decide, rfl, wg_ 133 (by decide +kernel) rfl⟩, List.forall_mem_cons.mpr ⟨⟨_, _, _, rfl, by decide, rfl, wg_ 134 (by decide +kernel) rfl⟩, List.forall_mem_cons.mpr ⟨⟨_, _, _, rfl, by decide, rfl, wg_ 136 (by decide +kernel) rfl⟩, List.forall_mem_cons.mpr ⟨⟨_, _, _, rfl, by decide, rfl, wg_ 112 (by decide +kernel) rfl⟩, List.forall_mem_cons.mpr ⟨⟨_, _, _, rfl, by decide, rfl, wg_ 115 (by decide +kernel) rfl⟩, List.forall_mem_cons.mpr ⟨⟨_, _, _, rfl, by decide, rfl, wg_ 220 (by decide +kernel) rfl⟩, List.forall_mem_cons.mpr ⟨⟨_, _, _, rfl, by decide, rfl, wg_ 226 (by decide +kernel) rfl⟩, List.forall_mem_cons.mpr ⟨⟨_, _, _, rfl, by decide, rfl, wg_ 230 (by decide +kernel) rfl⟩, List.forall_mem_cons.mpr ⟨⟨_, _, _, rfl, by decide, rfl, wg_ 234 (by decide +kernel) rfl⟩, List.forall_mem_cons.mpr ⟨⟨_, _, _, rfl, by decide, rfl, wg_ 223 (by decide +kernel) rfl⟩, List.forall_mem_cons.mpr ⟨⟨_, _, _, rfl, by decide, rfl, wg_ 241 (by decide +kernel) rfl⟩, List.forall_mem_cons.mpr ⟨⟨_, _, _, rfl, by decide, rfl, wg_ 170 (by decide +kernel) rfl⟩, List.forall_mem_cons.mpr ⟨⟨_, _, _, rfl, by decide, rfl, wg_ 174 (by decide +kernel) rfl⟩, List.forall_mem_cons.mpr ⟨⟨_, _, _, rfl, by decide, rfl, wg_ 179 (by decide +kernel) rfl⟩, List.forall_mem_cons.mpr ⟨⟨_, _, _, rfl, by decide, rfl, wg_ 187 (by decide +kernel) rfl⟩, List.forall_mem_cons.mpr ⟨⟨_, _, _, rfl, by decide, rfl, wg_ 184 (by decide +kernel) rfl⟩, List.forall_mem_cons.mpr ⟨⟨_, _, _, rfl, by decide, rfl, wg_ 190 (by decide +kernel) rfl⟩, List.forall_mem_cons.mpr ⟨⟨_, _, _, rfl, by decide, rfl, wg_ 193 (by decide +kernel) rfl⟩, List.forall_mem_cons.mpr ⟨⟨_, _, _, rfl, by decide, rfl, wg_ 198 (by decide +kernel) rfl⟩, fun _ h => absurd h List.not_mem_nil⟩⟩⟩⟩⟩⟩⟩⟩⟩⟩⟩⟩⟩⟩⟩⟩⟩⟩⟩⟩⟩⟩⟩⟩
set_option maxRecDepth 100000 in
theorem plX3_ok : PT_ RX3 plX3 := ⟨List.forall_mem_cons.mpr ⟨⟨_, _, _, rfl, by decide, rfl, wg_ 128 (by decide +kernel) rfl⟩, List.forall_mem_cons.mpr ⟨⟨_, _, _, rfl, by decide, rfl, wg_ 129 (by decide +kernel) rfl⟩, List.forall_mem_cons.mpr ⟨⟨_, _, _, rfl, by decide, rfl, wg_ 130 (by decide +kernel) rfl⟩, List.forall_mem_cons.mpr ⟨⟨_, _, _, rfl, by decide, rfl, wg_ 131 (by decide +kernel) rfl⟩, List.forall_mem_cons.mpr ⟨⟨_, _, _, rfl, by decide, rfl, wg_ 132 (by decide +kernel) rfl⟩, List.forall_mem_cons.mpr ⟨⟨_, _, _, rfl, by decide, rfl, wg_ 133 (by decide +kernel) rfl⟩, List.forall_mem_cons.mpr ⟨⟨_, _, _, rfl, by decide, rfl, wg_ 134 (by decide +kernel) rfl⟩, List.forall_mem_cons.mpr ⟨⟨_, _, _, rfl, by decide, rfl, wg_ 136 (by decide +kernel) rfl⟩, List.forall_mem_cons.mpr ⟨⟨_, _, _, rfl, by decide, rfl, wg_ 115 (by decide +kernel) rfl⟩, List.forall_mem_cons.mpr ⟨⟨_, _, _, rfl, by decide, rfl, wg_ 220 (by decide +kernel) rfl⟩, List.forall_mem_cons.mpr ⟨⟨_, _, _, rfl, by decide, rfl, wg_ 226 (by decide +kernel) rfl⟩, List.forall_mem_cons.mpr ⟨⟨_, _, _, rfl, by decide, rfl, wg_ 230 (by decide +kernel) rfl⟩, List.forall_mem_cons.mpr ⟨⟨_, _, _, rfl, by decide, rfl, wg_ 234 (by decide +kernel) rfl⟩, List.forall_mem_cons.mpr ⟨⟨_, _, _, rfl, by decide, rfl, wg_ 223 (by decide +kernel) rfl⟩, List.forall_mem_cons.mpr ⟨⟨_, _, _, rfl, by decide, rfl, wg_ 170 (by decide +kernel) rfl⟩, List.forall_mem_cons.mpr ⟨⟨_, _, _, rfl, by decide, rfl, wg_ 174 (by decide +kernel) rfl⟩, List.forall_mem_cons.mpr ⟨⟨_, _, _, rfl, by decide, rfl, wg_ 179 (by decide +kernel) rfl⟩, List.forall_mem_cons.mpr ⟨⟨_, _, _, rfl, by decide, rfl, wg_ 187 (by decide +kernel) rfl⟩, List.forall_mem_cons.mpr ⟨⟨_, _, _, rfl, by decide, rfl, wg_ 184 (by decide +kernel) rfl⟩, List.forall_mem_cons.mpr ⟨⟨_, _, _, rfl, by decide, rfl, wg_ 190 (by decide +kernel) rfl⟩, List.forall_mem_cons.mpr ⟨⟨_, _, _, rfl, by decide, rfl, wg_ 193 (by decide +kernel) rfl⟩, fun _ h => absurd h List.not_mem_nil⟩⟩⟩⟩⟩⟩⟩⟩⟩⟩⟩⟩⟩⟩⟩⟩⟩⟩⟩⟩⟩, List.forall_mem_cons.mpr ⟨fun C T N h => by cases h; rfl, List.forall_mem_cons.mpr ⟨fun C T N h => by cases h; rfl, List.forall_mem_cons.mpr ⟨fun C T N h => by cases h; rfl, List.forall_mem_cons.mpr ⟨fun C T N h => by cases h; rfl, List.forall_mem_cons.mpr ⟨fun C T N h => by cases h; rfl, List.forall_mem_cons.mpr ⟨fun C T N h => by cases h; rfl, List.forall_mem_cons.mpr ⟨fun C T N h => by cases h; rfl, List.forall_mem_cons.mpr ⟨fun C T N h => by cases h; rfl, List.forall_mem_cons.mpr ⟨fun C T N h => by cases h; rfl, List.forall_mem_cons.mpr ⟨fun C T N h => by cases h; rfl, List.forall_mem_cons.mpr ⟨fun C T N h => by cases h; rfl, List.forall_mem_cons.mpr ⟨fun C T N h => by cases h; rfl, List.forall_mem_cons.mpr ⟨fun C T N h => by cases h; rfl, List.forall_mem_cons.mpr ⟨fun C T N h => by cases h; rfl, List.forall_mem_cons.mpr ⟨fun C T N h => by cases h; rfl, List.forall_mem_cons.mpr ⟨fun C T N h => by cases h; rfl, List.forall_mem_cons.mpr ⟨fun C T N h => by cases h; rfl, List.forall_mem_cons.mpr ⟨fun C T N h => by cases h; rfl, List.forall_mem_cons.mpr ⟨fun C T N h => by cases h; rfl, List.forall_mem_cons.mpr ⟨fun C T N h => by cases h; rfl, List.forall_mem_cons.mpr ⟨fun C T N h => by cases h; rfl, fun _ h => absurd h List.not_mem_nil⟩⟩⟩⟩⟩⟩⟩⟩⟩⟩⟩⟩⟩⟩⟩⟩⟩⟩⟩⟩⟩⟩
def knX3 : List (Nat × Sv_t) := [(179, (0, 100000))]
set_option maxRecDepth 100000 in
theorem knX3_ok : KN_ RX3 knX3 := List.forall_mem_cons.mpr ⟨Or.inl ⟨rfl, ⟨by decide, by decide⟩, wg_ 498 (by decide +kernel) rfl⟩, fun _ h => absurd h List.not_mem_nil⟩
def flX4 : List (Nat × Nat × Nat × Int) := [(9, 4, 0, 0), (15, 4, 1, 1), (19, 4, 2, 2), (23, 4, 3, 3)]
def plX4 : List (Nat × Nat × Nat × Int) := [(15, 4, 1, 1), (19, 4, 2, 2), (23, 4, 3, 3)]
set_option maxRecDepth 100000 in
theorem flX4_ok : FT_ RX4 flX4 := List.forall_mem_cons.mpr ⟨⟨_, _, _, rfl, by decide, rfl, wg_ 405 (by decide +kernel) rfl⟩, List.forall_mem_cons.mpr ⟨⟨_, _, _, rfl, by decide, rfl, wg_ 409 (by decide +kernel) rfl⟩, List.forall_mem_cons.mpr ⟨⟨_, _, _, rfl, by decide, rfl, wg_ 411 (by decide +kernel) rfl⟩, List.forall_mem_cons.mpr ⟨⟨_, _, _, rfl, by decide, rfl, wg_ 413 (by decide +kernel) rfl⟩, fun _ h => absurd h List.not_mem_nil⟩⟩⟩⟩
set_option maxRecDepth 100000 in
theorem plX4_ok : PT_ RX4 plX4 := ⟨List.forall_mem_cons.mpr ⟨⟨_, _, _, rfl, by decide, rfl, wg_ 409 (by decide +kernel) rfl⟩, List.forall_mem_cons.mpr ⟨⟨_, _, _, rfl, by decide, rfl, wg_ 411 (by decide +kernel) rfl⟩, List.forall_mem_cons.mpr ⟨⟨_, _, _, rfl, by decide, rfl, wg_ 413 (by decide +kernel) rfl⟩, fun _ h => absurd h List.not_mem_nil⟩⟩⟩, List.forall_mem_cons.mpr ⟨fun C T N h => by cases h; rfl, List.forall_mem_cons.mpr ⟨fun C T N h => by cases h; rfl, List.forall_mem_cons.mpr ⟨fun C T N h => by cases h; rfl, fun _ h => absurd h List.not_mem_nil⟩⟩⟩⟩
def knX4 : List (Nat × Sv_t) := [(32, (1, 2000))]
set_option maxRecDepth 100000 in
theorem knX4_ok : KN_ RX4 knX4 := List.forall_mem_cons.mpr ⟨Or.inr ⟨rfl, ⟨by decide, by decide⟩, wg_ 894 (by decide +kernel) rfl⟩, fun _ h => absurd h List.not_mem_nil⟩
def flX5 : List (Nat × Nat × Nat × Int) := [(9, 5, 0, 0), (15, 5, 1, 1), (19, 5, 2, 2), (37, 1, 8, 8)]
def plX5 : List (Nat × Nat × Nat × Int) := [(15, 5, 1, 1), (19, 5, 2, 2)]
set_option maxRecDepth 100000 in
theorem flX5_ok : FT_ RX5 flX5 := List.forall_mem_cons.mpr ⟨⟨_, _, _, rfl, by decide, rfl, wg_ 321 (by decide +kernel) rfl⟩, List.forall_mem_cons.mpr ⟨⟨_, _, _, rfl, by decide, rfl, wg_ 322 (by decide +kernel) rfl⟩, List.forall_mem_cons.mpr ⟨⟨_, _, _, rfl, by decide, rfl, wg_ 324 (by decide +kernel) rfl⟩, List.forall_mem_cons.mpr ⟨⟨_, _, _, rfl, by decide, rfl, wg_ 196 (by decide +kernel) rfl⟩, fun _ h => absurd h List.not_mem_nil⟩⟩⟩⟩
set_option maxRecDepth 100000 in
theorem plX5_ok : PT_ RX5 plX5 := ⟨List.forall_mem_cons.mpr ⟨⟨_, _, _, rfl, by decide, rfl, wg_ 322 (by decide +kernel) rfl⟩, List.forall_mem_cons.mpr ⟨⟨_, _, _, rfl, by decide, rfl, wg_ 324 (by decide +kernel) rfl⟩, fun _ h => absurd h List.not_mem_nil⟩⟩, List.forall_mem_cons.mpr ⟨fun C T N h => by cases h; rfl, List.forall_mem_cons.mpr ⟨fun C T N h => by cases h; rfl, fun _ h => absurd h List.not_mem_nil⟩⟩⟩
def knX5 : List (Nat × Sv_t) := [(55, (1, (-1)))]
set_option maxRecDepth 100000 in
theorem knX5_ok : KN_ RX5 knX5 := List.forall_mem_cons.mpr ⟨Or.inr ⟨rfl, ⟨by decide, by decide⟩, wg_ 861 (by decide +kernel) rfl⟩, fun _ h => absurd h List.not_mem_nil⟩
def flX6 : List (Nat × Nat × Nat × Int) := [(9, 6, 0, 0), (15, 6, 1, 1), (19, 6, 2, 2), (22, 6, 3, 3), (25, 6, 4, 4), (28, 4, 3, 3), (31, 4, 0, 0), (47, 0, 2, 2)]
def plX6 : List (Nat × Nat × Nat × Int) := [(15, 6, 1, 1), (22, 6, 3, 3), (25, 6, 4, 4), (28, 4, 3, 3)]
set_option maxRecDepth 100000 in
theorem flX6_ok : FT_ RX6 flX6 := List.forall_mem_cons.mpr ⟨⟨_, _, _, rfl, by decide, rfl, wg_ 356 (by decide +kernel) rfl⟩, List.forall_mem_cons.mpr ⟨⟨_, _, _, rfl, by decide, rfl, wg_ 358 (by decide +kernel) rfl⟩, List.forall_mem_cons.mpr ⟨⟨_, _, _, rfl, by decide, rfl, wg_ 360 (by decide +kernel) rfl⟩, List.forall_mem_cons.mpr ⟨⟨_, _, _, rfl, by decide, rfl, wg_ 361 (by decide +kernel) rfl⟩, List.forall_mem_cons.mpr ⟨⟨_, _, _, rfl, by decide, rfl, wg_ 363 (by decide +kernel) rfl⟩, List.forall_mem_cons.mpr ⟨⟨_, _, _, rfl, by decide, rfl, wg_ 415 (by decide +kernel) rfl⟩, List.forall_mem_cons.mpr ⟨⟨_, _, _, rfl, by decide, rfl, wg_ 406 (by decide +kernel) rfl⟩, List.forall_mem_cons.mpr ⟨⟨_, _, _, rfl, by decide, rfl, wg_ 283 (by decide +kernel) rfl⟩, fun _ h => absurd h List.not_mem_nil⟩⟩⟩⟩⟩⟩⟩⟩
set_option maxRecDepth 100000 in
theorem plX6_ok : PT_ RX6 plX6 := ⟨List.forall_mem_cons.mpr ⟨⟨_, _, _, rfl, by decide, rfl, wg_ 358 (by decide +kernel) rfl⟩, List.forall_mem_cons.mpr ⟨⟨_, _, _, rfl, by decide, rfl, wg_ 361 (by decide +kernel) rfl⟩, List.forall_mem_cons.mpr ⟨⟨_, _, _, rfl, by decide, rfl, wg_ 363 (by decide +kernel) rfl⟩, List.forall_mem_cons.mpr ⟨⟨_, _, _, rfl, by decide, rfl, wg_ 415 (by decide +kernel) rfl⟩, fun _ h => absurd h List.not_mem_nil⟩⟩⟩⟩, List.forall_mem_cons.mpr ⟨fun C T N h => by cases h; rfl, List.forall_mem_cons.mpr ⟨fun C T N h => by cases h; rfl, List.forall_mem_cons.mpr ⟨fun C T N h => by cases h; rfl, List.forall_mem_cons.mpr ⟨fun C T N h => by cases h; rfl, fun _ h => absurd h List.not_mem_nil⟩⟩⟩⟩⟩
def knX6 : List (Nat × Sv_t) := [(35, (1, 4))]
set_option maxRecDepth 100000 in
theorem knX6_ok : KN_ RX6 knX6 := List.forall_mem_cons.mpr ⟨Or.inr ⟨rfl, ⟨by decide, by decide⟩, wg_ 941 (by decide +kernel) rfl⟩, fun _ h => absurd h List.not_mem_nil⟩
def flX7 : List (Nat × Nat × Nat × Int) := [(9, 7, 0, 0), (15, 7, 1, 1), (19, 7, 2, 2), (22, 7, 3, 3), (25, 7, 4, 4)]
def plX7 : List (Nat × Nat × Nat × Int) := [(15, 7, 1, 1), (22, 7, 3, 3), (25, 7, 4, 4)]
set_option maxRecDepth 100000 in
theorem flX7_ok : FT_ RX7 flX7 := List.forall_mem_cons.mpr ⟨⟨_, _, _, rfl, by decide, rfl, wg_ 382 (by decide +kernel) rfl⟩, List.forall_mem_cons.mpr ⟨⟨_, _, _, rfl, by decide, rfl, wg_ 383 (by decide +kernel) rfl⟩, List.forall_mem_cons.mpr ⟨⟨_, _, _, rfl, by decide, rfl, wg_ 384 (by decide +kernel) rfl⟩, List.forall_mem_cons.mpr ⟨⟨_, _, _, rfl, by decide, rfl, wg_ 385 (by decide +kernel) rfl⟩, List.forall_mem_cons.mpr ⟨⟨_, _, _, rfl, by decide, rfl, wg_ 387 (by decide +kernel) rfl⟩, fun _ h => absurd h List.not_mem_nil⟩⟩⟩⟩⟩
set_option maxRecDepth 100000 in
theorem plX7_ok : PT_ RX7 plX7 := ⟨List.forall_mem_cons.mpr ⟨⟨_, _, _, rfl, by decide, rfl, wg_ 383 (by decide +kernel) rfl⟩, List.forall_mem_cons.mpr ⟨⟨_, _, _, rfl, by decide, rfl, wg_ 385 (by decide +kernel) rfl⟩, List.forall_mem_cons.mpr ⟨⟨_, _, _, rfl, by decide, rfl, wg_ 387 (by decide +kernel) rfl⟩, fun _ h => absurd h List.not_mem_nil⟩⟩⟩, List.forall_mem_cons.mpr ⟨fun C T N h => by cases h; rfl, List.forall_mem_cons.mpr ⟨fun C T N h => by cases h; rfl, List.forall_mem_cons.mpr ⟨fun C T N h => by cases h; rfl, fun _ h => absurd h List.not_mem_nil⟩⟩⟩⟩
def knX7 : List (Nat × Sv_t) := []
set_option maxRecDepth 100000 in
theorem knX7_ok : KN_ RX7 knX7 := fun _ h => absurd h List.not_mem_nil
def flX8 : List (Nat × Nat × Nat × Int) := [(9, 8, 0, 0), (15, 8, 1, 1)]
def plX8 : List (Nat × Nat × Nat × Int) := [(15, 8, 1, 1)]
set_option maxRecDepth 100000 in
theorem flX8_ok : FT_ RX8 flX8 := List.forall_mem_cons.mpr ⟨⟨_, _, _, rfl, by decide, rfl, wg_ 111 (by decide +kernel) rfl⟩, List.forall_mem_cons.mpr ⟨⟨_, _, _, rfl, by decide, rfl, wg_ 113 (by decide +kernel) rfl⟩, fun _ h => absurd h List.not_mem_nil⟩⟩
set_option maxRecDepth 100000 in
theorem plX8_ok : PT_ RX8 plX8 := ⟨List.forall_mem_cons.mpr ⟨⟨_, _, _, rfl, by decide, rfl, wg_ 113 (by decide +kernel) rfl⟩, fun _ h => absurd h List.not_mem_nil⟩, List.forall_mem_cons.mpr ⟨fun C T N h => by cases h; rfl, fun _ h => absurd h List.not_mem_nil⟩⟩
def knX8 : List (Nat × Sv_t) := []
set_option maxRecDepth 100000 in
theorem knX8_ok : KN_ RX8 knX8 := fun _ h => absurd h List.not_mem_nil
def flX9 : List (Nat × Nat × Nat × Int) := [(9, 9, 0, 0), (15, 9, 1, 1), (18, 9, 2, 2), (21, 9, 3, 3), (24, 9, 4, 4), (27, 9, 5, 5), (32, 9, 6, 6), (36, 9, 7, 7), (40, 9, 8, 8), (43, 9, 9, 9), (61, 1, 3, 3), (68, 1, 8, 8)]
def plX9 : List (Nat × Nat × Nat × Int) := [(9, 9, 0, 0), (15, 9, 1, 1), (18, 9, 2, 2), (21, 9, 3, 3), (24, 9, 4, 4), (27, 9, 5, 5), (61, 1, 3, 3)]
set_option maxRecDepth 100000 in
theorem flX9_ok : FT_ RX9 flX9 := List.forall_mem_cons.mpr ⟨⟨_, _, _, rfl, by decide, rfl, wg_ 219 (by decide +kernel) rfl⟩, List.forall_mem_cons.mpr ⟨⟨_, _, _, rfl, by decide, rfl, wg_ 222 (by decide +kernel) rfl⟩, List.forall_mem_cons.mpr ⟨⟨_, _, _, rfl, by decide, rfl, wg_ 225 (by decide +kernel) rfl⟩, List.forall_mem_cons.mpr ⟨⟨_, _, _, rfl, by decide, rfl, wg_ 229 (by decide +kernel) rfl⟩, List.forall_mem_cons.mpr ⟨⟨_, _, _, rfl, by decide, rfl, wg_ 233 (by decide +kernel) rfl⟩, List.forall_mem_cons.mpr ⟨⟨_, _, _, rfl, by decide, rfl, wg_ 237 (by decide +kernel) rfl⟩, List.forall_mem_cons.mpr ⟨⟨_, _, _, rfl, by decide, rfl, wg_ 239 (by decide +kernel) rfl⟩, List.forall_mem_cons.mpr ⟨⟨_, _, _, rfl, by decide, rfl, wg_ 243 (by decide +kernel) rfl⟩, List.forall_mem_cons.mpr ⟨⟨_, _, _, rfl, by decide, rfl, wg_ 246 (by decide +kernel) rfl⟩, List.forall_mem_cons.mpr ⟨⟨_, _, _, rfl, by decide, rfl, wg_ 249 (by decide +kernel) rfl⟩, List.forall_mem_cons.mpr ⟨⟨_, _, _, rfl, by decide, rfl, wg_ 181 (by decide +kernel) rfl⟩, List.forall_mem_cons.mpr ⟨⟨_, _, _, rfl, by decide, rfl, wg_ 197 (by decide +kernel) rfl⟩, fun _ h => absurd h List.not_mem_nil⟩⟩⟩⟩⟩⟩⟩⟩⟩⟩⟩⟩
set_option maxRecDepth 100000 in
theorem plX9_ok : PT_ RX9 plX9 := ⟨List.forall_mem_cons.mpr ⟨⟨_, _, _, rfl, by decide, rfl, wg_ 219 (by decide +kernel) rfl⟩, List.forall_mem_cons.mpr ⟨⟨_, _, _, rfl, by decide, rfl, wg_ 222 (by decide +kernel) rfl⟩, List.forall_mem_cons.mpr ⟨⟨_, _, _, rfl, by decide, rfl, wg_ 225 (by decide +kernel) rfl⟩, List.forall_mem_cons.mpr ⟨⟨_, _, _, rfl, by decide, rfl, wg_ 229 (by decide +kernel) rfl⟩, List.forall_mem_cons.mpr ⟨⟨_, _, _, rfl, by decide, rfl, wg_ 233 (by decide +kernel) rfl⟩, List.forall_mem_cons.mpr ⟨⟨_, _, _, rfl, by decide, rfl, wg_ 237 (by decide +kernel) rfl⟩, List.forall_mem_cons.mpr ⟨⟨_, _, _, rfl, by decide, rfl, wg_ 181 (by decide +kernel) rfl⟩, fun _ h => absurd h List.not_mem_nil⟩⟩⟩⟩⟩⟩⟩, List.forall_mem_cons.mpr ⟨fun C T N h => by cases h; rfl, List.forall_mem_cons.mpr ⟨fun C T N h => by cases h; rfl, List.forall_mem_cons.mpr ⟨fun C T N h => by cases h; rfl, List.forall_mem_cons.mpr ⟨fun C T N h => by cases h; rfl, List.forall_mem_cons.mpr ⟨fun C T N h => by cases h; rfl, List.forall_mem_cons.mpr ⟨fun C T N h => by cases h; rfl, List.forall_mem_cons.mpr ⟨fun C T N h => by cases h; rfl, fun _ h => absurd h List.not_mem_nil⟩⟩⟩⟩⟩⟩⟩⟩
def knX9 : List (Nat × Sv_t) := []
set_option maxRecDepth 100000 in
theorem knX9_ok : KN_ RX9 knX9 := fun _ h => absurd h List.not_mem_nil
def flX10 : List (Nat × Nat × Nat × Int) := [(10, 10, 0, 0), (19, 10, 1, 1), (26, 10, 2, 2), (30, 10, 3, 3), (33, 10, 4, 4), (37, 10, 5, 5), (43, 10, 6, 6), (50, 10, 7, 7), (57, 10, 8, 8), (64, 10, 9, 9), (71, 10, 10, 10), (78, 10, 11, 11), (82, 10, 12, 12), (86, 10, 13, 13), (90, 8, 1, 1), (101, 3, 6, 6), (104, 3, 7, 7), (110, 9, 0, 0), (117, 9, 6, 6), (121, 1, 0, 0), (126, 1, 1, 1), (129, 1, 2, 2), (132, 1, 3, 3), (135, 1, 4, 4), (138, 1, 5, 5), (141, 1, 6, 6), (155, 9, 3, 3), (158, 9, 7, 7), (162, 9, 4, 4), (165, 9, 8, 8), (189, 0, 2, 2), (207, 0, 5, 5), (210, 0, 6, 6), (229, 9, 2, 2), (240, 5, 1, 1), (245, 5, 2, 2), (259, 2, 2, 2), (273, 6, 1, 1), (274, 6, 0, 0), (287, 6, 3, 3), (290, 6, 4, 4), (320, 0, 7, 7), (323, 0, 8, 8), (333, 7, 3, 3), (336, 7, 4, 4), (342, 9, 5, 5), (380, 9, 1, 1), (405, 4, 1, 1), (409, 4, 3, 3), (410, 4, 0, 0), (417, 4, 2, 2)]
def plX10 : List (Nat × Nat × Nat × Int) := [(26, 10, 2, 2), (30, 10, 3, 3), (82, 10, 12, 12), (86, 10, 13, 13), (90, 8, 1, 1), (101, 3, 6, 6), (104, 3, 7, 7), (110, 9, 0, 0), (121, 1, 0, 0), (126, 1, 1, 1), (129, 1, 2, 2), (132, 1, 3, 3), (135, 1, 4, 4), (138, 1, 5, 5), (141, 1, 6, 6), (155, 9, 3, 3), (162, 9, 4, 4), (207, 0, 5, 5), (210, 0, 6, 6), (229, 9, 2, 2), (240, 5, 1, 1), (245, 5, 2, 2), (259, 2, 2, 2), (273, 6, 1, 1), (287, 6, 3, 3), (290, 6, 4, 4), (320, 0, 7, 7), (323, 0, 8, 8), (333, 7, 3, 3), (336, 7, 4, 4), (342, 9, 5, 5), (380, 9, 1, 1), (405, 4, 1, 1), (409, 4, 3, 3), (417, 4, 2, 2)]
set_option maxRecDepth 100000 in
theorem flX10_ok : FT_ RX10 flX10 := List.forall_mem_cons.mpr ⟨⟨_, _, _, rfl, by decide, rfl, wg_ 427 (by decide +kernel) rfl⟩, List.forall_mem_cons.mpr ⟨⟨_, _, _, rfl, by decide, rfl, wg_ 428 (by decide +kernel) rfl⟩, List.forall_mem_cons.mpr ⟨⟨_, _, _, rfl, by decide, rfl, wg_ 429 (by decide +kernel) rfl⟩, List.forall_mem_cons.mpr ⟨⟨_, _, _, rfl, by decide, rfl, wg_ 430 (by decide +kernel) rfl⟩, List.forall_mem_cons.mpr ⟨⟨_, _, _, rfl, by decide, rfl, wg_ 431 (by decide +kernel) rfl⟩, List.forall_mem_cons.mpr ⟨⟨_, _, _, rfl, by decide, rfl, wg_ 432 (by decide +kernel) rfl⟩, List.forall_mem_cons.mpr ⟨⟨_, _, _, rfl, by decide, rfl, wg_ 433 (by decide +kernel) rfl⟩, List.forall_mem_cons.mpr ⟨⟨_, _, _, rfl, by decide, rfl, wg_ 434 (by decide +kernel) rfl⟩, List.forall_mem_cons.mpr ⟨⟨_, _, _, rfl, by decide, rfl, wg_ 435 (by decide +kernel) rfl⟩, List.forall_mem_cons.mpr ⟨⟨_, _, _, rfl, by decide, rfl, wg_ 436 (by decide +kernel) rfl⟩, List.forall_mem_cons.mpr ⟨⟨_, _, _, rfl, by decide, rfl, wg_ 437 (by decide +kernel) rfl⟩, List.forall_mem_cons.mpr ⟨⟨_, _, _, rfl, by decide, rfl, wg_ 438 (by decide +kernel) rfl⟩, List.forall_mem_cons.mpr ⟨⟨_, _, _, rfl, by decide, rfl, wg_ 439 (by decide +kernel) rfl⟩, List.forall_mem_cons.mpr ⟨⟨_, _, _, rfl, by decide, rfl, wg_ 440 (by decide +kernel) rfl⟩, List.forall_mem_cons.mpr ⟨⟨_, _, _, rfl, by decide, rfl, wg_ 114 (by decide +kernel) rfl⟩, List.forall_mem_cons.mpr ⟨⟨_, _, _, rfl, by decide, rfl, wg_ 135 (by decide +kernel) rfl⟩, List.forall_mem_cons.mpr ⟨⟨_, _, _, rfl, by decide, rfl, wg_ 137 (by decide +kernel) rfl⟩, List.forall_mem_cons.mpr ⟨⟨_, _, _, rfl, by decide, rfl, wg_ 221 (by decide +kernel) rfl⟩, List.forall_mem_cons.mpr ⟨⟨_, _, _, rfl, by decide, rfl, wg_ 242 (by decide +kernel) rfl⟩, List.forall_mem_cons.mpr ⟨⟨_, _, _, rfl, by decide, rfl, wg_ 171 (by decide +kernel) rfl⟩, List.forall_mem_cons.mpr ⟨⟨_, _, _, rfl, by decide, rfl, wg_ 175 (by decide +kernel) rfl⟩, List.forall_mem_cons.mpr ⟨⟨_, _, _, rfl, by decide, rfl, wg_ 178 (by decide +kernel) rfl⟩, List.forall_mem_cons.mpr ⟨⟨_, _, _, rfl, by decide, rfl, wg_ 183 (by decide +kernel) rfl⟩, List.forall_mem_cons.mpr ⟨⟨_, _, _, rfl, by decide, rfl, wg_ 186 (by decide +kernel) rfl⟩, List.forall_mem_cons.mpr ⟨⟨_, _, _, rfl, by decide, rfl, wg_ 189 (by decide +kernel) rfl⟩, List.forall_mem_cons.mpr ⟨⟨_, _, _, rfl, by decide, rfl, wg_ 192 (by decide +kernel) rfl⟩, List.forall_mem_cons.mpr ⟨⟨_, _, _, rfl, by decide, rfl, wg_ 232 (by decide +kernel) rfl⟩, List.forall_mem_cons.mpr ⟨⟨_, _, _, rfl, by decide, rfl, wg_ 245 (by decide +kernel) rfl⟩, List.forall_mem_cons.mpr ⟨⟨_, _, _, rfl, by decide, rfl, wg_ 236 (by decide +kernel) rfl⟩, List.forall_mem_cons.mpr ⟨⟨_, _, _, rfl, by decide, rfl, wg_ 248 (by decide +kernel) rfl⟩, List.forall_mem_cons.mpr ⟨⟨_, _, _, rfl, by decide, rfl, wg_ 284 (by decide +kernel) rfl⟩, List.forall_mem_cons.mpr ⟨⟨_, _, _, rfl, by decide, rfl, wg_ 288 (by decide +kernel) rfl⟩, List.forall_mem_cons.mpr ⟨⟨_, _, _, rfl, by decide, rfl, wg_ 290 (by decide +kernel) rfl⟩, List.forall_mem_cons.mpr ⟨⟨_, _, _, rfl, by decide, rfl, wg_ 228 (by decide +kernel) rfl⟩, List.forall_mem_cons.mpr ⟨⟨_, _, _, rfl, by decide, rfl, wg_ 323 (by decide +kernel) rfl⟩, List.forall_mem_cons.mpr ⟨⟨_, _, _, rfl, by decide, rfl, wg_ 325 (by decide +kernel) rfl⟩, List.forall_mem_cons.mpr ⟨⟨_, _, _, rfl, by decide, rfl, wg_ 342 (by decide +kernel) rfl⟩, List.forall_mem_cons.mpr ⟨⟨_, _, _, rfl, by decide, rfl, wg_ 359 (by decide +kernel) rfl⟩, List.forall_mem_cons.mpr ⟨⟨_, _, _, rfl, by decide, rfl, wg_ 357 (by decide +kernel) rfl⟩, List.forall_mem_cons.mpr ⟨⟨_, _, _, rfl, by decide, rfl, wg_ 362 (by decide +kernel) rfl⟩, List.forall_mem_cons.mpr ⟨⟨_, _, _, rfl, by decide, rfl, wg_ 364 (by decide +kernel) rfl⟩, List.forall_mem_cons.mpr ⟨⟨_, _, _, rfl, by decide, rfl, wg_ 292 (by decide +kernel) rfl⟩, List.forall_mem_cons.mpr ⟨⟨_, _, _, rfl, by decide, rfl, wg_ 294 (by decide +kernel) rfl⟩, List.forall_mem_cons.mpr ⟨⟨_, _, _, rfl, by decide, rfl, wg_ 386 (by decide +kernel) rfl⟩, List.forall_mem_cons.mpr ⟨⟨_, _, _, rfl, by decide, rfl, wg_ 388 (by decide +kernel) rfl⟩, List.forall_mem_cons.mpr ⟨⟨_, _, _, rfl, by decide, rfl, wg_ 238 (by decide +kernel) rfl⟩, List.forall_mem_cons.mpr ⟨⟨_, _, _, rfl, by decide, rfl, wg_ 224 (by decide +kernel) rfl⟩, List.forall_mem_cons.mpr ⟨⟨_, _, _, rfl, by decide, rfl, wg_ 410 (by decide +kernel) rfl⟩, List.forall_mem_cons.mpr ⟨⟨_, _, _, rfl, by decide, rfl, wg_ 416 (by decide +kernel) rfl⟩, List.forall_mem_cons.mpr ⟨⟨_, _, _, rfl, by decide, rfl, wg_ 408 (by decide +kernel) rfl⟩, List.forall_mem_cons.mpr ⟨⟨_, _, _, rfl, by decide, rfl, wg_ 412 (by decide +kernel) rfl⟩, fun _ h => absurd h List.not_mem_nil⟩⟩⟩⟩⟩⟩⟩⟩⟩⟩⟩⟩⟩⟩⟩⟩⟩⟩⟩⟩⟩⟩⟩⟩⟩⟩⟩⟩⟩⟩⟩⟩⟩⟩⟩⟩⟩⟩⟩⟩⟩⟩⟩⟩⟩⟩⟩⟩⟩⟩⟩
set_option maxRecDepth 100000 in
theorem plX10_ok : PT_ RX10 plX10 := ⟨List.forall_mem_cons.mpr ⟨⟨_, _, _, rfl, by decide, rfl, wg_ 429 (by decide +kernel) rfl⟩, List.forall_mem_cons.mpr ⟨⟨_, _, _, rfl, by decide, rfl, wg_ 430 (by decide +kernel) rfl⟩, List.forall_mem_cons.mpr ⟨⟨_, _, _, rfl, by decide, rfl, wg_ 439 (by decide +kernel) rfl⟩, List.forall_mem_cons.mpr ⟨⟨_, _, _, rfl, by decide, rfl, wg_ 440 (by decide +kernel) rfl⟩, List.forall_mem_cons.mpr ⟨⟨_, _, _, rfl, by decide, rfl, wg_ 114 (by decide +kernel) rfl⟩, List.forall_mem_cons.mpr ⟨⟨_, _, _, rfl, by decide, rfl, wg_ 135 (by decide +kernel) rfl⟩, List.forall_mem_cons.mpr ⟨⟨_, _, _, rfl, by decide, rfl, wg_ 137 (by decide +kernel) rfl⟩, List.forall_mem_cons.mpr ⟨⟨_, _, _, rfl, by decide, rfl, wg_ 221 (by decide +kernel) rfl⟩, List.forall_mem_cons.mpr ⟨⟨_, _, _, rfl, by decide, rfl, wg_ 171 (by decide +kernel) rfl⟩, List.forall_mem_cons.mpr ⟨⟨_, _, _, rfl, by decide, rfl, wg_ 175 (by decide +kernel) rfl⟩, List.forall_mem_cons.mpr ⟨⟨_, _, _, rfl, by decide, rfl, wg_ 178 (by decide +kernel) rfl⟩, List.forall_mem_cons.mpr ⟨⟨_, _, _, rfl, by decide, rfl, wg_ 183 (by decide +kernel) rfl⟩, List.forall_mem_cons.mpr ⟨⟨_, _, _, rfl, by decide, rfl, wg_ 186 (by decide +kernel) rfl⟩, List.forall_mem_cons.mpr ⟨⟨_, _, _, rfl, by decide, rfl, wg_ 189 (by decide +kernel) rfl⟩, List.forall_mem_cons.mpr ⟨⟨_, _, _, rfl, by decide, rfl, wg_ 192 (by decide +kernel) rfl⟩, List.forall_mem_cons.mpr ⟨⟨_, _, _, rfl, by decide, rfl, wg_ 232 (by decide +kernel) rfl⟩, List.forall_mem_cons.mpr ⟨⟨_, _, _, rfl, by decide, rfl, wg_ 236 (by decide +kernel) rfl⟩, List.forall_mem_cons.mpr ⟨⟨_, _, _, rfl, by decide, rfl, wg_ 288 (by decide +kernel) rfl⟩, List.forall_mem_cons.mpr ⟨⟨_, _, _, rfl, by decide, rfl, wg_ 290 (by decide +kernel) rfl⟩, List.forall_mem_cons.mpr ⟨⟨_, _, _, rfl, by decide, rfl, wg_ 228 (by decide +kernel) rfl⟩, List.forall_mem_cons.mpr ⟨⟨_, _, _, rfl, by decide, rfl, wg_ 323 (by decide +kernel) rfl⟩, List.forall_mem_cons.mpr ⟨⟨_, _, _, rfl, by decide, rfl, wg_ 325 (by decide +kernel) rfl⟩, List.forall_mem_cons.mpr ⟨⟨_, _, _, rfl, by decide, rfl, wg_ 342 (by decide +kernel) rfl⟩, List.forall_mem_cons.mpr ⟨⟨_, _, _, rfl, by decide, rfl, wg_ 359 (by decide +kernel) rfl⟩, List.forall_mem_cons.mpr ⟨⟨_, _, _, rfl, by decide, rfl, wg_ 362 (by decide +kernel) rfl⟩, List.forall_mem_cons.mpr ⟨⟨_, _, _, rfl, by decide, rfl, wg_ 364 (by decide +kernel) rfl⟩, List.forall_mem_cons.mpr ⟨⟨_, _, _, rfl, by decide, rfl, wg_ 292 (by decide +kernel) rfl⟩, List.forall_mem_cons.mpr ⟨⟨_, _, _, rfl, by decide, rfl, wg_ 294 (by decide +kernel) rfl⟩, List.forall_mem_cons.mpr ⟨⟨_, _, _, rfl, by decide, rfl, wg_ 386 (by decide +kernel) rfl⟩, List.forall_mem_cons.mpr ⟨⟨_, _, _, rfl, by decide, rfl, wg_ 388 (by decide +kernel) rfl⟩, List.forall_mem_cons.mpr ⟨⟨_, _, _, rfl, by decide, rfl, wg_ 238 (by decide +kernel) rfl⟩, List.forall_mem_cons.mpr ⟨⟨_, _, _, rfl, by decide, rfl, wg_ 224 (by decide +kernel) rfl⟩, List.forall_mem_cons.mpr ⟨⟨_, _, _, rfl, by decide, rfl, wg_ 410 (by decide +kernel) rfl⟩, List.forall_mem_cons.mpr ⟨⟨_, _, _, rfl, by decide, rfl, wg_ 416 (by decide +kernel) rfl⟩, List.forall_mem_cons.mpr ⟨⟨_, _, _, rfl, by decide, rfl, wg_ 412 (by decide +kernel) rfl⟩, fun _ h => absurd h List.not_mem_nil⟩⟩⟩⟩⟩⟩⟩⟩⟩⟩⟩⟩⟩⟩⟩⟩⟩⟩⟩⟩⟩⟩⟩⟩⟩⟩⟩⟩⟩⟩⟩⟩⟩⟩⟩, List.forall_mem_cons.mpr ⟨fun C T N h => by cases h; rfl, List.forall_mem_cons.mpr ⟨fun C T N h => by cases h; rfl, List.forall_mem_cons.mpr ⟨fun C T N h => by cases h; rfl, List.forall_mem_cons.mpr ⟨fun C T N h => by cases h; rfl, List.forall_mem_cons.mpr ⟨fun C T N h => by cases h; rfl, List.forall_mem_cons.mpr ⟨fun C T N h => by cases h; rfl, List.forall_mem_cons.mpr ⟨fun C T N h => by cases h; rfl, List.forall_mem_cons.mpr ⟨fun C T N h => by cases h; rfl, List.forall_mem_cons.mpr ⟨fun C T N h => by cases h; rfl, List.forall_mem_cons.mpr ⟨fun C T N h => by cases h; rfl, List.forall_mem_cons.mpr ⟨fun C T N h => by cases h; rfl, List.forall_mem_cons.mpr ⟨fun C T N h => by cases h; rfl, List.forall_mem_cons.mpr ⟨fun C T N h => by cases h; rfl, List.forall_mem_cons.mpr ⟨fun C T N h => by cases h; rfl, List.forall_mem_cons.mpr ⟨fun C T N h => by cases h; rfl, List.forall_mem_cons.mpr ⟨fun C T N h => by cases h; rfl, List.forall_mem_cons.mpr ⟨fun C T N h => by cases h; rfl, List.forall_mem_cons.mpr ⟨fun C T N h => by cases h; rfl, List.forall_mem_cons.mpr ⟨fun C T N h => by cases h; rfl, List.forall_mem_cons.mpr ⟨fun C T N h => by cases h; rfl, List.forall_mem_cons.mpr ⟨fun C T N h => by cases h; rfl, List.forall_mem_cons.mpr ⟨fun C T N h => by cases h; rfl, List.forall_mem_cons.mpr ⟨fun C T N h => by cases h; rfl, List.forall_mem_cons.mpr ⟨fun C T N h => by cases h; rfl, List.forall_mem_cons.mpr ⟨fun C T N h => by cases h; rfl, List.forall_mem_cons.mpr ⟨fun C T N h => by cases h; rfl, List.forall_mem_cons.mpr ⟨fun C T N h => by cases h; rfl, List.forall_mem_cons.mpr ⟨fun C T N h => by cases h; rfl, List.forall_mem_cons.mpr ⟨fun C T N h => by cases h; rfl, List.forall_mem_cons.mpr ⟨fun C T N h => by cases h; rfl, List.forall_mem_cons.mpr ⟨fun C T N h => by cases h; rfl, List.forall_mem_cons.mpr ⟨fun C T N h => by cases h; rfl, List.forall_mem_cons.mpr ⟨fun C T N h => by cases h; rfl, List.forall_mem_cons.mpr ⟨fun C T N h => by cases h; rfl, List.forall_mem_cons.mpr ⟨fun C T N h => by cases h; rfl, fun _ h => absurd h List.not_mem_nil⟩⟩⟩⟩⟩⟩⟩⟩⟩⟩⟩⟩⟩⟩⟩⟩⟩⟩⟩⟩⟩⟩⟩⟩⟩⟩⟩⟩⟩⟩⟩⟩⟩⟩⟩⟩
def knX10 : List (Nat × Sv_t) := [(429, (0, 2000000000)), (243, (1, (-2))), (430, (1, 1103515245)), (432, (1, 12345)), (434, (1, 2147483648)), (436, (1, 65536)), (438, (1, 100))]
set_option maxRecDepth 100000 in
theorem knX10_ok : KN_ RX10 knX10 := List.forall_mem_cons.mpr ⟨Or.inl ⟨rfl, ⟨by decide, by decide⟩, wg_ 1152 (by decide +kernel) rfl⟩, List.forall_mem_cons.mpr ⟨Or.inr ⟨rfl, ⟨by decide, by decide⟩, wg_ 866 (by decide +kernel) rfl⟩, List.forall_mem_cons.mpr ⟨Or.inr ⟨rfl, ⟨by decide, by decide⟩, wg_ 1156 (by decide +kernel) rfl⟩, List.forall_mem_cons.mpr ⟨Or.inr ⟨rfl, ⟨by decide, by decide⟩, wg_ 1157 (by decide +kernel) rfl⟩, List.forall_mem_cons.mpr ⟨Or.inr ⟨rfl, ⟨by decide, by decide⟩, wg_ 1158 (by decide +kernel) rfl⟩, List.forall_mem_cons.mpr ⟨Or.inr ⟨rfl, ⟨by decide, by decide⟩, wg_ 1162 (by decide +kernel) rfl⟩, List.forall_mem_cons.mpr ⟨Or.inr ⟨rfl, ⟨by decide, by decide⟩, wg_ 1163 (by decide +kernel) rfl⟩, fun _ h => absurd h List.not_mem_nil⟩⟩⟩⟩⟩⟩⟩
def flX11 : List (Nat × Nat × Nat × Int) := [(9, 11, 1, 1), (13, 11, 2, 2), (16, 11, 3, 3), (20, 11, 4, 4), (24, 11, 6, 6), (27, 11, 13, 13), (31, 11, 14, 14), (34, 11, 15, 15), (37, 11, 16, 16), (40, 11, 17, 17), (43, 11, 18, 18), (46, 11, 21, 21), (49, 11, 24, 24), (52, 11, 29, 29), (55, 11, 30, 30), (58, 11, 31, 31), (61, 11, 35, 35), (64, 11, 36, 36), (67, 11, 37, 37), (71, 11, 38, 38), (108, 11, 5, 5), (111, 11, 7, 7), (114, 11, 8, 8), (121, 11, 9, 9), (124, 11, 10, 10), (135, 11, 11, 11), (144, 11, 12, 12), (302, 11, 19, 19), (305, 11, 20, 20), (327, 11, 22, 22), (330, 11, 23, 23), (386, 11, 25, 25), (402, 11, 26, 26), (405, 11, 27, 27), (418, 11, 28, 28), (460, 11, 32, 32), (463, 11, 33, 33), (466, 11, 34, 34)]
def plX11 : List (Nat × Nat × Nat × Int) := [(27, 11, 13, 13), (108, 11, 5, 5), (111, 11, 7, 7), (114, 11, 8, 8), (121, 11, 9, 9), (124, 11, 10, 10), (135, 11, 11, 11), (144, 11, 12, 12), (302, 11, 19, 19), (305, 11, 20, 20), (327, 11, 22, 22), (330, 11, 23, 23), (386, 11, 25, 25), (402, 11, 26, 26), (405, 11, 27, 27), (418, 11, 28, 28), (460, 11, 32, 32), (463, 11, 33, 33), (466, 11, 34, 34)]
set_option maxRecDepth 100000 in
theorem flX11_ok : FT_ RX11 flX11 := List.forall_mem_cons.mpr ⟨⟨_, _, _, rfl, by decide, rfl, wg_ 1231 (by decide +kernel) rfl⟩, List.forall_mem_cons.mpr ⟨⟨_, _, _, rfl, by decide, rfl, wg_ 1232 (by decide +kernel) rfl⟩, List.forall_mem_cons.mpr ⟨⟨_, _, _, rfl, by decide, rfl, wg_ 1233 (by decide +kernel) rfl⟩, List.forall_mem_cons.mpr ⟨⟨_, _, _, rfl, by decide, rfl, wg_ 1234 (by decide +kernel) rfl⟩, List.forall_mem_cons.mpr ⟨⟨_, _, _, rfl, by decide, rfl, wg_ 1236 (by decide +kernel) rfl⟩, List.forall_mem_cons.mpr ⟨⟨_, _, _, rfl, by decide, rfl, wg_ 1243 (by decide +kernel) rfl⟩, List.forall_mem_cons.mpr ⟨⟨_, _, _, rfl, by decide, rfl, wg_ 1244 (by decide +kernel) rfl⟩, List.forall_mem_cons.mpr ⟨⟨_, _, _, rfl, by decide, rfl, wg_ 1245 (by decide +kernel) rfl⟩, List.forall_mem_cons.mpr ⟨⟨_, _, _, rfl, by decide, rfl, wg_ 1246 (by decide +kernel) rfl⟩, List.forall_mem_cons.mpr ⟨⟨_, _, _, rfl, by decide, rfl, wg_ 1247 (by decide +kernel) rfl⟩, List.forall_mem_cons.mpr ⟨⟨_, _, _, rfl, by decide, rfl, wg_ 1248 (by decide +kernel) rfl⟩, List.forall_mem_cons.mpr ⟨⟨_, _, _, rfl, by decide, rfl, wg_ 1251 (by decide +kernel) rfl⟩, List.forall_mem_cons.mpr ⟨⟨_, _, _, rfl, by decide, rfl, wg_ 1254 (by decide +kernel) rfl⟩, List.forall_mem_cons.mpr ⟨⟨_, _, _, rfl, by decide, rfl, wg_ 1259 (by decide +kernel) rfl⟩, List.forall_mem_cons.mpr ⟨⟨_, _, _, rfl, by decide, rfl, wg_ 1260 (by decide +kernel) rfl⟩, List.forall_mem_cons.mpr ⟨⟨_, _, _, rfl, by decide, rfl, wg_ 1261 (by decide +kernel) rfl⟩, List.forall_mem_cons.mpr ⟨⟨_, _, _, rfl, by decide, rfl, wg_ 1265 (by decide +kernel) rfl⟩, List.forall_mem_cons.mpr ⟨⟨_, _, _, rfl, by decide, rfl, wg_ 1266 (by decide +kernel) rfl⟩, List.forall_mem_cons.mpr ⟨⟨_, _, _, rfl, by decide, rfl, wg_ 1267 (by decide +kernel) rfl⟩, List.forall_mem_cons.mpr ⟨⟨_, _, _, rfl, by decide, rfl, wg_ 1268 (by decide +kernel) rfl⟩, List.forall_mem_cons.mpr ⟨⟨_, _, _, rfl, by decide, rfl, wg_ 1235 (by decide +kernel) rfl⟩, List.forall_mem_cons.mpr ⟨⟨_, _, _, rfl, by decide, rfl, wg_ 1237 (by decide +kernel) rfl⟩, List.forall_mem_cons.mpr ⟨⟨_, _, _, rfl, by decide, rfl, wg_ 1238 (by decide +kernel) rfl⟩, List.forall_mem_cons.mpr ⟨⟨_, _, _, rfl, by decide, rfl, wg_ 1239 (by decide +kernel) rfl⟩, List.forall_mem_cons.mpr ⟨⟨_, _, _, rfl, by decide, rfl, wg_ 1240 (by decide +kernel) rfl⟩, List.forall_mem_cons.mpr ⟨⟨_, _, _, rfl, by decide, rfl, wg_ 1241 (by decide +kernel) rfl⟩, List.forall_mem_cons.mpr ⟨⟨_, _, _, rfl, by decide, rfl, wg_ 1242 (by decide +kernel) rfl⟩, List.forall_mem_cons.mpr ⟨⟨_, _, _, rfl, by decide, rfl, wg_ 1249 (by decide +kernel) rfl⟩, List.forall_mem_cons.mpr ⟨⟨_, _, _, rfl, by decide, rfl, wg_ 1250 (by decide +kernel) rfl⟩, List.forall_mem_cons.mpr ⟨⟨_, _, _, rfl, by decide, rfl, wg_ 1252 (by decide +kernel) rfl⟩, List.forall_mem_cons.mpr ⟨⟨_, _, _, rfl, by decide, rfl, wg_ 1253 (by decide +kernel) rfl⟩, List.forall_mem_cons.mpr ⟨⟨_, _, _, rfl, by decide, rfl, wg_ 1255 (by decide +kernel) rfl⟩, List.forall_mem_cons.mpr ⟨⟨_, _, _, rfl, by decide, rfl, wg_ 1256 (by decide +kernel) rfl⟩, List.forall_mem_cons.mpr ⟨⟨_, _, _, rfl, by decide, rfl, wg_ 1257 (by decide +kernel) rfl⟩, List.forall_mem_cons.mpr ⟨⟨_, _, _, rfl, by decide, rfl, wg_ 1258 (by decide +kernel) rfl⟩, List.forall_mem_cons.mpr ⟨⟨_, _, _, rfl, by decide, rfl, wg_ 1262 (by decide +kernel) rfl⟩, List.forall_mem_cons.mpr ⟨⟨_, _, _, rfl, by decide, rfl, wg_ 1263 (by decide +kernel) rfl⟩, List.forall_mem_cons.mpr ⟨⟨_, _, _, rfl, by decide, rfl, wg_ 1264 (by decide +kernel) rfl⟩, fun _ h => absurd h List.not_mem_nil⟩⟩⟩⟩⟩⟩⟩⟩⟩⟩⟩⟩⟩⟩⟩⟩⟩⟩⟩⟩⟩⟩⟩⟩⟩⟩⟩⟩⟩⟩⟩⟩⟩⟩⟩⟩⟩⟩
set_option maxRecDepth 100000 in
theorem plX11_ok : PT_ RX11 plX11 := ⟨List.forall_mem_cons.mpr ⟨⟨_, _, _, rfl, by decide, rfl, wg_ 1243 (by decide +kernel) rfl⟩, List.forall_mem_cons.mpr ⟨⟨_, _, _, rfl, by decide, rfl, wg_ 1235 (by decide +kernel) rfl⟩, List.forall_mem_cons.mpr ⟨⟨_, _, _, rfl, by decide, rfl, wg_ 1237 (by decide +kernel) rfl⟩, List.forall_mem_cons.mpr ⟨⟨_, _, _, rfl, by decide, rfl, wg_ 1238 (by decide +kernel) rfl⟩, List.forall_mem_cons.mpr ⟨⟨_, _, _, rfl, by decide, rfl, wg_ 1239 (by decide +kernel) rfl⟩, List.forall_mem_cons.mpr ⟨⟨_, _, _, rfl, by decide, rfl, wg_ 1240 (by decide +kernel) rfl⟩, List.forall_mem_cons.mpr ⟨⟨_, _, _, rfl, by decide, rfl, wg_ 1241 (by decide +kernel) rfl⟩, List.forall_mem_cons.mpr ⟨⟨_, _, _, rfl, by decide, rfl, wg_ 1242 (by decide +kernel) rfl⟩, List.forall_mem_cons.mpr ⟨⟨_, _, _, rfl, by decide, rfl, wg_ 1249 (by decide +kernel) rfl⟩, List.forall_mem_cons.mpr ⟨⟨_, _, _, rfl, by decide, rfl, wg_ 1250 (by decide +kernel) rfl⟩, List.forall_mem_cons.mpr ⟨⟨_, _, _, rfl, by decide, rfl, wg_ 1252 (by decide +kernel) rfl⟩, List.forall_mem_cons.mpr ⟨⟨_, _, _, rfl, by decide, rfl, wg_ 1253 (by decide +kernel) rfl⟩, List.forall_mem_cons.mpr ⟨⟨_, _, _, rfl, by decide, rfl, wg_ 1255 (by decide +kernel) rfl⟩, List.forall_mem_cons.mpr ⟨⟨_, _, _, rfl, by decide, rfl, wg_ 1256 (by decide +kernel) rfl⟩, List.forall_mem_cons.mpr ⟨⟨_, _, _, rfl, by decide, rfl, wg_ 1257 (by decide +kernel) rfl⟩, List.forall_mem_cons.mpr ⟨⟨_, _, _, rfl, by decide, rfl, wg_ 1258 (by decide +kernel) rfl⟩, List.forall_mem_cons.mpr ⟨⟨_, _, _, rfl, by decide, rfl, wg_ 1262 (by decide +kernel) rfl⟩, List.forall_mem_cons.mpr ⟨⟨_, _, _, rfl, by decide, rfl, wg_ 1263 (by decide +kernel) rfl⟩, List.forall_mem_cons.mpr ⟨⟨_, _, _, rfl, by decide, rfl, wg_ 1264 (by decide +kernel) rfl⟩, fun _ h => absurd h List.not_mem_nil⟩⟩⟩⟩⟩⟩⟩⟩⟩⟩⟩⟩⟩⟩⟩⟩⟩⟩⟩, List.forall_mem_cons.mpr ⟨fun C T N h => by cases h; rfl, List.forall_mem_cons.mpr ⟨fun C T N h => by cases h; rfl, List.forall_mem_cons.mpr ⟨fun C T N h => by cases h; rfl, List.forall_mem_cons.mpr ⟨fun C T N h => by cases h; rfl, List.forall_mem_cons.mpr ⟨fun C T N h => by cases h; rfl, List.forall_mem_cons.mpr ⟨fun C T N h => by cases h; rfl, List.forall_mem_cons.mpr ⟨fun C T N h => by cases h; rfl, List.forall_mem_cons.mpr ⟨fun C T N h => by cases h; rfl, List.forall_mem_cons.mpr ⟨fun C T N h => by cases h; rfl, List.forall_mem_cons.mpr ⟨fun C T N h => by cases h; rfl, List.forall_mem_cons.mpr ⟨fun C T N h => by cases h; rfl, List.forall_mem_cons.mpr ⟨fun C T N h => by cases h; rfl, List.forall_mem_cons.mpr ⟨fun C T N h => by cases h; rfl, List.forall_mem_cons.mpr ⟨fun C T N h => by cases h; rfl, List.forall_mem_cons.mpr ⟨fun C T N h => by cases h; rfl, List.forall_mem_cons.mpr ⟨fun C T N h => by cases h; rfl, List.forall_mem_cons.mpr ⟨fun C T N h => by cases h; rfl, List.forall_mem_cons.mpr ⟨fun C T N h => by cases h; rfl, List.forall_mem_cons.mpr ⟨fun C T N h => by cases h; rfl, fun _ h => absurd h List.not_mem_nil⟩⟩⟩⟩⟩⟩⟩⟩⟩⟩⟩⟩⟩⟩⟩⟩⟩⟩⟩⟩
def knX11 : List (Nat × Sv_t) := [(138, (0, 99999)), (370, (0, 1000000)), (77, (1, 2)), (127, (1, 97)), (129, (1, 122)), (131, (1, 48)), (133, (1, 57)), (180, (1, 60)), (258, (1, 6)), (87, (1, 1999)), (267, (1, 3)), (336, (1, 20)), (338, (1, 9)), (334, (1, (-1))), (348, (1, (-2))), (371, (1, 4)), (421, (1, 200)), (448, (1, 40)), (479, (1, 2000000000)), (477, (1, 100)), (469, (1, 1103515245)), (471, (1, 12345)), (473, (1, 2147483648)), (475, (1, 65536))]
set_option maxRecDepth 100000 in
theorem knX11_ok : KN_ RX11 knX11 := List.forall_mem_cons.mpr ⟨Or.inl ⟨rfl, ⟨by decide, by decide⟩, wg_ 1388 (by decide +kernel) rfl⟩, List.forall_mem_cons.mpr ⟨Or.inl ⟨rfl, ⟨by decide, by decide⟩, wg_ 1724 (by decide +kernel) rfl⟩, List.forall_mem_cons.mpr ⟨Or.inr ⟨rfl, ⟨by decide, by decide⟩, wg_ 1352 (by decide +kernel) rfl⟩, List.forall_mem_cons.mpr ⟨Or.inr ⟨rfl, ⟨by decide, by decide⟩, wg_ 1384 (by decide +kernel) rfl⟩, List.forall_mem_cons.mpr ⟨Or.inr ⟨rfl, ⟨by decide, by decide⟩, wg_ 1385 (by decide +kernel) rfl⟩, List.forall_mem_cons.mpr ⟨Or.inr ⟨rfl, ⟨by decide, by decide⟩, wg_ 1386 (by decide +kernel) rfl⟩, List.forall_mem_cons.mpr ⟨Or.inr ⟨rfl, ⟨by decide, by decide⟩, wg_ 1387 (by decide +kernel) rfl⟩, List.forall_mem_cons.mpr ⟨Or.inr ⟨rfl, ⟨by decide, by decide⟩, wg_ 1445 (by decide +kernel) rfl⟩, List.forall_mem_cons.mpr ⟨Or.inr ⟨rfl, ⟨by decide, by decide⟩, wg_ 1471 (by decide +kernel) rfl⟩, List.forall_mem_cons.mpr ⟨Or.inr ⟨rfl, ⟨by decide, by decide⟩, wg_ 1487 (by decide +kernel) rfl⟩, List.forall_mem_cons.mpr ⟨Or.inr ⟨rfl, ⟨by decide, by decide⟩, wg_ 1496 (by decide +kernel) rfl⟩, List.forall_mem_cons.mpr ⟨Or.inr ⟨rfl, ⟨by decide, by decide⟩, wg_ 1669 (by decide +kernel) rfl⟩, List.forall_mem_cons.mpr ⟨Or.inr ⟨rfl, ⟨by decide, by decide⟩, wg_ 1670 (by decide +kernel) rfl⟩, List.forall_mem_cons.mpr ⟨Or.inr ⟨rfl, ⟨by decide, by decide⟩, wg_ 1675 (by decide +kernel) rfl⟩, List.forall_mem_cons.mpr ⟨Or.inr ⟨rfl, ⟨by decide, by decide⟩, wg_ 1680 (by decide +kernel) rfl⟩, List.forall_mem_cons.mpr ⟨Or.inr ⟨rfl, ⟨by decide, by decide⟩, wg_ 1737 (by decide +kernel) rfl⟩, List.forall_mem_cons.mpr ⟨Or.inr ⟨rfl, ⟨by decide, by decide⟩, wg_ 1838 (by decide +kernel) rfl⟩, List.forall_mem_cons.mpr ⟨Or.inr ⟨rfl, ⟨by decide, by decide⟩, wg_ 1855 (by decide +kernel) rfl⟩, List.forall_mem_cons.mpr ⟨Or.inr ⟨rfl, ⟨by decide, by decide⟩, wg_ 1907 (by decide +kernel) rfl⟩, List.forall_mem_cons.mpr ⟨Or.inr ⟨rfl, ⟨by decide, by decide⟩, wg_ 1908 (by decide +kernel) rfl⟩, List.forall_mem_cons.mpr ⟨Or.inr ⟨rfl, ⟨by decide, by decide⟩, wg_ 1913 (by decide +kernel) rfl⟩, List.forall_mem_cons.mpr ⟨Or.inr ⟨rfl, ⟨by decide, by decide⟩, wg_ 1914 (by decide +kernel) rfl⟩, List.forall_mem_cons.mpr ⟨Or.inr ⟨rfl, ⟨by decide, by decide⟩, wg_ 1915 (by decide +kernel) rfl⟩, List.forall_mem_cons.mpr ⟨Or.inr ⟨rfl, ⟨by decide, by decide⟩, wg_ 1916 (by decide +kernel) rfl⟩, fun _ h => absurd h List.not_mem_nil⟩⟩⟩⟩⟩⟩⟩⟩⟩⟩⟩⟩⟩⟩⟩⟩⟩⟩⟩⟩⟩⟩⟩⟩
def flL : List (Nat × Nat × Nat × Int) := []
def plL : List (Nat × Nat × Nat × Int) := []
set_option maxRecDepth 100000 in
theorem flL_ok : FT_ RL flL := fun _ h => absurd h List.not_mem_nil
set_option maxRecDepth 100000 in
theorem plL_ok : PT_ RL plL := ⟨fun _ h => absurd h List.not_mem_nil, fun _ h => absurd h List.not_mem_nil⟩
def knL : List (Nat × Sv_t) := [(256, (1, 4294967295))]
set_option maxRecDepth 100000 in
theorem knL_ok : KN_ RL knL := List.forall_mem_cons.mpr ⟨Or.inr ⟨rfl, ⟨by decide, by decide⟩, wg_ 1940 (by decide +kernel) rfl⟩, fun _ h => absurd h List.not_mem_nil⟩
end
