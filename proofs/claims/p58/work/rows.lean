section
/-- a private method of a class that the tables say can be made, by its rows of tables_1 -/
def lw_okq (q : MethodName × Nat) : Prop := (q.1.cls ≠ "java/lang/invoke/MethodHandle" ∧ q.1.cls ≠ "java/lang/invoke/VarHandle") ∧ Cond.instantiable q.1.cls q.2 ∈ tables_1 ∧ Cond.privateMethod q.1 ∈ tables_1 ∧ Cond.instanceMethod q.1 ∈ tables_1
theorem lw_p0 : lw_okq (⟨"TwoCalendars", "isLandAndDay", "(II)Z"⟩, 14) := ⟨⟨by decide +kernel, by decide +kernel⟩, List.mem_of_getElem? (i := 21) (by decide +kernel), List.mem_of_getElem? (i := 596) (by decide +kernel), List.mem_of_getElem? (i := 597) (by decide +kernel)⟩
theorem lw_p1 : lw_okq (⟨"TwoCalendars", "told", "()LTwoCalendars$Almanac;"⟩, 14) := ⟨⟨by decide +kernel, by decide +kernel⟩, List.mem_of_getElem? (i := 21) (by decide +kernel), List.mem_of_getElem? (i := 603) (by decide +kernel), List.mem_of_getElem? (i := 604) (by decide +kernel)⟩
theorem lw_p2 : lw_okq (⟨"TwoCalendars", "isDayOfWar", "(I)Z"⟩, 14) := ⟨⟨by decide +kernel, by decide +kernel⟩, List.mem_of_getElem? (i := 21) (by decide +kernel), List.mem_of_getElem? (i := 672) (by decide +kernel), List.mem_of_getElem? (i := 673) (by decide +kernel)⟩
theorem lw_p3 : lw_okq (⟨"TwoCalendars", "isSetInSpan", "(III)Z"⟩, 14) := ⟨⟨by decide +kernel, by decide +kernel⟩, List.mem_of_getElem? (i := 21) (by decide +kernel), List.mem_of_getElem? (i := 680) (by decide +kernel), List.mem_of_getElem? (i := 681) (by decide +kernel)⟩
theorem lw_p4 : lw_okq (⟨"TwoCalendars", "isPairAndDay", "(III)Z"⟩, 14) := ⟨⟨by decide +kernel, by decide +kernel⟩, List.mem_of_getElem? (i := 21) (by decide +kernel), List.mem_of_getElem? (i := 723) (by decide +kernel), List.mem_of_getElem? (i := 724) (by decide +kernel)⟩
theorem lw_p5 : lw_okq (⟨"TwoCalendars", "isPair", "(II)Z"⟩, 14) := ⟨⟨by decide +kernel, by decide +kernel⟩, List.mem_of_getElem? (i := 21) (by decide +kernel), List.mem_of_getElem? (i := 727) (by decide +kernel), List.mem_of_getElem? (i := 728) (by decide +kernel)⟩
theorem lw_p6 : lw_okq (⟨"TwoCalendars", "isSaintly", "(IIIII)Z"⟩, 14) := ⟨⟨by decide +kernel, by decide +kernel⟩, List.mem_of_getElem? (i := 21) (by decide +kernel), List.mem_of_getElem? (i := 763) (by decide +kernel), List.mem_of_getElem? (i := 764) (by decide +kernel)⟩
theorem lw_p7 : lw_okq (⟨"TwoCalendars", "readOrders", "(I)I"⟩, 14) := ⟨⟨by decide +kernel, by decide +kernel⟩, List.mem_of_getElem? (i := 21) (by decide +kernel), List.mem_of_getElem? (i := 803) (by decide +kernel), List.mem_of_getElem? (i := 804) (by decide +kernel)⟩
theorem lw_p8 : lw_okq (⟨"TwoCalendars", "readSights", "(III)I"⟩, 14) := ⟨⟨by decide +kernel, by decide +kernel⟩, List.mem_of_getElem? (i := 21) (by decide +kernel), List.mem_of_getElem? (i := 857) (by decide +kernel), List.mem_of_getElem? (i := 858) (by decide +kernel)⟩
theorem lw_p9 : lw_okq (⟨"TwoCalendars", "fightsInRain", "(LTwoCalendars$Almanac;JIII)Z"⟩, 14) := ⟨⟨by decide +kernel, by decide +kernel⟩, List.mem_of_getElem? (i := 21) (by decide +kernel), List.mem_of_getElem? (i := 1092) (by decide +kernel), List.mem_of_getElem? (i := 1093) (by decide +kernel)⟩
theorem lw_p10 : lw_okq (⟨"TwoCalendars", "slotsWithRow", "()I"⟩, 14) := ⟨⟨by decide +kernel, by decide +kernel⟩, List.mem_of_getElem? (i := 21) (by decide +kernel), List.mem_of_getElem? (i := 1100) (by decide +kernel), List.mem_of_getElem? (i := 1101) (by decide +kernel)⟩
theorem lw_p11 : lw_okq (⟨"TwoCalendarsModel", "advance", "()V"⟩, 39) := ⟨⟨by decide +kernel, by decide +kernel⟩, List.mem_of_getElem? (i := 1149) (by decide +kernel), List.mem_of_getElem? (i := 1300) (by decide +kernel), List.mem_of_getElem? (i := 1301) (by decide +kernel)⟩
theorem lw_p12 : lw_okq (⟨"TwoCalendarsModel", "see", "(I)I"⟩, 39) := ⟨⟨by decide +kernel, by decide +kernel⟩, List.mem_of_getElem? (i := 1149) (by decide +kernel), List.mem_of_getElem? (i := 1304) (by decide +kernel), List.mem_of_getElem? (i := 1305) (by decide +kernel)⟩
theorem lw_p13 : lw_okq (⟨"TwoCalendarsModel", "good", "()Z"⟩, 39) := ⟨⟨by decide +kernel, by decide +kernel⟩, List.mem_of_getElem? (i := 1149) (by decide +kernel), List.mem_of_getElem? (i := 1314) (by decide +kernel), List.mem_of_getElem? (i := 1315) (by decide +kernel)⟩
theorem lw_p14 : lw_okq (⟨"TwoCalendarsModel", "readLine", "()V"⟩, 39) := ⟨⟨by decide +kernel, by decide +kernel⟩, List.mem_of_getElem? (i := 1149) (by decide +kernel), List.mem_of_getElem? (i := 1318) (by decide +kernel), List.mem_of_getElem? (i := 1319) (by decide +kernel)⟩
theorem lw_p15 : lw_okq (⟨"TwoCalendarsModel", "needs", "(Ljava/lang/String;)V"⟩, 39) := ⟨⟨by decide +kernel, by decide +kernel⟩, List.mem_of_getElem? (i := 1149) (by decide +kernel), List.mem_of_getElem? (i := 1323) (by decide +kernel), List.mem_of_getElem? (i := 1324) (by decide +kernel)⟩
def lw_privs_1 : List (MethodName × Nat) := [(⟨"TwoCalendars", "isLandAndDay", "(II)Z"⟩, 14), (⟨"TwoCalendars", "told", "()LTwoCalendars$Almanac;"⟩, 14), (⟨"TwoCalendars", "isDayOfWar", "(I)Z"⟩, 14), (⟨"TwoCalendars", "isSetInSpan", "(III)Z"⟩, 14), (⟨"TwoCalendars", "isPairAndDay", "(III)Z"⟩, 14), (⟨"TwoCalendars", "isPair", "(II)Z"⟩, 14), (⟨"TwoCalendars", "isSaintly", "(IIIII)Z"⟩, 14), (⟨"TwoCalendars", "readOrders", "(I)I"⟩, 14), (⟨"TwoCalendars", "readSights", "(III)I"⟩, 14), (⟨"TwoCalendars", "fightsInRain", "(LTwoCalendars$Almanac;JIII)Z"⟩, 14), (⟨"TwoCalendars", "slotsWithRow", "()I"⟩, 14), (⟨"TwoCalendarsModel", "advance", "()V"⟩, 39), (⟨"TwoCalendarsModel", "see", "(I)I"⟩, 39), (⟨"TwoCalendarsModel", "good", "()Z"⟩, 39), (⟨"TwoCalendarsModel", "readLine", "()V"⟩, 39), (⟨"TwoCalendarsModel", "needs", "(Ljava/lang/String;)V"⟩, 39)]
theorem lw_r1 : ∀ q ∈ lw_privs_1, lw_okq q := List.forall_mem_cons.mpr ⟨lw_p0, List.forall_mem_cons.mpr ⟨lw_p1, List.forall_mem_cons.mpr ⟨lw_p2, List.forall_mem_cons.mpr ⟨lw_p3, List.forall_mem_cons.mpr ⟨lw_p4, List.forall_mem_cons.mpr ⟨lw_p5, List.forall_mem_cons.mpr ⟨lw_p6, List.forall_mem_cons.mpr ⟨lw_p7, List.forall_mem_cons.mpr ⟨lw_p8, List.forall_mem_cons.mpr ⟨lw_p9, List.forall_mem_cons.mpr ⟨lw_p10, List.forall_mem_cons.mpr ⟨lw_p11, List.forall_mem_cons.mpr ⟨lw_p12, List.forall_mem_cons.mpr ⟨lw_p13, List.forall_mem_cons.mpr ⟨lw_p14, List.forall_mem_cons.mpr ⟨lw_p15, fun _ h => absurd h List.not_mem_nil⟩⟩⟩⟩⟩⟩⟩⟩⟩⟩⟩⟩⟩⟩⟩⟩
theorem lw_p16 : lw_okq (⟨"TwoCalendarsModel", "takes", "(Ljava/lang/String;)Z"⟩, 39) := ⟨⟨by decide +kernel, by decide +kernel⟩, List.mem_of_getElem? (i := 1149) (by decide +kernel), List.mem_of_getElem? (i := 1327) (by decide +kernel), List.mem_of_getElem? (i := 1328) (by decide +kernel)⟩
theorem lw_p17 : lw_okq (⟨"TwoCalendarsModel", "is", "(Ljava/lang/String;)Z"⟩, 39) := ⟨⟨by decide +kernel, by decide +kernel⟩, List.mem_of_getElem? (i := 1149) (by decide +kernel), List.mem_of_getElem? (i := 1331) (by decide +kernel), List.mem_of_getElem? (i := 1332) (by decide +kernel)⟩
theorem lw_p18 : lw_okq (⟨"TwoCalendarsModel", "errs", "(I)V"⟩, 39) := ⟨⟨by decide +kernel, by decide +kernel⟩, List.mem_of_getElem? (i := 1149) (by decide +kernel), List.mem_of_getElem? (i := 1337) (by decide +kernel), List.mem_of_getElem? (i := 1338) (by decide +kernel)⟩
theorem lw_p19 : lw_okq (⟨"TwoCalendarsModel", "told", "(Ljava/lang/String;II)I"⟩, 39) := ⟨⟨by decide +kernel, by decide +kernel⟩, List.mem_of_getElem? (i := 1149) (by decide +kernel), List.mem_of_getElem? (i := 1342) (by decide +kernel), List.mem_of_getElem? (i := 1343) (by decide +kernel)⟩
theorem lw_p20 : lw_okq (⟨"TwoCalendarsModel", "number", "(II)I"⟩, 39) := ⟨⟨by decide +kernel, by decide +kernel⟩, List.mem_of_getElem? (i := 1149) (by decide +kernel), List.mem_of_getElem? (i := 1346) (by decide +kernel), List.mem_of_getElem? (i := 1347) (by decide +kernel)⟩
theorem lw_p21 : lw_okq (⟨"TwoCalendarsModel", "readNext", "()V"⟩, 39) := ⟨⟨by decide +kernel, by decide +kernel⟩, List.mem_of_getElem? (i := 1149) (by decide +kernel), List.mem_of_getElem? (i := 1350) (by decide +kernel), List.mem_of_getElem? (i := 1351) (by decide +kernel)⟩
theorem lw_p22 : lw_okq (⟨"TwoCalendarsModel", "readLand", "()V"⟩, 39) := ⟨⟨by decide +kernel, by decide +kernel⟩, List.mem_of_getElem? (i := 1149) (by decide +kernel), List.mem_of_getElem? (i := 1357) (by decide +kernel), List.mem_of_getElem? (i := 1358) (by decide +kernel)⟩
theorem lw_p23 : lw_okq (⟨"TwoCalendarsModel", "readMonths", "(I)V"⟩, 39) := ⟨⟨by decide +kernel, by decide +kernel⟩, List.mem_of_getElem? (i := 1149) (by decide +kernel), List.mem_of_getElem? (i := 1365) (by decide +kernel), List.mem_of_getElem? (i := 1366) (by decide +kernel)⟩
theorem lw_p24 : lw_okq (⟨"TwoCalendarsModel", "readFeast", "()V"⟩, 39) := ⟨⟨by decide +kernel, by decide +kernel⟩, List.mem_of_getElem? (i := 1149) (by decide +kernel), List.mem_of_getElem? (i := 1373) (by decide +kernel), List.mem_of_getElem? (i := 1374) (by decide +kernel)⟩
theorem lw_p25 : lw_okq (⟨"TwoCalendarsModel", "freshLand", "()I"⟩, 39) := ⟨⟨by decide +kernel, by decide +kernel⟩, List.mem_of_getElem? (i := 1149) (by decide +kernel), List.mem_of_getElem? (i := 1377) (by decide +kernel), List.mem_of_getElem? (i := 1378) (by decide +kernel)⟩
theorem lw_p26 : lw_okq (⟨"TwoCalendarsModel", "readTruce", "()V"⟩, 39) := ⟨⟨by decide +kernel, by decide +kernel⟩, List.mem_of_getElem? (i := 1149) (by decide +kernel), List.mem_of_getElem? (i := 1382) (by decide +kernel), List.mem_of_getElem? (i := 1383) (by decide +kernel)⟩
theorem lw_p27 : lw_okq (⟨"TwoCalendarsModel", "isLand", "(J)Z"⟩, 39) := ⟨⟨by decide +kernel, by decide +kernel⟩, List.mem_of_getElem? (i := 1149) (by decide +kernel), List.mem_of_getElem? (i := 1391) (by decide +kernel), List.mem_of_getElem? (i := 1392) (by decide +kernel)⟩
theorem lw_p28 : lw_okq (⟨"TwoCalendarsModel", "of", "(II)I"⟩, 39) := ⟨⟨by decide +kernel, by decide +kernel⟩, List.mem_of_getElem? (i := 1149) (by decide +kernel), List.mem_of_getElem? (i := 1396) (by decide +kernel), List.mem_of_getElem? (i := 1397) (by decide +kernel)⟩
theorem lw_p29 : lw_okq (⟨"TwoCalendarsModel", "isMonth", "(IJ)Z"⟩, 39) := ⟨⟨by decide +kernel, by decide +kernel⟩, List.mem_of_getElem? (i := 1149) (by decide +kernel), List.mem_of_getElem? (i := 1404) (by decide +kernel), List.mem_of_getElem? (i := 1405) (by decide +kernel)⟩
theorem lw_p30 : lw_okq (⟨"TwoCalendarsModel", "lengthOf", "(III)I"⟩, 39) := ⟨⟨by decide +kernel, by decide +kernel⟩, List.mem_of_getElem? (i := 1149) (by decide +kernel), List.mem_of_getElem? (i := 1412) (by decide +kernel), List.mem_of_getElem? (i := 1413) (by decide +kernel)⟩
theorem lw_p31 : lw_okq (⟨"TwoCalendarsModel", "ofFeast", "(II)I"⟩, 39) := ⟨⟨by decide +kernel, by decide +kernel⟩, List.mem_of_getElem? (i := 1149) (by decide +kernel), List.mem_of_getElem? (i := 1421) (by decide +kernel), List.mem_of_getElem? (i := 1422) (by decide +kernel)⟩
def lw_privs_2 : List (MethodName × Nat) := [(⟨"TwoCalendarsModel", "takes", "(Ljava/lang/String;)Z"⟩, 39), (⟨"TwoCalendarsModel", "is", "(Ljava/lang/String;)Z"⟩, 39), (⟨"TwoCalendarsModel", "errs", "(I)V"⟩, 39), (⟨"TwoCalendarsModel", "told", "(Ljava/lang/String;II)I"⟩, 39), (⟨"TwoCalendarsModel", "number", "(II)I"⟩, 39), (⟨"TwoCalendarsModel", "readNext", "()V"⟩, 39), (⟨"TwoCalendarsModel", "readLand", "()V"⟩, 39), (⟨"TwoCalendarsModel", "readMonths", "(I)V"⟩, 39), (⟨"TwoCalendarsModel", "readFeast", "()V"⟩, 39), (⟨"TwoCalendarsModel", "freshLand", "()I"⟩, 39), (⟨"TwoCalendarsModel", "readTruce", "()V"⟩, 39), (⟨"TwoCalendarsModel", "isLand", "(J)Z"⟩, 39), (⟨"TwoCalendarsModel", "of", "(II)I"⟩, 39), (⟨"TwoCalendarsModel", "isMonth", "(IJ)Z"⟩, 39), (⟨"TwoCalendarsModel", "lengthOf", "(III)I"⟩, 39), (⟨"TwoCalendarsModel", "ofFeast", "(II)I"⟩, 39)]
theorem lw_r2 : ∀ q ∈ lw_privs_2, lw_okq q := List.forall_mem_cons.mpr ⟨lw_p16, List.forall_mem_cons.mpr ⟨lw_p17, List.forall_mem_cons.mpr ⟨lw_p18, List.forall_mem_cons.mpr ⟨lw_p19, List.forall_mem_cons.mpr ⟨lw_p20, List.forall_mem_cons.mpr ⟨lw_p21, List.forall_mem_cons.mpr ⟨lw_p22, List.forall_mem_cons.mpr ⟨lw_p23, List.forall_mem_cons.mpr ⟨lw_p24, List.forall_mem_cons.mpr ⟨lw_p25, List.forall_mem_cons.mpr ⟨lw_p26, List.forall_mem_cons.mpr ⟨lw_p27, List.forall_mem_cons.mpr ⟨lw_p28, List.forall_mem_cons.mpr ⟨lw_p29, List.forall_mem_cons.mpr ⟨lw_p30, List.forall_mem_cons.mpr ⟨lw_p31, fun _ h => absurd h List.not_mem_nil⟩⟩⟩⟩⟩⟩⟩⟩⟩⟩⟩⟩⟩⟩⟩⟩
theorem lw_p32 : lw_okq (⟨"TwoCalendarsModel", "ofTruce", "(II)I"⟩, 39) := ⟨⟨by decide +kernel, by decide +kernel⟩, List.mem_of_getElem? (i := 1149) (by decide +kernel), List.mem_of_getElem? (i := 1429) (by decide +kernel), List.mem_of_getElem? (i := 1430) (by decide +kernel)⟩
theorem lw_p33 : lw_okq (⟨"TwoCalendarsModel", "lay", "()V"⟩, 39) := ⟨⟨by decide +kernel, by decide +kernel⟩, List.mem_of_getElem? (i := 1149) (by decide +kernel), List.mem_of_getElem? (i := 1440) (by decide +kernel), List.mem_of_getElem? (i := 1441) (by decide +kernel)⟩
theorem lw_p34 : lw_okq (⟨"TwoCalendarsModel", "layDates", "(I)V"⟩, 39) := ⟨⟨by decide +kernel, by decide +kernel⟩, List.mem_of_getElem? (i := 1149) (by decide +kernel), List.mem_of_getElem? (i := 1444) (by decide +kernel), List.mem_of_getElem? (i := 1445) (by decide +kernel)⟩
theorem lw_p35 : lw_okq (⟨"TwoCalendarsModel", "layWhy", "(I)V"⟩, 39) := ⟨⟨by decide +kernel, by decide +kernel⟩, List.mem_of_getElem? (i := 1149) (by decide +kernel), List.mem_of_getElem? (i := 1451) (by decide +kernel), List.mem_of_getElem? (i := 1452) (by decide +kernel)⟩
theorem lw_p36 : lw_okq (⟨"TwoCalendarsModel", "weekday", "(II)I"⟩, 39) := ⟨⟨by decide +kernel, by decide +kernel⟩, List.mem_of_getElem? (i := 1149) (by decide +kernel), List.mem_of_getElem? (i := 1455) (by decide +kernel), List.mem_of_getElem? (i := 1456) (by decide +kernel)⟩
theorem lw_p37 : lw_okq (⟨"TwoCalendarsModel", "dateOf", "(III)I"⟩, 39) := ⟨⟨by decide +kernel, by decide +kernel⟩, List.mem_of_getElem? (i := 1149) (by decide +kernel), List.mem_of_getElem? (i := 1462) (by decide +kernel), List.mem_of_getElem? (i := 1463) (by decide +kernel)⟩
theorem lw_p38 : lw_okq (⟨"TwoCalendarsModel", "isDate", "(IJJJ)Z"⟩, 39) := ⟨⟨by decide +kernel, by decide +kernel⟩, List.mem_of_getElem? (i := 1149) (by decide +kernel), List.mem_of_getElem? (i := 1470) (by decide +kernel), List.mem_of_getElem? (i := 1471) (by decide +kernel)⟩
theorem lw_p39 : lw_okq (⟨"TwoCalendarsModel", "dayBy", "(IIII)I"⟩, 39) := ⟨⟨by decide +kernel, by decide +kernel⟩, List.mem_of_getElem? (i := 1149) (by decide +kernel), List.mem_of_getElem? (i := 1474) (by decide +kernel), List.mem_of_getElem? (i := 1475) (by decide +kernel)⟩
theorem lw_p40 : lw_okq (⟨"TwoCalendarsModel", "yearLength", "(II)I"⟩, 39) := ⟨⟨by decide +kernel, by decide +kernel⟩, List.mem_of_getElem? (i := 1149) (by decide +kernel), List.mem_of_getElem? (i := 1478) (by decide +kernel), List.mem_of_getElem? (i := 1479) (by decide +kernel)⟩
theorem lw_p41 : lw_okq (⟨"TwoCalendarsModel", "mayOn", "(II)Z"⟩, 39) := ⟨⟨by decide +kernel, by decide +kernel⟩, List.mem_of_getElem? (i := 1149) (by decide +kernel), List.mem_of_getElem? (i := 1486) (by decide +kernel), List.mem_of_getElem? (i := 1487) (by decide +kernel)⟩
theorem lw_p42 : lw_okq (⟨"TwoCalendarsModel", "isWar", "()Z"⟩, 39) := ⟨⟨by decide +kernel, by decide +kernel⟩, List.mem_of_getElem? (i := 1149) (by decide +kernel), List.mem_of_getElem? (i := 1498) (by decide +kernel), List.mem_of_getElem? (i := 1499) (by decide +kernel)⟩
theorem lw_p43 : lw_okq (⟨"TwoCalendarsModel", "whoOn", "(I)I"⟩, 39) := ⟨⟨by decide +kernel, by decide +kernel⟩, List.mem_of_getElem? (i := 1149) (by decide +kernel), List.mem_of_getElem? (i := 1502) (by decide +kernel), List.mem_of_getElem? (i := 1503) (by decide +kernel)⟩
theorem lw_p44 : lw_okq (⟨"TwoCalendarsModel", "isSet", "(I)Z"⟩, 39) := ⟨⟨by decide +kernel, by decide +kernel⟩, List.mem_of_getElem? (i := 1149) (by decide +kernel), List.mem_of_getElem? (i := 1510) (by decide +kernel), List.mem_of_getElem? (i := 1511) (by decide +kernel)⟩
theorem lw_p45 : lw_okq (⟨"TwoCalendarsModel", "allLands", "()I"⟩, 39) := ⟨⟨by decide +kernel, by decide +kernel⟩, List.mem_of_getElem? (i := 1149) (by decide +kernel), List.mem_of_getElem? (i := 1514) (by decide +kernel), List.mem_of_getElem? (i := 1515) (by decide +kernel)⟩
theorem lw_p46 : lw_okq (⟨"TwoCalendarsModel", "mayAll", "(II)Z"⟩, 39) := ⟨⟨by decide +kernel, by decide +kernel⟩, List.mem_of_getElem? (i := 1149) (by decide +kernel), List.mem_of_getElem? (i := 1518) (by decide +kernel), List.mem_of_getElem? (i := 1519) (by decide +kernel)⟩
theorem lw_p47 : lw_okq (⟨"TwoCalendarsModel", "manyOf", "(III)I"⟩, 39) := ⟨⟨by decide +kernel, by decide +kernel⟩, List.mem_of_getElem? (i := 1149) (by decide +kernel), List.mem_of_getElem? (i := 1529) (by decide +kernel), List.mem_of_getElem? (i := 1530) (by decide +kernel)⟩
def lw_privs_3 : List (MethodName × Nat) := [(⟨"TwoCalendarsModel", "ofTruce", "(II)I"⟩, 39), (⟨"TwoCalendarsModel", "lay", "()V"⟩, 39), (⟨"TwoCalendarsModel", "layDates", "(I)V"⟩, 39), (⟨"TwoCalendarsModel", "layWhy", "(I)V"⟩, 39), (⟨"TwoCalendarsModel", "weekday", "(II)I"⟩, 39), (⟨"TwoCalendarsModel", "dateOf", "(III)I"⟩, 39), (⟨"TwoCalendarsModel", "isDate", "(IJJJ)Z"⟩, 39), (⟨"TwoCalendarsModel", "dayBy", "(IIII)I"⟩, 39), (⟨"TwoCalendarsModel", "yearLength", "(II)I"⟩, 39), (⟨"TwoCalendarsModel", "mayOn", "(II)Z"⟩, 39), (⟨"TwoCalendarsModel", "isWar", "()Z"⟩, 39), (⟨"TwoCalendarsModel", "whoOn", "(I)I"⟩, 39), (⟨"TwoCalendarsModel", "isSet", "(I)Z"⟩, 39), (⟨"TwoCalendarsModel", "allLands", "()I"⟩, 39), (⟨"TwoCalendarsModel", "mayAll", "(II)Z"⟩, 39), (⟨"TwoCalendarsModel", "manyOf", "(III)I"⟩, 39)]
theorem lw_r3 : ∀ q ∈ lw_privs_3, lw_okq q := List.forall_mem_cons.mpr ⟨lw_p32, List.forall_mem_cons.mpr ⟨lw_p33, List.forall_mem_cons.mpr ⟨lw_p34, List.forall_mem_cons.mpr ⟨lw_p35, List.forall_mem_cons.mpr ⟨lw_p36, List.forall_mem_cons.mpr ⟨lw_p37, List.forall_mem_cons.mpr ⟨lw_p38, List.forall_mem_cons.mpr ⟨lw_p39, List.forall_mem_cons.mpr ⟨lw_p40, List.forall_mem_cons.mpr ⟨lw_p41, List.forall_mem_cons.mpr ⟨lw_p42, List.forall_mem_cons.mpr ⟨lw_p43, List.forall_mem_cons.mpr ⟨lw_p44, List.forall_mem_cons.mpr ⟨lw_p45, List.forall_mem_cons.mpr ⟨lw_p46, List.forall_mem_cons.mpr ⟨lw_p47, fun _ h => absurd h List.not_mem_nil⟩⟩⟩⟩⟩⟩⟩⟩⟩⟩⟩⟩⟩⟩⟩⟩
theorem lw_p48 : lw_okq (⟨"TwoCalendarsModel", "findWait", "(III)V"⟩, 39) := ⟨⟨by decide +kernel, by decide +kernel⟩, List.mem_of_getElem? (i := 1149) (by decide +kernel), List.mem_of_getElem? (i := 1537) (by decide +kernel), List.mem_of_getElem? (i := 1538) (by decide +kernel)⟩
theorem lw_p49 : lw_okq (⟨"TwoCalendarsModel", "areTwo", "(II)Z"⟩, 39) := ⟨⟨by decide +kernel, by decide +kernel⟩, List.mem_of_getElem? (i := 1149) (by decide +kernel), List.mem_of_getElem? (i := 1556) (by decide +kernel), List.mem_of_getElem? (i := 1557) (by decide +kernel)⟩
theorem lw_p50 : lw_okq (⟨"TwoCalendarsModel", "isWeekday", "(II)Z"⟩, 39) := ⟨⟨by decide +kernel, by decide +kernel⟩, List.mem_of_getElem? (i := 1149) (by decide +kernel), List.mem_of_getElem? (i := 1560) (by decide +kernel), List.mem_of_getElem? (i := 1561) (by decide +kernel)⟩
theorem lw_p51 : lw_okq (⟨"TwoCalendarsModel", "isCounted", "(II)Z"⟩, 39) := ⟨⟨by decide +kernel, by decide +kernel⟩, List.mem_of_getElem? (i := 1149) (by decide +kernel), List.mem_of_getElem? (i := 1573) (by decide +kernel), List.mem_of_getElem? (i := 1574) (by decide +kernel)⟩
theorem lw_p52 : lw_okq (⟨"TwoCalendarsModel", "areSaints", "(IIIII)Z"⟩, 39) := ⟨⟨by decide +kernel, by decide +kernel⟩, List.mem_of_getElem? (i := 1149) (by decide +kernel), List.mem_of_getElem? (i := 1589) (by decide +kernel), List.mem_of_getElem? (i := 1590) (by decide +kernel)⟩
theorem lw_p53 : lw_okq (⟨"TwoCalendarsModel", "findSaints", "(IIIII)V"⟩, 39) := ⟨⟨by decide +kernel, by decide +kernel⟩, List.mem_of_getElem? (i := 1149) (by decide +kernel), List.mem_of_getElem? (i := 1595) (by decide +kernel), List.mem_of_getElem? (i := 1596) (by decide +kernel)⟩
theorem lw_p54 : lw_okq (⟨"TwoCalendarsModel", "findBridge", "(IIII)V"⟩, 39) := ⟨⟨by decide +kernel, by decide +kernel⟩, List.mem_of_getElem? (i := 1149) (by decide +kernel), List.mem_of_getElem? (i := 1609) (by decide +kernel), List.mem_of_getElem? (i := 1610) (by decide +kernel)⟩
theorem lw_p55 : lw_okq (⟨"TwoCalendarsModel", "asksOrders", "(I)I"⟩, 39) := ⟨⟨by decide +kernel, by decide +kernel⟩, List.mem_of_getElem? (i := 1149) (by decide +kernel), List.mem_of_getElem? (i := 1621) (by decide +kernel), List.mem_of_getElem? (i := 1622) (by decide +kernel)⟩
theorem lw_p56 : lw_okq (⟨"TwoCalendarsModel", "numberAt", "(II)J"⟩, 39) := ⟨⟨by decide +kernel, by decide +kernel⟩, List.mem_of_getElem? (i := 1149) (by decide +kernel), List.mem_of_getElem? (i := 1628) (by decide +kernel), List.mem_of_getElem? (i := 1629) (by decide +kernel)⟩
theorem lw_p57 : lw_okq (⟨"TwoCalendarsModel", "intAt", "(II)I"⟩, 39) := ⟨⟨by decide +kernel, by decide +kernel⟩, List.mem_of_getElem? (i := 1149) (by decide +kernel), List.mem_of_getElem? (i := 1632) (by decide +kernel), List.mem_of_getElem? (i := 1633) (by decide +kernel)⟩
theorem lw_p58 : lw_okq (⟨"TwoCalendarsModel", "dayAt", "(II)I"⟩, 39) := ⟨⟨by decide +kernel, by decide +kernel⟩, List.mem_of_getElem? (i := 1149) (by decide +kernel), List.mem_of_getElem? (i := 1636) (by decide +kernel), List.mem_of_getElem? (i := 1637) (by decide +kernel)⟩
theorem lw_p59 : lw_okq (⟨"TwoCalendarsModel", "asksSeen", "(IIIZ)I"⟩, 39) := ⟨⟨by decide +kernel, by decide +kernel⟩, List.mem_of_getElem? (i := 1149) (by decide +kernel), List.mem_of_getElem? (i := 1657) (by decide +kernel), List.mem_of_getElem? (i := 1658) (by decide +kernel)⟩
theorem lw_p60 : lw_okq (⟨"TwoCalendarsModel", "fitsOf", "(III)I"⟩, 39) := ⟨⟨by decide +kernel, by decide +kernel⟩, List.mem_of_getElem? (i := 1149) (by decide +kernel), List.mem_of_getElem? (i := 1662) (by decide +kernel), List.mem_of_getElem? (i := 1663) (by decide +kernel)⟩
theorem lw_p61 : lw_okq (⟨"TwoCalendarsModel", "isSeen", "(II)Z"⟩, 39) := ⟨⟨by decide +kernel, by decide +kernel⟩, List.mem_of_getElem? (i := 1149) (by decide +kernel), List.mem_of_getElem? (i := 1666) (by decide +kernel), List.mem_of_getElem? (i := 1667) (by decide +kernel)⟩
theorem lw_p62 : lw_okq (⟨"TwoCalendarsModel", "seen", "(III)I"⟩, 39) := ⟨⟨by decide +kernel, by decide +kernel⟩, List.mem_of_getElem? (i := 1149) (by decide +kernel), List.mem_of_getElem? (i := 1670) (by decide +kernel), List.mem_of_getElem? (i := 1671) (by decide +kernel)⟩
theorem lw_p63 : lw_okq (⟨"TwoCalendarsModel", "askOf", "(III)I"⟩, 39) := ⟨⟨by decide +kernel, by decide +kernel⟩, List.mem_of_getElem? (i := 1149) (by decide +kernel), List.mem_of_getElem? (i := 1686) (by decide +kernel), List.mem_of_getElem? (i := 1687) (by decide +kernel)⟩
def lw_privs_4 : List (MethodName × Nat) := [(⟨"TwoCalendarsModel", "findWait", "(III)V"⟩, 39), (⟨"TwoCalendarsModel", "areTwo", "(II)Z"⟩, 39), (⟨"TwoCalendarsModel", "isWeekday", "(II)Z"⟩, 39), (⟨"TwoCalendarsModel", "isCounted", "(II)Z"⟩, 39), (⟨"TwoCalendarsModel", "areSaints", "(IIIII)Z"⟩, 39), (⟨"TwoCalendarsModel", "findSaints", "(IIIII)V"⟩, 39), (⟨"TwoCalendarsModel", "findBridge", "(IIII)V"⟩, 39), (⟨"TwoCalendarsModel", "asksOrders", "(I)I"⟩, 39), (⟨"TwoCalendarsModel", "numberAt", "(II)J"⟩, 39), (⟨"TwoCalendarsModel", "intAt", "(II)I"⟩, 39), (⟨"TwoCalendarsModel", "dayAt", "(II)I"⟩, 39), (⟨"TwoCalendarsModel", "asksSeen", "(IIIZ)I"⟩, 39), (⟨"TwoCalendarsModel", "fitsOf", "(III)I"⟩, 39), (⟨"TwoCalendarsModel", "isSeen", "(II)Z"⟩, 39), (⟨"TwoCalendarsModel", "seen", "(III)I"⟩, 39), (⟨"TwoCalendarsModel", "askOf", "(III)I"⟩, 39)]
theorem lw_r4 : ∀ q ∈ lw_privs_4, lw_okq q := List.forall_mem_cons.mpr ⟨lw_p48, List.forall_mem_cons.mpr ⟨lw_p49, List.forall_mem_cons.mpr ⟨lw_p50, List.forall_mem_cons.mpr ⟨lw_p51, List.forall_mem_cons.mpr ⟨lw_p52, List.forall_mem_cons.mpr ⟨lw_p53, List.forall_mem_cons.mpr ⟨lw_p54, List.forall_mem_cons.mpr ⟨lw_p55, List.forall_mem_cons.mpr ⟨lw_p56, List.forall_mem_cons.mpr ⟨lw_p57, List.forall_mem_cons.mpr ⟨lw_p58, List.forall_mem_cons.mpr ⟨lw_p59, List.forall_mem_cons.mpr ⟨lw_p60, List.forall_mem_cons.mpr ⟨lw_p61, List.forall_mem_cons.mpr ⟨lw_p62, List.forall_mem_cons.mpr ⟨lw_p63, fun _ h => absurd h List.not_mem_nil⟩⟩⟩⟩⟩⟩⟩⟩⟩⟩⟩⟩⟩⟩⟩⟩
theorem lw_p64 : lw_okq (⟨"TwoCalendarsModel", "worstOf", "(IIIII)I"⟩, 39) := ⟨⟨by decide +kernel, by decide +kernel⟩, List.mem_of_getElem? (i := 1149) (by decide +kernel), List.mem_of_getElem? (i := 1690) (by decide +kernel), List.mem_of_getElem? (i := 1691) (by decide +kernel)⟩
theorem lw_p65 : lw_okq (⟨"TwoCalendarsModel", "holdOn", "(I)I"⟩, 39) := ⟨⟨by decide +kernel, by decide +kernel⟩, List.mem_of_getElem? (i := 1149) (by decide +kernel), List.mem_of_getElem? (i := 1702) (by decide +kernel), List.mem_of_getElem? (i := 1703) (by decide +kernel)⟩
theorem lw_p66 : lw_okq (⟨"TwoCalendarsModel", "ageOf", "(III)I"⟩, 39) := ⟨⟨by decide +kernel, by decide +kernel⟩, List.mem_of_getElem? (i := 1149) (by decide +kernel), List.mem_of_getElem? (i := 1718) (by decide +kernel), List.mem_of_getElem? (i := 1719) (by decide +kernel)⟩
theorem lw_p67 : lw_okq (⟨"TwoCalendarsModel", "isClash", "(IIII)Z"⟩, 39) := ⟨⟨by decide +kernel, by decide +kernel⟩, List.mem_of_getElem? (i := 1149) (by decide +kernel), List.mem_of_getElem? (i := 1734) (by decide +kernel), List.mem_of_getElem? (i := 1735) (by decide +kernel)⟩
theorem lw_p68 : lw_okq (⟨"TwoCalendarsModel", "findClash", "(IIII)V"⟩, 39) := ⟨⟨by decide +kernel, by decide +kernel⟩, List.mem_of_getElem? (i := 1149) (by decide +kernel), List.mem_of_getElem? (i := 1738) (by decide +kernel), List.mem_of_getElem? (i := 1739) (by decide +kernel)⟩
theorem lw_p69 : lw_okq (⟨"TwoCalendarsModel", "aloneOf", "(IIII)I"⟩, 39) := ⟨⟨by decide +kernel, by decide +kernel⟩, List.mem_of_getElem? (i := 1149) (by decide +kernel), List.mem_of_getElem? (i := 1750) (by decide +kernel), List.mem_of_getElem? (i := 1751) (by decide +kernel)⟩
theorem lw_p70 : lw_okq (⟨"TwoCalendarsModel", "isBegin", "(IIIII)Z"⟩, 39) := ⟨⟨by decide +kernel, by decide +kernel⟩, List.mem_of_getElem? (i := 1149) (by decide +kernel), List.mem_of_getElem? (i := 1758) (by decide +kernel), List.mem_of_getElem? (i := 1759) (by decide +kernel)⟩
theorem lw_p71 : lw_okq (⟨"TwoCalendarsModel", "beginOf", "(IIIII)I"⟩, 39) := ⟨⟨by decide +kernel, by decide +kernel⟩, List.mem_of_getElem? (i := 1149) (by decide +kernel), List.mem_of_getElem? (i := 1763) (by decide +kernel), List.mem_of_getElem? (i := 1764) (by decide +kernel)⟩
theorem lw_p72 : lw_okq (⟨"TwoCalendarsModel", "isGame", "(IIII)Z"⟩, 39) := ⟨⟨by decide +kernel, by decide +kernel⟩, List.mem_of_getElem? (i := 1149) (by decide +kernel), List.mem_of_getElem? (i := 1775) (by decide +kernel), List.mem_of_getElem? (i := 1776) (by decide +kernel)⟩
theorem lw_p73 : lw_okq (⟨"TwoCalendarsModel", "play", "(III)V"⟩, 39) := ⟨⟨by decide +kernel, by decide +kernel⟩, List.mem_of_getElem? (i := 1149) (by decide +kernel), List.mem_of_getElem? (i := 1780) (by decide +kernel), List.mem_of_getElem? (i := 1781) (by decide +kernel)⟩
theorem lw_p74 : lw_okq (⟨"TwoCalendarsModel", "copy", "([I[I)V"⟩, 39) := ⟨⟨by decide +kernel, by decide +kernel⟩, List.mem_of_getElem? (i := 1149) (by decide +kernel), List.mem_of_getElem? (i := 1784) (by decide +kernel), List.mem_of_getElem? (i := 1785) (by decide +kernel)⟩
theorem lw_p75 : lw_okq (⟨"TwoCalendarsModel", "keepChange", "(II)V"⟩, 39) := ⟨⟨by decide +kernel, by decide +kernel⟩, List.mem_of_getElem? (i := 1149) (by decide +kernel), List.mem_of_getElem? (i := 1808) (by decide +kernel), List.mem_of_getElem? (i := 1809) (by decide +kernel)⟩
theorem lw_p76 : lw_okq (⟨"TwoCalendarsModel", "goRain", "(JIII)V"⟩, 39) := ⟨⟨by decide +kernel, by decide +kernel⟩, List.mem_of_getElem? (i := 1149) (by decide +kernel), List.mem_of_getElem? (i := 1833) (by decide +kernel), List.mem_of_getElem? (i := 1834) (by decide +kernel)⟩
def lw_privs_5 : List (MethodName × Nat) := [(⟨"TwoCalendarsModel", "worstOf", "(IIIII)I"⟩, 39), (⟨"TwoCalendarsModel", "holdOn", "(I)I"⟩, 39), (⟨"TwoCalendarsModel", "ageOf", "(III)I"⟩, 39), (⟨"TwoCalendarsModel", "isClash", "(IIII)Z"⟩, 39), (⟨"TwoCalendarsModel", "findClash", "(IIII)V"⟩, 39), (⟨"TwoCalendarsModel", "aloneOf", "(IIII)I"⟩, 39), (⟨"TwoCalendarsModel", "isBegin", "(IIIII)Z"⟩, 39), (⟨"TwoCalendarsModel", "beginOf", "(IIIII)I"⟩, 39), (⟨"TwoCalendarsModel", "isGame", "(IIII)Z"⟩, 39), (⟨"TwoCalendarsModel", "play", "(III)V"⟩, 39), (⟨"TwoCalendarsModel", "copy", "([I[I)V"⟩, 39), (⟨"TwoCalendarsModel", "keepChange", "(II)V"⟩, 39), (⟨"TwoCalendarsModel", "goRain", "(JIII)V"⟩, 39)]
theorem lw_r5 : ∀ q ∈ lw_privs_5, lw_okq q := List.forall_mem_cons.mpr ⟨lw_p64, List.forall_mem_cons.mpr ⟨lw_p65, List.forall_mem_cons.mpr ⟨lw_p66, List.forall_mem_cons.mpr ⟨lw_p67, List.forall_mem_cons.mpr ⟨lw_p68, List.forall_mem_cons.mpr ⟨lw_p69, List.forall_mem_cons.mpr ⟨lw_p70, List.forall_mem_cons.mpr ⟨lw_p71, List.forall_mem_cons.mpr ⟨lw_p72, List.forall_mem_cons.mpr ⟨lw_p73, List.forall_mem_cons.mpr ⟨lw_p74, List.forall_mem_cons.mpr ⟨lw_p75, List.forall_mem_cons.mpr ⟨lw_p76, fun _ h => absurd h List.not_mem_nil⟩⟩⟩⟩⟩⟩⟩⟩⟩⟩⟩⟩⟩
def lw_privs : List (MethodName × Nat) := lw_privs_1 ++ (lw_privs_2 ++ (lw_privs_3 ++ (lw_privs_4 ++ (lw_privs_5))))
def lw_tbl : List Cond := k2_sels lw_privs ++ tables_1
theorem lw_privs_ok : ∀ q ∈ lw_privs, lw_okq q := by
  show ∀ q ∈ lw_privs_1 ++ (lw_privs_2 ++ (lw_privs_3 ++ (lw_privs_4 ++ (lw_privs_5)))), lw_okq q
  exact List.forall_mem_append.mpr ⟨lw_r1, List.forall_mem_append.mpr ⟨lw_r2, List.forall_mem_append.mpr ⟨lw_r3, List.forall_mem_append.mpr ⟨lw_r4, lw_r5⟩⟩⟩⟩
end
section
def RX0 : String := "TwoCalendars$Almanac"
def TX0 : u_T := fun k => match k with
  | 0 => ("TwoCalendars$Almanac", "dates", "[I", true)
  | 1 => ("TwoCalendars$Almanac", "reasons", "[B", true)
  | 2 => ("TwoCalendars$Almanac", "fighters", "[B", true)
  | 3 => ("TwoCalendars$Almanac", "datesStale", "Z", false)
  | 4 => ("TwoCalendars$Almanac", "reasonsStale", "I", false)
  | 5 => ("TwoCalendars$Almanac", "waitLength", "I", false)
  | 6 => ("TwoCalendars$Almanac", "waitStart", "I", false)
  | 7 => ("TwoCalendars$Almanac", "bestDay", "I", false)
  | _ => ("TwoCalendars$Almanac", "mostAlone", "I", false)
def tyX0 : Nat → FieldType := fun k => match k with
  | 0 => .array .int
  | 1 => .array .byte
  | 2 => .array .byte
  | 3 => .boolean
  | 4 => .int
  | 5 => .int
  | 6 => .int
  | 7 => .int
  | _ => .int
theorem nmX0 : ∀ a, a < 9 → ∀ b, b < 9 → a ≠ b → (TX0 a).2.1 ≠ (TX0 b).2.1 := by decide +kernel
theorem tyX0_ok : ∀ k, k < 9 → parseFieldDescriptor (TX0 k).2.2.1 = some (tyX0 k) := by decide +kernel
abbrev cX0_init : ByteArray := prog_2_method_1_code
def yX0_init : MethodName := ⟨RX0, "<init>", "()V"⟩
abbrev cX0_forgetAll : ByteArray := prog_2_method_2_code
def yX0_forgetAll : MethodName := ⟨RX0, "forgetAll", "()V"⟩
abbrev cX0_forgetReasons : ByteArray := prog_2_method_3_code
def yX0_forgetReasons : MethodName := ⟨RX0, "forgetReasons", "(I)V"⟩
abbrev cX0_bringUpToDate : ByteArray := prog_2_method_4_code
def yX0_bringUpToDate : MethodName := ⟨RX0, "bringUpToDate", "(LTwoCalendars$War;)V"⟩
abbrev cX0_fillDates : ByteArray := prog_2_method_5_code
def yX0_fillDates : MethodName := ⟨RX0, "fillDates", "(LTwoCalendars$Land;I)V"⟩
abbrev cX0_fillReasons : ByteArray := prog_2_method_6_code
def yX0_fillReasons : MethodName := ⟨RX0, "fillReasons", "(LTwoCalendars$War;I)V"⟩
abbrev cX0_markFeast : ByteArray := prog_2_method_7_code
def yX0_markFeast : MethodName := ⟨RX0, "markFeast", "(LTwoCalendars$Land;IIII)V"⟩
abbrev cX0_markReason : ByteArray := prog_2_method_8_code
def yX0_markReason : MethodName := ⟨RX0, "markReason", "(IIII)V"⟩
abbrev cX0_fillFighters : ByteArray := prog_2_method_9_code
def yX0_fillFighters : MethodName := ⟨RX0, "fillFighters", "(I)V"⟩
abbrev cX0_reason : ByteArray := prog_2_method_10_code
def yX0_reason : MethodName := ⟨RX0, "reason", "(II)I"⟩
abbrev cX0_part : ByteArray := prog_2_method_11_code
def yX0_part : MethodName := ⟨RX0, "part", "(III)I"⟩
abbrev cX0_monthDay : ByteArray := prog_2_method_12_code
def yX0_monthDay : MethodName := ⟨RX0, "monthDay", "(II)I"⟩
abbrev cX0_allFight : ByteArray := prog_2_method_13_code
def yX0_allFight : MethodName := ⟨RX0, "allFight", "(II)Z"⟩
abbrev cX0_fightingDays : ByteArray := prog_2_method_14_code
def yX0_fightingDays : MethodName := ⟨RX0, "fightingDays", "(III)I"⟩
abbrev cX0_seekWait : ByteArray := prog_2_method_15_code
def yX0_seekWait : MethodName := ⟨RX0, "seekWait", "(IIII)V"⟩
abbrev cX0_ageBy : ByteArray := prog_2_method_16_code
def yX0_ageBy : MethodName := ⟨RX0, "ageBy", "(III)I"⟩
abbrev cX0_clashDay : ByteArray := prog_2_method_17_code
def yX0_clashDay : MethodName := ⟨RX0, "clashDay", "(IIII)I"⟩
abbrev cX0_aloneOn : ByteArray := prog_2_method_18_code
def yX0_aloneOn : MethodName := ⟨RX0, "aloneOn", "(III)I"⟩
abbrev cX0_daysAlone : ByteArray := prog_2_method_19_code
def yX0_daysAlone : MethodName := ⟨RX0, "daysAlone", "(IIII)I"⟩
abbrev cX0_seekBeginning : ByteArray := prog_2_method_20_code
def yX0_seekBeginning : MethodName := ⟨RX0, "seekBeginning", "(IIIII)V"⟩
def RX1 : String := "TwoCalendars$Land"
def TX1 : u_T := fun k => match k with
  | 0 => ("TwoCalendars$Land", "from", "I", false)
  | 1 => ("TwoCalendars$Land", "week", "I", false)
  | 2 => ("TwoCalendars$Land", "rests", "I", false)
  | 3 => ("TwoCalendars$Land", "months", "I", false)
  | 4 => ("TwoCalendars$Land", "leap", "I", false)
  | 5 => ("TwoCalendars$Land", "longMonth", "I", false)
  | 6 => ("TwoCalendars$Land", "adds", "I", false)
  | 7 => ("TwoCalendars$Land", "yearDays", "I", false)
  | _ => ("TwoCalendars$Land", "lengths", "[I", true)
def tyX1 : Nat → FieldType := fun k => match k with
  | 0 => .int
  | 1 => .int
  | 2 => .int
  | 3 => .int
  | 4 => .int
  | 5 => .int
  | 6 => .int
  | 7 => .int
  | _ => .array .int
theorem nmX1 : ∀ a, a < 9 → ∀ b, b < 9 → a ≠ b → (TX1 a).2.1 ≠ (TX1 b).2.1 := by decide +kernel
theorem tyX1_ok : ∀ k, k < 9 → parseFieldDescriptor (TX1 k).2.2.1 = some (tyX1 k) := by decide +kernel
abbrev cX1_init : ByteArray := prog_3_method_1_code
def yX1_init : MethodName := ⟨RX1, "<init>", "()V"⟩
abbrev cX1_clear : ByteArray := prog_3_method_2_code
def yX1_clear : MethodName := ⟨RX1, "clear", "()V"⟩
abbrev cX1_copyOf : ByteArray := prog_3_method_3_code
def yX1_copyOf : MethodName := ⟨RX1, "copyOf", "(LTwoCalendars$Land;)V"⟩
abbrev cX1_appendMonth : ByteArray := prog_3_method_4_code
def yX1_appendMonth : MethodName := ⟨RX1, "appendMonth", "(I)V"⟩
abbrev cX1_hasWeekday : ByteArray := prog_3_method_5_code
def yX1_hasWeekday : MethodName := ⟨RX1, "hasWeekday", "(I)Z"⟩
abbrev cX1_isLeapYear : ByteArray := prog_3_method_6_code
def yX1_isLeapYear : MethodName := ⟨RX1, "isLeapYear", "(I)Z"⟩
abbrev cX1_lengthIn : ByteArray := prog_3_method_7_code
def yX1_lengthIn : MethodName := ⟨RX1, "lengthIn", "(II)I"⟩
abbrev cX1_leapCycle : ByteArray := prog_3_method_8_code
def yX1_leapCycle : MethodName := ⟨RX1, "leapCycle", "()I"⟩
abbrev cX1_dayOn : ByteArray := prog_3_method_9_code
def yX1_dayOn : MethodName := ⟨RX1, "dayOn", "(III)I"⟩
def RX2 : String := "TwoCalendars$Orders"
def TX2 : u_T := fun k => match k with
  | 0 => ("TwoCalendars$Orders", "lands", "[I", true)
  | 1 => ("TwoCalendars$Orders", "days", "[I", true)
  | _ => ("TwoCalendars$Orders", "size", "I", false)
def tyX2 : Nat → FieldType := fun k => match k with
  | 0 => .array .int
  | 1 => .array .int
  | _ => .int
theorem nmX2 : ∀ a, a < 3 → ∀ b, b < 3 → a ≠ b → (TX2 a).2.1 ≠ (TX2 b).2.1 := by decide +kernel
theorem tyX2_ok : ∀ k, k < 3 → parseFieldDescriptor (TX2 k).2.2.1 = some (tyX2 k) := by decide +kernel
abbrev cX2_init : ByteArray := prog_4_method_1_code
def yX2_init : MethodName := ⟨RX2, "<init>", "()V"⟩
abbrev cX2_read : ByteArray := prog_4_method_2_code
def yX2_read : MethodName := ⟨RX2, "read", "(LTwoCalendars$Row;LTwoCalendars$War;)Z"⟩
abbrev cX2_placeOfOldest : ByteArray := prog_4_method_3_code
def yX2_placeOfOldest : MethodName := ⟨RX2, "placeOfOldest", "()I"⟩
abbrev cX2_earlierThan : ByteArray := prog_4_method_4_code
def yX2_earlierThan : MethodName := ⟨RX2, "earlierThan", "(I)I"⟩
abbrev cX2_daysApart : ByteArray := prog_4_method_5_code
def yX2_daysApart : MethodName := ⟨RX2, "daysApart", "()I"⟩
abbrev cX2_datedAtRest : ByteArray := prog_4_method_6_code
def yX2_datedAtRest : MethodName := ⟨RX2, "datedAtRest", "(LTwoCalendars$Almanac;)I"⟩
def RX3 : String := "TwoCalendars$Reader"
def TX3 : u_T := fun k => match k with
  | 0 => ("TwoCalendars$Reader", "bytes", "[B", false)
  | 1 => ("TwoCalendars$Reader", "size", "I", false)
  | 2 => ("TwoCalendars$Reader", "kind", "I", false)
  | 3 => ("TwoCalendars$Reader", "start", "I", false)
  | 4 => ("TwoCalendars$Reader", "stop", "I", false)
  | 5 => ("TwoCalendars$Reader", "value", "I", false)
  | 6 => ("TwoCalendars$Reader", "fault", "I", false)
  | _ => ("TwoCalendars$Reader", "faultAt", "I", false)
def tyX3 : Nat → FieldType := fun k => match k with
  | 0 => .array .byte
  | 1 => .int
  | 2 => .int
  | 3 => .int
  | 4 => .int
  | 5 => .int
  | 6 => .int
  | _ => .int
theorem nmX3 : ∀ a, a < 8 → ∀ b, b < 8 → a ≠ b → (TX3 a).2.1 ≠ (TX3 b).2.1 := by decide +kernel
theorem tyX3_ok : ∀ k, k < 8 → parseFieldDescriptor (TX3 k).2.2.1 = some (tyX3 k) := by decide +kernel
abbrev cX3_init : ByteArray := prog_5_method_1_code
def yX3_init : MethodName := ⟨RX3, "<init>", "()V"⟩
abbrev cX3_read : ByteArray := prog_5_method_2_code
def yX3_read : MethodName := ⟨RX3, "read", "(LTwoCalendars$Tape;LTwoCalendars$War;)V"⟩
abbrev cX3_readLine : ByteArray := prog_5_method_3_code
def yX3_readLine : MethodName := ⟨RX3, "readLine", "(LTwoCalendars$War;)V"⟩
abbrev cX3_startLine : ByteArray := prog_5_method_4_code
def yX3_startLine : MethodName := ⟨RX3, "startLine", "(Z)V"⟩
abbrev cX3_readRain : ByteArray := prog_5_method_5_code
def yX3_readRain : MethodName := ⟨RX3, "readRain", "(LTwoCalendars$War;)V"⟩
abbrev cX3_readLand : ByteArray := prog_5_method_6_code
def yX3_readLand : MethodName := ⟨RX3, "readLand", "(LTwoCalendars$War;)V"⟩
abbrev cX3_readMonths : ByteArray := prog_5_method_7_code
def yX3_readMonths : MethodName := ⟨RX3, "readMonths", "(LTwoCalendars$Land;)V"⟩
abbrev cX3_readFeast : ByteArray := prog_5_method_8_code
def yX3_readFeast : MethodName := ⟨RX3, "readFeast", "(LTwoCalendars$War;)V"⟩
abbrev cX3_readTruce : ByteArray := prog_5_method_9_code
def yX3_readTruce : MethodName := ⟨RX3, "readTruce", "(LTwoCalendars$War;)V"⟩
abbrev cX3_needWord : ByteArray := prog_5_method_10_code
def yX3_needWord : MethodName := ⟨RX3, "needWord", "(Ljava/lang/String;)V"⟩
abbrev cX3_needNumber : ByteArray := prog_5_method_11_code
def yX3_needNumber : MethodName := ⟨RX3, "needNumber", "(II)I"⟩
abbrev cX3_refuse : ByteArray := prog_5_method_12_code
def yX3_refuse : MethodName := ⟨RX3, "refuse", "(I)V"⟩
abbrev cX3_isWord : ByteArray := prog_5_method_13_code
def yX3_isWord : MethodName := ⟨RX3, "isWord", "(Ljava/lang/String;)Z"⟩
abbrev cX3_step : ByteArray := prog_5_method_14_code
def yX3_step : MethodName := ⟨RX3, "step", "()V"⟩
def RX4 : String := "TwoCalendars$Row"
def TX4 : u_T := fun k => match k with
  | 0 => ("TwoCalendars$Row", "numbers", "[J", true)
  | 1 => ("TwoCalendars$Row", "made", "Z", false)
  | 2 => ("TwoCalendars$Row", "width", "I", false)
  | _ => ("TwoCalendars$Row", "size", "I", false)
def tyX4 : Nat → FieldType := fun k => match k with
  | 0 => .array .long
  | 1 => .boolean
  | 2 => .int
  | _ => .int
theorem nmX4 : ∀ a, a < 4 → ∀ b, b < 4 → a ≠ b → (TX4 a).2.1 ≠ (TX4 b).2.1 := by decide +kernel
theorem tyX4_ok : ∀ k, k < 4 → parseFieldDescriptor (TX4 k).2.2.1 = some (tyX4 k) := by decide +kernel
abbrev cX4_init : ByteArray := prog_6_method_1_code
def yX4_init : MethodName := ⟨RX4, "<init>", "()V"⟩
abbrev cX4_renew : ByteArray := prog_6_method_2_code
def yX4_renew : MethodName := ⟨RX4, "renew", "(II)V"⟩
abbrev cX4_cut : ByteArray := prog_6_method_3_code
def yX4_cut : MethodName := ⟨RX4, "cut", "(J)J"⟩
abbrev cX4_hasStretch : ByteArray := prog_6_method_4_code
def yX4_hasStretch : MethodName := ⟨RX4, "hasStretch", "(II)Z"⟩
abbrev cX4_areSmall : ByteArray := prog_6_method_5_code
def yX4_areSmall : MethodName := ⟨RX4, "areSmall", "(II)Z"⟩
def RX5 : String := "TwoCalendars$Saints"
def TX5 : u_T := fun k => match k with
  | 0 => ("TwoCalendars$Saints", "open", "[Z", true)
  | 1 => ("TwoCalendars$Saints", "fewest", "I", false)
  | _ => ("TwoCalendars$Saints", "begun", "J", false)
def tyX5 : Nat → FieldType := fun k => match k with
  | 0 => .array .boolean
  | 1 => .int
  | _ => .long
theorem nmX5 : ∀ a, a < 3 → ∀ b, b < 3 → a ≠ b → (TX5 a).2.1 ≠ (TX5 b).2.1 := by decide +kernel
theorem tyX5_ok : ∀ k, k < 3 → parseFieldDescriptor (TX5 k).2.2.1 = some (tyX5 k) := by decide +kernel
abbrev cX5_init : ByteArray := prog_7_method_1_code
def yX5_init : MethodName := ⟨RX5, "<init>", "()V"⟩
abbrev cX5_seek : ByteArray := prog_7_method_2_code
def yX5_seek : MethodName := ⟨RX5, "seek", "(LTwoCalendars$Land;LTwoCalendars$Almanac;IIIII)V"⟩
abbrev cX5_openDays : ByteArray := prog_7_method_3_code
def yX5_openDays : MethodName := ⟨RX5, "openDays", "(IILTwoCalendars$Almanac;I)V"⟩
abbrev cX5_cover : ByteArray := prog_7_method_4_code
def yX5_cover : MethodName := ⟨RX5, "cover", "(II)V"⟩
def RX6 : String := "TwoCalendars$Seen"
def TX6 : u_T := fun k => match k with
  | 0 => ("TwoCalendars$Seen", "days", "[I", true)
  | 1 => ("TwoCalendars$Seen", "size", "I", false)
  | 2 => ("TwoCalendars$Seen", "answers", "[I", true)
  | 3 => ("TwoCalendars$Seen", "question", "I", false)
  | _ => ("TwoCalendars$Seen", "left", "I", false)
def tyX6 : Nat → FieldType := fun k => match k with
  | 0 => .array .int
  | 1 => .int
  | 2 => .array .int
  | 3 => .int
  | _ => .int
theorem nmX6 : ∀ a, a < 5 → ∀ b, b < 5 → a ≠ b → (TX6 a).2.1 ≠ (TX6 b).2.1 := by decide +kernel
theorem tyX6_ok : ∀ k, k < 5 → parseFieldDescriptor (TX6 k).2.2.1 = some (tyX6 k) := by decide +kernel
abbrev cX6_init : ByteArray := prog_8_method_1_code
def yX6_init : MethodName := ⟨RX6, "<init>", "()V"⟩
abbrev cX6_isTold : ByteArray := prog_8_method_2_code
def yX6_isTold : MethodName := ⟨RX6, "isTold", "(LTwoCalendars$Row;I)Z"⟩
abbrev cX6_gather : ByteArray := prog_8_method_3_code
def yX6_gather : MethodName := ⟨RX6, "gather", "(LTwoCalendars$Row;LTwoCalendars$Almanac;II)V"⟩
abbrev cX6_fitsAll : ByteArray := prog_8_method_4_code
def yX6_fitsAll : MethodName := ⟨RX6, "fitsAll", "(LTwoCalendars$Row;LTwoCalendars$Almanac;I)Z"⟩
abbrev cX6_fightersOnAll : ByteArray := prog_8_method_5_code
def yX6_fightersOnAll : MethodName := ⟨RX6, "fightersOnAll", "(LTwoCalendars$Almanac;)I"⟩
abbrev cX6_fightersOnSome : ByteArray := prog_8_method_6_code
def yX6_fightersOnSome : MethodName := ⟨RX6, "fightersOnSome", "(LTwoCalendars$Almanac;)I"⟩
abbrev cX6_seekQuestion : ByteArray := prog_8_method_7_code
def yX6_seekQuestion : MethodName := ⟨RX6, "seekQuestion", "(LTwoCalendars$Almanac;I)V"⟩
abbrev cX6_tryQuestion : ByteArray := prog_8_method_8_code
def yX6_tryQuestion : MethodName := ⟨RX6, "tryQuestion", "(LTwoCalendars$Almanac;II)V"⟩
def RX7 : String := "TwoCalendars$Stones"
def TX7 : u_T := fun k => match k with
  | 0 => ("TwoCalendars$Stones", "turns", "[I", true)
  | 1 => ("TwoCalendars$Stones", "turnCount", "I", false)
  | 2 => ("TwoCalendars$Stones", "winners", "[I", true)
  | 3 => ("TwoCalendars$Stones", "winner", "I", false)
  | _ => ("TwoCalendars$Stones", "firstTake", "I", false)
def tyX7 : Nat → FieldType := fun k => match k with
  | 0 => .array .int
  | 1 => .int
  | 2 => .array .int
  | 3 => .int
  | _ => .int
theorem nmX7 : ∀ a, a < 5 → ∀ b, b < 5 → a ≠ b → (TX7 a).2.1 ≠ (TX7 b).2.1 := by decide +kernel
theorem tyX7_ok : ∀ k, k < 5 → parseFieldDescriptor (TX7 k).2.2.1 = some (tyX7 k) := by decide +kernel
abbrev cX7_init : ByteArray := prog_9_method_1_code
def yX7_init : MethodName := ⟨RX7, "<init>", "()V"⟩
abbrev cX7_play : ByteArray := prog_9_method_2_code
def yX7_play : MethodName := ⟨RX7, "play", "(LTwoCalendars$Almanac;IIII)V"⟩
abbrev cX7_listTurns : ByteArray := prog_9_method_3_code
def yX7_listTurns : MethodName := ⟨RX7, "listTurns", "(LTwoCalendars$Almanac;IIII)V"⟩
abbrev cX7_bestTake : ByteArray := prog_9_method_4_code
def yX7_bestTake : MethodName := ⟨RX7, "bestTake", "(II)I"⟩
abbrev cX7_worth : ByteArray := prog_9_method_5_code
def yX7_worth : MethodName := ⟨RX7, "worth", "(III)I"⟩
abbrev cX7_winnerOf : ByteArray := prog_9_method_6_code
def yX7_winnerOf : MethodName := ⟨RX7, "winnerOf", "(III)I"⟩
def RX8 : String := "TwoCalendars$Tape"
def TX8 : u_T := fun k => match k with
  | 0 => ("TwoCalendars$Tape", "bytes", "[B", true)
  | _ => ("TwoCalendars$Tape", "size", "I", false)
def tyX8 : Nat → FieldType := fun k => match k with
  | 0 => .array .byte
  | _ => .int
theorem nmX8 : ∀ a, a < 2 → ∀ b, b < 2 → a ≠ b → (TX8 a).2.1 ≠ (TX8 b).2.1 := by decide +kernel
theorem tyX8_ok : ∀ k, k < 2 → parseFieldDescriptor (TX8 k).2.2.1 = some (tyX8 k) := by decide +kernel
abbrev cX8_init : ByteArray := prog_10_method_1_code
def yX8_init : MethodName := ⟨RX8, "<init>", "()V"⟩
abbrev cX8_append : ByteArray := prog_10_method_2_code
def yX8_append : MethodName := ⟨RX8, "append", "(I)V"⟩
def RX9 : String := "TwoCalendars$War"
def TX9 : u_T := fun k => match k with
  | 0 => ("TwoCalendars$War", "lines", "I", false)
  | 1 => ("TwoCalendars$War", "rain", "I", false)
  | 2 => ("TwoCalendars$War", "landCount", "I", false)
  | 3 => ("TwoCalendars$War", "feastCount", "I", false)
  | 4 => ("TwoCalendars$War", "truceCount", "I", false)
  | 5 => ("TwoCalendars$War", "changeCount", "I", false)
  | 6 => ("TwoCalendars$War", "lands", "[LTwoCalendars$Land;", true)
  | 7 => ("TwoCalendars$War", "feasts", "[I", true)
  | 8 => ("TwoCalendars$War", "truces", "[I", true)
  | _ => ("TwoCalendars$War", "changes", "[I", true)
def tyX9 : Nat → FieldType := fun k => match k with
  | 0 => .int
  | 1 => .int
  | 2 => .int
  | 3 => .int
  | 4 => .int
  | 5 => .int
  | 6 => .array (.object "TwoCalendars$Land")
  | 7 => .array .int
  | 8 => .array .int
  | _ => .array .int
theorem nmX9 : ∀ a, a < 10 → ∀ b, b < 10 → a ≠ b → (TX9 a).2.1 ≠ (TX9 b).2.1 := by decide +kernel
theorem tyX9_ok : ∀ k, k < 10 → parseFieldDescriptor (TX9 k).2.2.1 = some (tyX9 k) := by decide +kernel
abbrev cX9_init : ByteArray := prog_11_method_1_code
def yX9_init : MethodName := ⟨RX9, "<init>", "()V"⟩
abbrev cX9_clear : ByteArray := prog_11_method_2_code
def yX9_clear : MethodName := ⟨RX9, "clear", "()V"⟩
abbrev cX9_copyOf : ByteArray := prog_11_method_3_code
def yX9_copyOf : MethodName := ⟨RX9, "copyOf", "(LTwoCalendars$War;)V"⟩
abbrev cX9_hasLand : ByteArray := prog_11_method_4_code
def yX9_hasLand : MethodName := ⟨RX9, "hasLand", "(I)Z"⟩
abbrev cX9_hasMonth : ByteArray := prog_11_method_5_code
def yX9_hasMonth : MethodName := ⟨RX9, "hasMonth", "(II)Z"⟩
abbrev cX9_hasPlainDate : ByteArray := prog_11_method_6_code
def yX9_hasPlainDate : MethodName := ⟨RX9, "hasPlainDate", "(III)Z"⟩
abbrev cX9_dayOfDate : ByteArray := prog_11_method_7_code
def yX9_dayOfDate : MethodName := ⟨RX9, "dayOfDate", "(IIII)I"⟩
abbrev cX9_insertFeast : ByteArray := prog_11_method_8_code
def yX9_insertFeast : MethodName := ⟨RX9, "insertFeast", "(IIIII)V"⟩
abbrev cX9_removeFeast : ByteArray := prog_11_method_9_code
def yX9_removeFeast : MethodName := ⟨RX9, "removeFeast", "(I)V"⟩
abbrev cX9_latestFeastOf : ByteArray := prog_11_method_10_code
def yX9_latestFeastOf : MethodName := ⟨RX9, "latestFeastOf", "(I)I"⟩
abbrev cX9_appendTruce : ByteArray := prog_11_method_11_code
def yX9_appendTruce : MethodName := ⟨RX9, "appendTruce", "(III)V"⟩
abbrev cX9_trucesOn : ByteArray := prog_11_method_12_code
def yX9_trucesOn : MethodName := ⟨RX9, "trucesOn", "(I)I"⟩
abbrev cX9_noteFounded : ByteArray := prog_11_method_13_code
def yX9_noteFounded : MethodName := ⟨RX9, "noteFounded", "()V"⟩
abbrev cX9_noteGranted : ByteArray := prog_11_method_14_code
def yX9_noteGranted : MethodName := ⟨RX9, "noteGranted", "()V"⟩
abbrev cX9_noteEnded : ByteArray := prog_11_method_15_code
def yX9_noteEnded : MethodName := ⟨RX9, "noteEnded", "(I)V"⟩
abbrev cX9_noteChange : ByteArray := prog_11_method_16_code
def yX9_noteChange : MethodName := ⟨RX9, "noteChange", "(II)V"⟩
abbrev cX9_takeBackLatest : ByteArray := prog_11_method_17_code
def yX9_takeBackLatest : MethodName := ⟨RX9, "takeBackLatest", "()I"⟩
def RX10 : String := "TwoCalendars"
def TX10 : u_T := fun k => match k with
  | 0 => ("TwoCalendars", "tape", "LTwoCalendars$Tape;", true)
  | 1 => ("TwoCalendars", "reader", "LTwoCalendars$Reader;", true)
  | 2 => ("TwoCalendars", "current", "LTwoCalendars$War;", false)
  | 3 => ("TwoCalendars", "spare", "LTwoCalendars$War;", false)
  | 4 => ("TwoCalendars", "images", "[LTwoCalendars$War;", true)
  | 5 => ("TwoCalendars", "imaged", "[Z", true)
  | 6 => ("TwoCalendars", "rows", "[LTwoCalendars$Row;", true)
  | 7 => ("TwoCalendars", "almanac", "LTwoCalendars$Almanac;", true)
  | 8 => ("TwoCalendars", "patrons", "LTwoCalendars$Saints;", true)
  | 9 => ("TwoCalendars", "orders", "LTwoCalendars$Orders;", true)
  | 10 => ("TwoCalendars", "sights", "LTwoCalendars$Seen;", true)
  | 11 => ("TwoCalendars", "stones", "LTwoCalendars$Stones;", true)
  | 12 => ("TwoCalendars", "latestFault", "I", false)
  | _ => ("TwoCalendars", "faultPlace", "I", false)
def tyX10 : Nat → FieldType := fun k => match k with
  | 0 => .object "TwoCalendars$Tape"
  | 1 => .object "TwoCalendars$Reader"
  | 2 => .object "TwoCalendars$War"
  | 3 => .object "TwoCalendars$War"
  | 4 => .array (.object "TwoCalendars$War")
  | 5 => .array .boolean
  | 6 => .array (.object "TwoCalendars$Row")
  | 7 => .object "TwoCalendars$Almanac"
  | 8 => .object "TwoCalendars$Saints"
  | 9 => .object "TwoCalendars$Orders"
  | 10 => .object "TwoCalendars$Seen"
  | 11 => .object "TwoCalendars$Stones"
  | 12 => .int
  | _ => .int
theorem nmX10 : ∀ a, a < 14 → ∀ b, b < 14 → a ≠ b → (TX10 a).2.1 ≠ (TX10 b).2.1 := by decide +kernel
theorem tyX10_ok : ∀ k, k < 14 → parseFieldDescriptor (TX10 k).2.2.1 = some (tyX10 k) := by decide +kernel
abbrev cX10_init : ByteArray := prog_1_method_1_code
def yX10_init : MethodName := ⟨RX10, "<init>", "()V"⟩
abbrev cX10_feed : ByteArray := prog_1_method_2_code
def yX10_feed : MethodName := ⟨RX10, "feed", "(IIIII)I"⟩
abbrev cX10_end : ByteArray := prog_1_method_3_code
def yX10_end : MethodName := ⟨RX10, "end", "(I)I"⟩
abbrev cX10_war : ByteArray := prog_1_method_4_code
def yX10_war : MethodName := ⟨RX10, "war", "()I"⟩
abbrev cX10_fault : ByteArray := prog_1_method_5_code
def yX10_fault : MethodName := ⟨RX10, "fault", "(I)I"⟩
abbrev cX10_land : ByteArray := prog_1_method_6_code
def yX10_land : MethodName := ⟨RX10, "land", "(II)I"⟩
abbrev cX10_month : ByteArray := prog_1_method_7_code
def yX10_month : MethodName := ⟨RX10, "month", "(III)I"⟩
abbrev cX10_feast : ByteArray := prog_1_method_8_code
def yX10_feast : MethodName := ⟨RX10, "feast", "(II)I"⟩
abbrev cX10_truce : ByteArray := prog_1_method_9_code
def yX10_truce : MethodName := ⟨RX10, "truce", "(II)I"⟩
abbrev cX10_date : ByteArray := prog_1_method_10_code
def yX10_date : MethodName := ⟨RX10, "date", "(III)I"⟩
abbrev cX10_day : ByteArray := prog_1_method_11_code
def yX10_day : MethodName := ⟨RX10, "day", "(IIII)I"⟩
abbrev cX10_may : ByteArray := prog_1_method_12_code
def yX10_may : MethodName := ⟨RX10, "may", "(II)I"⟩
abbrev cX10_why : ByteArray := prog_1_method_13_code
def yX10_why : MethodName := ⟨RX10, "why", "(II)I"⟩
abbrev cX10_who : ByteArray := prog_1_method_14_code
def yX10_who : MethodName := ⟨RX10, "who", "(I)I"⟩
abbrev cX10_next : ByteArray := prog_1_method_15_code
def yX10_next : MethodName := ⟨RX10, "next", "(II)I"⟩
abbrev cX10_many : ByteArray := prog_1_method_16_code
def yX10_many : MethodName := ⟨RX10, "many", "(III)I"⟩
abbrev cX10_waits : ByteArray := prog_1_method_17_code
def yX10_waits : MethodName := ⟨RX10, "waits", "(III)I"⟩
abbrev cX10_waiting : ByteArray := prog_1_method_18_code
def yX10_waiting : MethodName := ⟨RX10, "waiting", "(III)I"⟩
abbrev cX10_share : ByteArray := prog_1_method_19_code
def yX10_share : MethodName := ⟨RX10, "share", "(IIII)I"⟩
abbrev cX10_meets : ByteArray := prog_1_method_20_code
def yX10_meets : MethodName := ⟨RX10, "meets", "(IIIII)I"⟩
abbrev cX10_period : ByteArray := prog_1_method_21_code
def yX10_period : MethodName := ⟨RX10, "period", "(I)I"⟩
abbrev cX10_alike : ByteArray := prog_1_method_22_code
def yX10_alike : MethodName := ⟨RX10, "alike", "(III)I"⟩
abbrev cX10_years : ByteArray := prog_1_method_23_code
def yX10_years : MethodName := ⟨RX10, "years", "(I)I"⟩
abbrev cX10_comes : ByteArray := prog_1_method_24_code
def yX10_comes : MethodName := ⟨RX10, "comes", "(II)I"⟩
abbrev cX10_saints : ByteArray := prog_1_method_25_code
def yX10_saints : MethodName := ⟨RX10, "saints", "(IIIII)I"⟩
abbrev cX10_founded : ByteArray := prog_1_method_26_code
def yX10_founded : MethodName := ⟨RX10, "founded", "(IIIII)J"⟩
abbrev cX10_bridge : ByteArray := prog_1_method_27_code
def yX10_bridge : MethodName := ⟨RX10, "bridge", "(IIII)I"⟩
abbrev cX10_bridged : ByteArray := prog_1_method_28_code
def yX10_bridged : MethodName := ⟨RX10, "bridged", "(IIII)I"⟩
abbrev cX10_oldest : ByteArray := prog_1_method_29_code
def yX10_oldest : MethodName := ⟨RX10, "oldest", "(I)I"⟩
abbrev cX10_older : ByteArray := prog_1_method_30_code
def yX10_older : MethodName := ⟨RX10, "older", "(II)I"⟩
abbrev cX10_apart : ByteArray := prog_1_method_31_code
def yX10_apart : MethodName := ⟨RX10, "apart", "(I)I"⟩
abbrev cX10_idle : ByteArray := prog_1_method_32_code
def yX10_idle : MethodName := ⟨RX10, "idle", "(I)I"⟩
abbrev cX10_fits : ByteArray := prog_1_method_33_code
def yX10_fits : MethodName := ⟨RX10, "fits", "(III)I"⟩
abbrev cX10_fit : ByteArray := prog_1_method_34_code
def yX10_fit : MethodName := ⟨RX10, "fit", "(IIII)I"⟩
abbrev cX10_sure : ByteArray := prog_1_method_35_code
def yX10_sure : MethodName := ⟨RX10, "sure", "(IIII)I"⟩
abbrev cX10_ask : ByteArray := prog_1_method_36_code
def yX10_ask : MethodName := ⟨RX10, "ask", "(III)I"⟩
abbrev cX10_leaves : ByteArray := prog_1_method_37_code
def yX10_leaves : MethodName := ⟨RX10, "leaves", "(III)I"⟩
abbrev cX10_holds : ByteArray := prog_1_method_38_code
def yX10_holds : MethodName := ⟨RX10, "holds", "(I)I"⟩
abbrev cX10_overlap : ByteArray := prog_1_method_39_code
def yX10_overlap : MethodName := ⟨RX10, "overlap", "(II)I"⟩
abbrev cX10_most : ByteArray := prog_1_method_40_code
def yX10_most : MethodName := ⟨RX10, "most", "()I"⟩
abbrev cX10_age : ByteArray := prog_1_method_41_code
def yX10_age : MethodName := ⟨RX10, "age", "(III)I"⟩
abbrev cX10_gains : ByteArray := prog_1_method_42_code
def yX10_gains : MethodName := ⟨RX10, "gains", "(IIII)I"⟩
abbrev cX10_march : ByteArray := prog_1_method_43_code
def yX10_march : MethodName := ⟨RX10, "march", "(III)I"⟩
abbrev cX10_clash : ByteArray := prog_1_method_44_code
def yX10_clash : MethodName := ⟨RX10, "clash", "(IIII)I"⟩
abbrev cX10_place : ByteArray := prog_1_method_45_code
def yX10_place : MethodName := ⟨RX10, "place", "(IIII)I"⟩
abbrev cX10_alone : ByteArray := prog_1_method_46_code
def yX10_alone : MethodName := ⟨RX10, "alone", "(IIII)I"⟩
abbrev cX10_begin : ByteArray := prog_1_method_47_code
def yX10_begin : MethodName := ⟨RX10, "begin", "(IIIII)I"⟩
abbrev cX10_begins : ByteArray := prog_1_method_48_code
def yX10_begins : MethodName := ⟨RX10, "begins", "(IIIII)I"⟩
abbrev cX10_game : ByteArray := prog_1_method_49_code
def yX10_game : MethodName := ⟨RX10, "game", "(IIII)I"⟩
abbrev cX10_takes : ByteArray := prog_1_method_50_code
def yX10_takes : MethodName := ⟨RX10, "takes", "(IIII)I"⟩
abbrev cX10_found : ByteArray := prog_1_method_51_code
def yX10_found : MethodName := ⟨RX10, "found", "(IIII)I"⟩
abbrev cX10_grant : ByteArray := prog_1_method_52_code
def yX10_grant : MethodName := ⟨RX10, "grant", "(III)I"⟩
abbrev cX10_ends : ByteArray := prog_1_method_53_code
def yX10_ends : MethodName := ⟨RX10, "ends", "(I)I"⟩
abbrev cX10_undo : ByteArray := prog_1_method_54_code
def yX10_undo : MethodName := ⟨RX10, "undo", "()I"⟩
abbrev cX10_drawn : ByteArray := prog_1_method_55_code
def yX10_drawn : MethodName := ⟨RX10, "drawn", "(IIII)I"⟩
abbrev cX10_luck : ByteArray := prog_1_method_56_code
def yX10_luck : MethodName := ⟨RX10, "luck", "(IIIII)I"⟩
abbrev cX10_count : ByteArray := prog_1_method_57_code
def yX10_count : MethodName := ⟨RX10, "count", "(I)I"⟩
abbrev cX10_image : ByteArray := prog_1_method_58_code
def yX10_image : MethodName := ⟨RX10, "image", "(I)I"⟩
abbrev cX10_back : ByteArray := prog_1_method_59_code
def yX10_back : MethodName := ⟨RX10, "back", "(I)I"⟩
abbrev cX10_row : ByteArray := prog_1_method_60_code
def yX10_row : MethodName := ⟨RX10, "row", "(III)I"⟩
abbrev cX10_write : ByteArray := prog_1_method_61_code
def yX10_write : MethodName := ⟨RX10, "write", "(IIJ)I"⟩
abbrev cX10_paste : ByteArray := prog_1_method_62_code
def yX10_paste : MethodName := ⟨RX10, "paste", "(IIIII)I"⟩
abbrev cX10_isDay : ByteArray := prog_1_method_63_code
def yX10_isDay : MethodName := ⟨RX10, "isDay", "(I)Z"⟩
abbrev cX10_isYear : ByteArray := prog_1_method_64_code
def yX10_isYear : MethodName := ⟨RX10, "isYear", "(I)Z"⟩
abbrev cX10_isSpan : ByteArray := prog_1_method_65_code
def yX10_isSpan : MethodName := ⟨RX10, "isSpan", "(II)Z"⟩
abbrev cX10_isSlot : ByteArray := prog_1_method_66_code
def yX10_isSlot : MethodName := ⟨RX10, "isSlot", "(I)Z"⟩
abbrev cX10_isRain : ByteArray := prog_1_method_67_code
def yX10_isRain : MethodName := ⟨RX10, "isRain", "(III)Z"⟩
abbrev cX10_isDayOfWar : ByteArray := prog_1_method_68_code
def yX10_isDayOfWar : MethodName := ⟨RX10, "isDayOfWar", "(I)Z"⟩
abbrev cX10_isLandAndDay : ByteArray := prog_1_method_69_code
def yX10_isLandAndDay : MethodName := ⟨RX10, "isLandAndDay", "(II)Z"⟩
abbrev cX10_isPair : ByteArray := prog_1_method_70_code
def yX10_isPair : MethodName := ⟨RX10, "isPair", "(II)Z"⟩
abbrev cX10_isPairAndDay : ByteArray := prog_1_method_71_code
def yX10_isPairAndDay : MethodName := ⟨RX10, "isPairAndDay", "(III)Z"⟩
abbrev cX10_isSetInSpan : ByteArray := prog_1_method_72_code
def yX10_isSetInSpan : MethodName := ⟨RX10, "isSetInSpan", "(III)Z"⟩
abbrev cX10_isSaintly : ByteArray := prog_1_method_73_code
def yX10_isSaintly : MethodName := ⟨RX10, "isSaintly", "(IIIII)Z"⟩
abbrev cX10_commonDivisor : ByteArray := prog_1_method_74_code
def yX10_commonDivisor : MethodName := ⟨RX10, "commonDivisor", "(II)I"⟩
abbrev cX10_nextDraw : ByteArray := prog_1_method_75_code
def yX10_nextDraw : MethodName := ⟨RX10, "nextDraw", "(J)J"⟩
abbrev cX10_isWet : ByteArray := prog_1_method_76_code
def yX10_isWet : MethodName := ⟨RX10, "isWet", "(JI)Z"⟩
abbrev cX10_fightsInRain : ByteArray := prog_1_method_77_code
def yX10_fightsInRain : MethodName := ⟨RX10, "fightsInRain", "(LTwoCalendars$Almanac;JIII)Z"⟩
abbrev cX10_told : ByteArray := prog_1_method_78_code
def yX10_told : MethodName := ⟨RX10, "told", "()LTwoCalendars$Almanac;"⟩
abbrev cX10_slotsWithRow : ByteArray := prog_1_method_79_code
def yX10_slotsWithRow : MethodName := ⟨RX10, "slotsWithRow", "()I"⟩
abbrev cX10_readOrders : ByteArray := prog_1_method_80_code
def yX10_readOrders : MethodName := ⟨RX10, "readOrders", "(I)I"⟩
abbrev cX10_readSights : ByteArray := prog_1_method_81_code
def yX10_readSights : MethodName := ⟨RX10, "readSights", "(III)I"⟩
def RX11 : String := "TwoCalendarsModel"
def TX11 : u_T := fun k => match k with
  | 0 => ("TwoCalendarsModel", "thrown", "I", false)
  | 1 => ("TwoCalendarsModel", "world", "[I", true)
  | 2 => ("TwoCalendarsModel", "images", "[I", true)
  | 3 => ("TwoCalendarsModel", "hasImage", "[Z", true)
  | 4 => ("TwoCalendarsModel", "tape", "[B", true)
  | 5 => ("TwoCalendarsModel", "taped", "I", false)
  | 6 => ("TwoCalendarsModel", "five", "[I", true)
  | 7 => ("TwoCalendarsModel", "size", "I", false)
  | 8 => ("TwoCalendarsModel", "at", "I", false)
  | 9 => ("TwoCalendarsModel", "from", "I", false)
  | 10 => ("TwoCalendarsModel", "token", "I", false)
  | 11 => ("TwoCalendarsModel", "value", "I", false)
  | 12 => ("TwoCalendarsModel", "faultKind", "I", false)
  | 13 => ("TwoCalendarsModel", "faultPlace", "I", false)
  | 14 => ("TwoCalendarsModel", "fresh", "[I", true)
  | 15 => ("TwoCalendarsModel", "yearOf", "[I", true)
  | 16 => ("TwoCalendarsModel", "monthOf", "[I", true)
  | 17 => ("TwoCalendarsModel", "dayOf", "[I", true)
  | 18 => ("TwoCalendarsModel", "whyNot", "[I", true)
  | 19 => ("TwoCalendarsModel", "waitMost", "I", false)
  | 20 => ("TwoCalendarsModel", "waitFrom", "I", false)
  | 21 => ("TwoCalendarsModel", "isLeft", "[Z", true)
  | 22 => ("TwoCalendarsModel", "saintsMany", "I", false)
  | 23 => ("TwoCalendarsModel", "saintsSet", "J", false)
  | 24 => ("TwoCalendarsModel", "answers", "[I", true)
  | 25 => ("TwoCalendarsModel", "askWorst", "I", false)
  | 26 => ("TwoCalendarsModel", "clashDay", "I", false)
  | 27 => ("TwoCalendarsModel", "clashPlace", "I", false)
  | 28 => ("TwoCalendarsModel", "beginMost", "I", false)
  | 29 => ("TwoCalendarsModel", "wonFrom", "[I", true)
  | 30 => ("TwoCalendarsModel", "wonMid", "[I", true)
  | 31 => ("TwoCalendarsModel", "wonNew", "[I", true)
  | 32 => ("TwoCalendarsModel", "rainMany", "I", false)
  | 33 => ("TwoCalendarsModel", "fightMany", "I", false)
  | 34 => ("TwoCalendarsModel", "landMany", "I", false)
  | 35 => ("TwoCalendarsModel", "many", "[I", true)
  | 36 => ("TwoCalendarsModel", "width", "[I", true)
  | 37 => ("TwoCalendarsModel", "numbers", "[J", true)
  | _ => ("TwoCalendarsModel", "moving", "[J", true)
def tyX11 : Nat → FieldType := fun k => match k with
  | 0 => .int
  | 1 => .array .int
  | 2 => .array .int
  | 3 => .array .boolean
  | 4 => .array .byte
  | 5 => .int
  | 6 => .array .int
  | 7 => .int
  | 8 => .int
  | 9 => .int
  | 10 => .int
  | 11 => .int
  | 12 => .int
  | 13 => .int
  | 14 => .array .int
  | 15 => .array .int
  | 16 => .array .int
  | 17 => .array .int
  | 18 => .array .int
  | 19 => .int
  | 20 => .int
  | 21 => .array .boolean
  | 22 => .int
  | 23 => .long
  | 24 => .array .int
  | 25 => .int
  | 26 => .int
  | 27 => .int
  | 28 => .int
  | 29 => .array .int
  | 30 => .array .int
  | 31 => .array .int
  | 32 => .int
  | 33 => .int
  | 34 => .int
  | 35 => .array .int
  | 36 => .array .int
  | 37 => .array .long
  | _ => .array .long
theorem nmX11 : ∀ a, a < 39 → ∀ b, b < 39 → a ≠ b → (TX11 a).2.1 ≠ (TX11 b).2.1 := by decide +kernel
theorem tyX11_ok : ∀ k, k < 39 → parseFieldDescriptor (TX11 k).2.2.1 = some (tyX11 k) := by decide +kernel
abbrev cX11_init : ByteArray := prog_13_method_1_code
def yX11_init : MethodName := ⟨RX11, "<init>", "()V"⟩
abbrev cX11_in : ByteArray := prog_13_method_3_code
def yX11_in : MethodName := ⟨RX11, "in", "(JJJ)Z"⟩
abbrev cX11_bit : ByteArray := prog_13_method_4_code
def yX11_bit : MethodName := ⟨RX11, "bit", "(II)I"⟩
abbrev cX11_image : ByteArray := prog_13_method_5_code
def yX11_image : MethodName := ⟨RX11, "image", "(I)I"⟩
abbrev cX11_back : ByteArray := prog_13_method_6_code
def yX11_back : MethodName := ⟨RX11, "back", "(I)I"⟩
abbrev cX11_isWar : ByteArray := prog_13_method_7_code
def yX11_isWar : MethodName := ⟨RX11, "isWar", "()Z"⟩
abbrev cX11_isLand : ByteArray := prog_13_method_8_code
def yX11_isLand : MethodName := ⟨RX11, "isLand", "(J)Z"⟩
abbrev cX11_areTwo : ByteArray := prog_13_method_9_code
def yX11_areTwo : MethodName := ⟨RX11, "areTwo", "(II)Z"⟩
abbrev cX11_isDay : ByteArray := prog_13_method_10_code
def yX11_isDay : MethodName := ⟨RX11, "isDay", "(J)Z"⟩
abbrev cX11_isYear : ByteArray := prog_13_method_11_code
def yX11_isYear : MethodName := ⟨RX11, "isYear", "(J)Z"⟩
abbrev cX11_isSpan : ByteArray := prog_13_method_12_code
def yX11_isSpan : MethodName := ⟨RX11, "isSpan", "(II)Z"⟩
abbrev cX11_allLands : ByteArray := prog_13_method_13_code
def yX11_allLands : MethodName := ⟨RX11, "allLands", "()I"⟩
abbrev cX11_isSet : ByteArray := prog_13_method_14_code
def yX11_isSet : MethodName := ⟨RX11, "isSet", "(I)Z"⟩
abbrev cX11_of : ByteArray := prog_13_method_15_code
def yX11_of : MethodName := ⟨RX11, "of", "(II)I"⟩
abbrev cX11_isMonth : ByteArray := prog_13_method_16_code
def yX11_isMonth : MethodName := ⟨RX11, "isMonth", "(IJ)Z"⟩
abbrev cX11_lengthOf : ByteArray := prog_13_method_17_code
def yX11_lengthOf : MethodName := ⟨RX11, "lengthOf", "(III)I"⟩
abbrev cX11_yearLength : ByteArray := prog_13_method_18_code
def yX11_yearLength : MethodName := ⟨RX11, "yearLength", "(II)I"⟩
abbrev cX11_ofFeast : ByteArray := prog_13_method_19_code
def yX11_ofFeast : MethodName := ⟨RX11, "ofFeast", "(II)I"⟩
abbrev cX11_ofTruce : ByteArray := prog_13_method_20_code
def yX11_ofTruce : MethodName := ⟨RX11, "ofTruce", "(II)I"⟩
abbrev cX11_feed : ByteArray := prog_13_method_21_code
def yX11_feed : MethodName := ⟨RX11, "feed", "(IIIII)I"⟩
abbrev cX11_end : ByteArray := prog_13_method_22_code
def yX11_end : MethodName := ⟨RX11, "end", "(I)I"⟩
abbrev cX11_see : ByteArray := prog_13_method_23_code
def yX11_see : MethodName := ⟨RX11, "see", "(I)I"⟩
abbrev cX11_advance : ByteArray := prog_13_method_24_code
def yX11_advance : MethodName := ⟨RX11, "advance", "()V"⟩
abbrev cX11_good : ByteArray := prog_13_method_25_code
def yX11_good : MethodName := ⟨RX11, "good", "()Z"⟩
abbrev cX11_errs : ByteArray := prog_13_method_26_code
def yX11_errs : MethodName := ⟨RX11, "errs", "(I)V"⟩
abbrev cX11_is : ByteArray := prog_13_method_27_code
def yX11_is : MethodName := ⟨RX11, "is", "(Ljava/lang/String;)Z"⟩
abbrev cX11_takes : ByteArray := prog_13_method_28_code
def yX11_takes : MethodName := ⟨RX11, "takes", "(Ljava/lang/String;)Z"⟩
abbrev cX11_needs : ByteArray := prog_13_method_29_code
def yX11_needs : MethodName := ⟨RX11, "needs", "(Ljava/lang/String;)V"⟩
abbrev cX11_number : ByteArray := prog_13_method_30_code
def yX11_number : MethodName := ⟨RX11, "number", "(II)I"⟩
abbrev cX11_told : ByteArray := prog_13_method_31_code
def yX11_told : MethodName := ⟨RX11, "told", "(Ljava/lang/String;II)I"⟩
abbrev cX11_fault : ByteArray := prog_13_method_32_code
def yX11_fault : MethodName := ⟨RX11, "fault", "(I)I"⟩
abbrev cX11_readMonths : ByteArray := prog_13_method_33_code
def yX11_readMonths : MethodName := ⟨RX11, "readMonths", "(I)V"⟩
abbrev cX11_readLand : ByteArray := prog_13_method_34_code
def yX11_readLand : MethodName := ⟨RX11, "readLand", "()V"⟩
abbrev cX11_freshLand : ByteArray := prog_13_method_35_code
def yX11_freshLand : MethodName := ⟨RX11, "freshLand", "()I"⟩
abbrev cX11_readFeast : ByteArray := prog_13_method_36_code
def yX11_readFeast : MethodName := ⟨RX11, "readFeast", "()V"⟩
abbrev cX11_readTruce : ByteArray := prog_13_method_37_code
def yX11_readTruce : MethodName := ⟨RX11, "readTruce", "()V"⟩
abbrev cX11_readNext : ByteArray := prog_13_method_38_code
def yX11_readNext : MethodName := ⟨RX11, "readNext", "()V"⟩
abbrev cX11_readLine : ByteArray := prog_13_method_39_code
def yX11_readLine : MethodName := ⟨RX11, "readLine", "()V"⟩
abbrev cX11_war : ByteArray := prog_13_method_40_code
def yX11_war : MethodName := ⟨RX11, "war", "()I"⟩
abbrev cX11_spot : ByteArray := prog_13_method_41_code
def yX11_spot : MethodName := ⟨RX11, "spot", "(II)I"⟩
abbrev cX11_layDates : ByteArray := prog_13_method_42_code
def yX11_layDates : MethodName := ⟨RX11, "layDates", "(I)V"⟩
abbrev cX11_weekday : ByteArray := prog_13_method_43_code
def yX11_weekday : MethodName := ⟨RX11, "weekday", "(II)I"⟩
abbrev cX11_layWhy : ByteArray := prog_13_method_44_code
def yX11_layWhy : MethodName := ⟨RX11, "layWhy", "(I)V"⟩
abbrev cX11_lay : ByteArray := prog_13_method_45_code
def yX11_lay : MethodName := ⟨RX11, "lay", "()V"⟩
abbrev cX11_mayOn : ByteArray := prog_13_method_46_code
def yX11_mayOn : MethodName := ⟨RX11, "mayOn", "(II)Z"⟩
abbrev cX11_whoOn : ByteArray := prog_13_method_47_code
def yX11_whoOn : MethodName := ⟨RX11, "whoOn", "(I)I"⟩
abbrev cX11_land : ByteArray := prog_13_method_48_code
def yX11_land : MethodName := ⟨RX11, "land", "(II)I"⟩
abbrev cX11_month : ByteArray := prog_13_method_49_code
def yX11_month : MethodName := ⟨RX11, "month", "(III)I"⟩
abbrev cX11_feast : ByteArray := prog_13_method_50_code
def yX11_feast : MethodName := ⟨RX11, "feast", "(II)I"⟩
abbrev cX11_truce : ByteArray := prog_13_method_51_code
def yX11_truce : MethodName := ⟨RX11, "truce", "(II)I"⟩
abbrev cX11_dateOf : ByteArray := prog_13_method_52_code
def yX11_dateOf : MethodName := ⟨RX11, "dateOf", "(III)I"⟩
abbrev cX11_date : ByteArray := prog_13_method_53_code
def yX11_date : MethodName := ⟨RX11, "date", "(III)I"⟩
abbrev cX11_isDate : ByteArray := prog_13_method_54_code
def yX11_isDate : MethodName := ⟨RX11, "isDate", "(IJJJ)Z"⟩
abbrev cX11_dayBy : ByteArray := prog_13_method_55_code
def yX11_dayBy : MethodName := ⟨RX11, "dayBy", "(IIII)I"⟩
abbrev cX11_day : ByteArray := prog_13_method_56_code
def yX11_day : MethodName := ⟨RX11, "day", "(IIII)I"⟩
abbrev cX11_may : ByteArray := prog_13_method_57_code
def yX11_may : MethodName := ⟨RX11, "may", "(II)I"⟩
abbrev cX11_why : ByteArray := prog_13_method_58_code
def yX11_why : MethodName := ⟨RX11, "why", "(II)I"⟩
abbrev cX11_who : ByteArray := prog_13_method_59_code
def yX11_who : MethodName := ⟨RX11, "who", "(I)I"⟩
abbrev cX11_mayAll : ByteArray := prog_13_method_60_code
def yX11_mayAll : MethodName := ⟨RX11, "mayAll", "(II)Z"⟩
abbrev cX11_next : ByteArray := prog_13_method_61_code
def yX11_next : MethodName := ⟨RX11, "next", "(II)I"⟩
abbrev cX11_manyOf : ByteArray := prog_13_method_62_code
def yX11_manyOf : MethodName := ⟨RX11, "manyOf", "(III)I"⟩
abbrev cX11_many : ByteArray := prog_13_method_63_code
def yX11_many : MethodName := ⟨RX11, "many", "(III)I"⟩
abbrev cX11_findWait : ByteArray := prog_13_method_64_code
def yX11_findWait : MethodName := ⟨RX11, "findWait", "(III)V"⟩
abbrev cX11_waits : ByteArray := prog_13_method_65_code
def yX11_waits : MethodName := ⟨RX11, "waits", "(III)I"⟩
abbrev cX11_waiting : ByteArray := prog_13_method_66_code
def yX11_waiting : MethodName := ⟨RX11, "waiting", "(III)I"⟩
abbrev cX11_divisor : ByteArray := prog_13_method_67_code
def yX11_divisor : MethodName := ⟨RX11, "divisor", "(II)I"⟩
abbrev cX11_share : ByteArray := prog_13_method_68_code
def yX11_share : MethodName := ⟨RX11, "share", "(IIII)I"⟩
abbrev cX11_isWeekday : ByteArray := prog_13_method_69_code
def yX11_isWeekday : MethodName := ⟨RX11, "isWeekday", "(II)Z"⟩
abbrev cX11_meets : ByteArray := prog_13_method_70_code
def yX11_meets : MethodName := ⟨RX11, "meets", "(IIIII)I"⟩
abbrev cX11_period : ByteArray := prog_13_method_71_code
def yX11_period : MethodName := ⟨RX11, "period", "(I)I"⟩
abbrev cX11_isCounted : ByteArray := prog_13_method_72_code
def yX11_isCounted : MethodName := ⟨RX11, "isCounted", "(II)Z"⟩
abbrev cX11_alike : ByteArray := prog_13_method_73_code
def yX11_alike : MethodName := ⟨RX11, "alike", "(III)I"⟩
abbrev cX11_years : ByteArray := prog_13_method_74_code
def yX11_years : MethodName := ⟨RX11, "years", "(I)I"⟩
abbrev cX11_comes : ByteArray := prog_13_method_75_code
def yX11_comes : MethodName := ⟨RX11, "comes", "(II)I"⟩
abbrev cX11_findSaints : ByteArray := prog_13_method_76_code
def yX11_findSaints : MethodName := ⟨RX11, "findSaints", "(IIIII)V"⟩
abbrev cX11_areSaints : ByteArray := prog_13_method_77_code
def yX11_areSaints : MethodName := ⟨RX11, "areSaints", "(IIIII)Z"⟩
abbrev cX11_saints : ByteArray := prog_13_method_78_code
def yX11_saints : MethodName := ⟨RX11, "saints", "(IIIII)I"⟩
abbrev cX11_founded : ByteArray := prog_13_method_79_code
def yX11_founded : MethodName := ⟨RX11, "founded", "(IIIII)J"⟩
abbrev cX11_findBridge : ByteArray := prog_13_method_80_code
def yX11_findBridge : MethodName := ⟨RX11, "findBridge", "(IIII)V"⟩
abbrev cX11_bridge : ByteArray := prog_13_method_81_code
def yX11_bridge : MethodName := ⟨RX11, "bridge", "(IIII)I"⟩
abbrev cX11_bridged : ByteArray := prog_13_method_82_code
def yX11_bridged : MethodName := ⟨RX11, "bridged", "(IIII)I"⟩
abbrev cX11_numberAt : ByteArray := prog_13_method_83_code
def yX11_numberAt : MethodName := ⟨RX11, "numberAt", "(II)J"⟩
abbrev cX11_intAt : ByteArray := prog_13_method_84_code
def yX11_intAt : MethodName := ⟨RX11, "intAt", "(II)I"⟩
abbrev cX11_dayAt : ByteArray := prog_13_method_85_code
def yX11_dayAt : MethodName := ⟨RX11, "dayAt", "(II)I"⟩
abbrev cX11_asksOrders : ByteArray := prog_13_method_86_code
def yX11_asksOrders : MethodName := ⟨RX11, "asksOrders", "(I)I"⟩
abbrev cX11_oldest : ByteArray := prog_13_method_87_code
def yX11_oldest : MethodName := ⟨RX11, "oldest", "(I)I"⟩
abbrev cX11_older : ByteArray := prog_13_method_88_code
def yX11_older : MethodName := ⟨RX11, "older", "(II)I"⟩
abbrev cX11_apart : ByteArray := prog_13_method_89_code
def yX11_apart : MethodName := ⟨RX11, "apart", "(I)I"⟩
abbrev cX11_idle : ByteArray := prog_13_method_90_code
def yX11_idle : MethodName := ⟨RX11, "idle", "(I)I"⟩
abbrev cX11_asksSeen : ByteArray := prog_13_method_91_code
def yX11_asksSeen : MethodName := ⟨RX11, "asksSeen", "(IIIZ)I"⟩
abbrev cX11_seen : ByteArray := prog_13_method_92_code
def yX11_seen : MethodName := ⟨RX11, "seen", "(III)I"⟩
abbrev cX11_isSeen : ByteArray := prog_13_method_93_code
def yX11_isSeen : MethodName := ⟨RX11, "isSeen", "(II)Z"⟩
abbrev cX11_fitsOf : ByteArray := prog_13_method_94_code
def yX11_fitsOf : MethodName := ⟨RX11, "fitsOf", "(III)I"⟩
abbrev cX11_fits : ByteArray := prog_13_method_95_code
def yX11_fits : MethodName := ⟨RX11, "fits", "(III)I"⟩
abbrev cX11_fit : ByteArray := prog_13_method_96_code
def yX11_fit : MethodName := ⟨RX11, "fit", "(IIII)I"⟩
abbrev cX11_sure : ByteArray := prog_13_method_97_code
def yX11_sure : MethodName := ⟨RX11, "sure", "(IIII)I"⟩
abbrev cX11_worstOf : ByteArray := prog_13_method_98_code
def yX11_worstOf : MethodName := ⟨RX11, "worstOf", "(IIIII)I"⟩
abbrev cX11_askOf : ByteArray := prog_13_method_99_code
def yX11_askOf : MethodName := ⟨RX11, "askOf", "(III)I"⟩
abbrev cX11_ask : ByteArray := prog_13_method_100_code
def yX11_ask : MethodName := ⟨RX11, "ask", "(III)I"⟩
abbrev cX11_leaves : ByteArray := prog_13_method_101_code
def yX11_leaves : MethodName := ⟨RX11, "leaves", "(III)I"⟩
abbrev cX11_holdOn : ByteArray := prog_13_method_102_code
def yX11_holdOn : MethodName := ⟨RX11, "holdOn", "(I)I"⟩
abbrev cX11_holds : ByteArray := prog_13_method_103_code
def yX11_holds : MethodName := ⟨RX11, "holds", "(I)I"⟩
abbrev cX11_overlap : ByteArray := prog_13_method_104_code
def yX11_overlap : MethodName := ⟨RX11, "overlap", "(II)I"⟩
abbrev cX11_most : ByteArray := prog_13_method_105_code
def yX11_most : MethodName := ⟨RX11, "most", "()I"⟩
abbrev cX11_ageOf : ByteArray := prog_13_method_106_code
def yX11_ageOf : MethodName := ⟨RX11, "ageOf", "(III)I"⟩
abbrev cX11_age : ByteArray := prog_13_method_107_code
def yX11_age : MethodName := ⟨RX11, "age", "(III)I"⟩
abbrev cX11_gains : ByteArray := prog_13_method_108_code
def yX11_gains : MethodName := ⟨RX11, "gains", "(IIII)I"⟩
abbrev cX11_march : ByteArray := prog_13_method_109_code
def yX11_march : MethodName := ⟨RX11, "march", "(III)I"⟩
abbrev cX11_findClash : ByteArray := prog_13_method_110_code
def yX11_findClash : MethodName := ⟨RX11, "findClash", "(IIII)V"⟩
abbrev cX11_isClash : ByteArray := prog_13_method_111_code
def yX11_isClash : MethodName := ⟨RX11, "isClash", "(IIII)Z"⟩
abbrev cX11_clash : ByteArray := prog_13_method_112_code
def yX11_clash : MethodName := ⟨RX11, "clash", "(IIII)I"⟩
abbrev cX11_place : ByteArray := prog_13_method_113_code
def yX11_place : MethodName := ⟨RX11, "place", "(IIII)I"⟩
abbrev cX11_aloneOf : ByteArray := prog_13_method_114_code
def yX11_aloneOf : MethodName := ⟨RX11, "aloneOf", "(IIII)I"⟩
abbrev cX11_alone : ByteArray := prog_13_method_115_code
def yX11_alone : MethodName := ⟨RX11, "alone", "(IIII)I"⟩
abbrev cX11_beginOf : ByteArray := prog_13_method_116_code
def yX11_beginOf : MethodName := ⟨RX11, "beginOf", "(IIIII)I"⟩
abbrev cX11_isBegin : ByteArray := prog_13_method_117_code
def yX11_isBegin : MethodName := ⟨RX11, "isBegin", "(IIIII)Z"⟩
abbrev cX11_begin : ByteArray := prog_13_method_118_code
def yX11_begin : MethodName := ⟨RX11, "begin", "(IIIII)I"⟩
abbrev cX11_begins : ByteArray := prog_13_method_119_code
def yX11_begins : MethodName := ⟨RX11, "begins", "(IIIII)I"⟩
abbrev cX11_rank : ByteArray := prog_13_method_120_code
def yX11_rank : MethodName := ⟨RX11, "rank", "(II)I"⟩
abbrev cX11_behind : ByteArray := prog_13_method_121_code
def yX11_behind : MethodName := ⟨RX11, "behind", "(III[I)I"⟩
abbrev cX11_bestTake : ByteArray := prog_13_method_122_code
def yX11_bestTake : MethodName := ⟨RX11, "bestTake", "(II[I)I"⟩
abbrev cX11_turn : ByteArray := prog_13_method_123_code
def yX11_turn : MethodName := ⟨RX11, "turn", "(I[I[I)V"⟩
abbrev cX11_copy : ByteArray := prog_13_method_124_code
def yX11_copy : MethodName := ⟨RX11, "copy", "([I[I)V"⟩
abbrev cX11_play : ByteArray := prog_13_method_125_code
def yX11_play : MethodName := ⟨RX11, "play", "(III)V"⟩
abbrev cX11_isGame : ByteArray := prog_13_method_126_code
def yX11_isGame : MethodName := ⟨RX11, "isGame", "(IIII)Z"⟩
abbrev cX11_game : ByteArray := prog_13_method_127_code
def yX11_game : MethodName := ⟨RX11, "game", "(IIII)I"⟩
abbrev cX11_takes_ : ByteArray := prog_13_method_128_code
def yX11_takes_ : MethodName := ⟨RX11, "takes", "(IIII)I"⟩
abbrev cX11_keepChange : ByteArray := prog_13_method_129_code
def yX11_keepChange : MethodName := ⟨RX11, "keepChange", "(II)V"⟩
abbrev cX11_found : ByteArray := prog_13_method_130_code
def yX11_found : MethodName := ⟨RX11, "found", "(IIII)I"⟩
abbrev cX11_grant : ByteArray := prog_13_method_131_code
def yX11_grant : MethodName := ⟨RX11, "grant", "(III)I"⟩
abbrev cX11_ends : ByteArray := prog_13_method_132_code
def yX11_ends : MethodName := ⟨RX11, "ends", "(I)I"⟩
abbrev cX11_undo : ByteArray := prog_13_method_133_code
def yX11_undo : MethodName := ⟨RX11, "undo", "()I"⟩
abbrev cX11_goRain : ByteArray := prog_13_method_134_code
def yX11_goRain : MethodName := ⟨RX11, "goRain", "(JIII)V"⟩
abbrev cX11_isSeed : ByteArray := prog_13_method_135_code
def yX11_isSeed : MethodName := ⟨RX11, "isSeed", "(I)Z"⟩
abbrev cX11_drawn : ByteArray := prog_13_method_136_code
def yX11_drawn : MethodName := ⟨RX11, "drawn", "(IIII)I"⟩
abbrev cX11_luck : ByteArray := prog_13_method_137_code
def yX11_luck : MethodName := ⟨RX11, "luck", "(IIIII)I"⟩
abbrev cX11_count : ByteArray := prog_13_method_138_code
def yX11_count : MethodName := ⟨RX11, "count", "(I)I"⟩
abbrev cX11_isSlot : ByteArray := prog_13_method_139_code
def yX11_isSlot : MethodName := ⟨RX11, "isSlot", "(I)Z"⟩
abbrev cX11_cut : ByteArray := prog_13_method_140_code
def yX11_cut : MethodName := ⟨RX11, "cut", "(JI)J"⟩
abbrev cX11_row : ByteArray := prog_13_method_141_code
def yX11_row : MethodName := ⟨RX11, "row", "(III)I"⟩
abbrev cX11_write : ByteArray := prog_13_method_142_code
def yX11_write : MethodName := ⟨RX11, "write", "(IIJ)I"⟩
abbrev cX11_paste : ByteArray := prog_13_method_143_code
def yX11_paste : MethodName := ⟨RX11, "paste", "(IIIII)I"⟩
def RJ9 : String := "java/lang/Math"
abbrev cJ9_max_7cf53 : ByteArray := prog_14_method_65_code
def yJ9_max_7cf53 : MethodName := ⟨RJ9, "max", "(II)I"⟩
abbrev cJ9_min_7cf53 : ByteArray := prog_14_method_69_code
def yJ9_min_7cf53 : MethodName := ⟨RJ9, "min", "(II)I"⟩
def RJ0 : String := "java/lang/String"
abbrev cJ0_length_8abf5 : ByteArray := prog_15_method_54_code
def yJ0_length_8abf5 : MethodName := ⟨RJ0, "length", "()I"⟩
abbrev cJ0_charAt_5068e : ByteArray := prog_15_method_56_code
def yJ0_charAt_5068e : MethodName := ⟨RJ0, "charAt", "(I)C"⟩
abbrev cJ0_coder_7d493 : ByteArray := prog_15_method_152_code
def yJ0_coder_7d493 : MethodName := ⟨RJ0, "coder", "()B"⟩
abbrev cJ0_isLatin1_aae02 : ByteArray := prog_15_method_154_code
def yJ0_isLatin1_aae02 : MethodName := ⟨RJ0, "isLatin1", "()Z"⟩
abbrev cJ0_checkIndex_df160 : ByteArray := prog_15_method_155_code
def yJ0_checkIndex_df160 : MethodName := ⟨RJ0, "checkIndex", "(II)V"⟩
def RJ1 : String := "java/lang/StringLatin1"
abbrev cJ1_charAt_3b067 : ByteArray := prog_16_method_2_code
def yJ1_charAt_3b067 : MethodName := ⟨RJ1, "charAt", "([BI)C"⟩
def RJ2 : String := "java/lang/StringUTF16"
abbrev cJ2_getChar_3b067 : ByteArray := prog_17_method_5_code
def yJ2_getChar_3b067 : MethodName := ⟨RJ2, "getChar", "([BI)C"⟩
abbrev cJ2_length_9d52b : ByteArray := prog_17_method_6_code
def yJ2_length_9d52b : MethodName := ⟨RJ2, "length", "([B)I"⟩
abbrev cJ2_charAt_3b067 : ByteArray := prog_17_method_83_code
def yJ2_charAt_3b067 : MethodName := ⟨RJ2, "charAt", "([BI)C"⟩
abbrev cJ2_checkIndex_2214a : ByteArray := prog_17_method_91_code
def yJ2_checkIndex_2214a : MethodName := ⟨RJ2, "checkIndex", "(I[B)V"⟩
def RJ10 : String := "java/lang/System"
def RJ7 : String := "java/util/Arrays"
abbrev cJ7_fill_d0a16 : ByteArray := prog_19_method_101_code
def yJ7_fill_d0a16 : MethodName := ⟨RJ7, "fill", "([JJ)V"⟩
abbrev cJ7_fill_53178 : ByteArray := prog_19_method_103_code
def yJ7_fill_53178 : MethodName := ⟨RJ7, "fill", "([II)V"⟩
abbrev cJ7_fill_031fb : ByteArray := prog_19_method_109_code
def yJ7_fill_031fb : MethodName := ⟨RJ7, "fill", "([BB)V"⟩
def RJ3 : String := "jdk/internal/util/Preconditions"
abbrev cJ3_checkIndex_8e157 : ByteArray := prog_20_method_11_code
def yJ3_checkIndex_8e157 : MethodName := ⟨RJ3, "checkIndex", "(IILjava/util/function/BiFunction;)I"⟩
def RL : String := "TwoCalendarsLaw"
abbrev cL_law : ByteArray := code
def yL_law : MethodName := ⟨RL, "law", "([I)Z"⟩
end
section
abbrev Ci_t : Type := List (Nat × Instr × Nat)
def kX0_init : Ci_t := [(0, .aload_n 0, 1), (1, .invokespecial 3, 3), (4, .aload_n 0, 1), (5, .sipush 6000, 3), (8, .newarray .int, 2), (10, .putfield 9, 3), (13, .aload_n 0, 1), (14, .sipush 6000, 3), (17, .newarray .byte, 2), (19, .putfield 15, 3), (22, .aload_n 0, 1), (23, .sipush 2000, 3), (26, .newarray .byte, 2), (28, .putfield 19, 3), (31, .aload_n 0, 1), (32, .iconst 1, 1), (33, .putfield 22, 3), (36, .aload_n 0, 1), (37, .iconst 0, 1), (38, .putfield 26, 3), (41, .aload_n 0, 1), (42, .iconst 0, 1), (43, .putfield 30, 3), (46, .aload_n 0, 1), (47, .iconst (-1), 1), (48, .putfield 33, 3), (51, .aload_n 0, 1), (52, .iconst 0, 1), (53, .putfield 36, 3), (56, .aload_n 0, 1), (57, .iconst 0, 1), (58, .putfield 39, 3), (61, .return_, 1)]
set_option maxRecDepth 1000000 in
theorem eX0_init : ∀ q ∈ kX0_init, decode cX0_init q.1 = .ok q.2 := by decide +kernel
def kX0_forgetAll : Ci_t := [(0, .aload_n 0, 1), (1, .iconst 1, 1), (2, .putfield 22, 3), (5, .return_, 1)]
set_option maxRecDepth 1000000 in
theorem eX0_forgetAll : ∀ q ∈ kX0_forgetAll, decode cX0_forgetAll q.1 = .ok q.2 := by decide +kernel
def kX0_forgetReasons : Ci_t := [(0, .aload_n 0, 1), (1, .dup, 1), (2, .getfield 26, 3), (5, .iconst 1, 1), (6, .iload_n 1, 1), (7, .ishl, 1), (8, .ior, 1), (9, .putfield 26, 3), (12, .return_, 1)]
set_option maxRecDepth 1000000 in
theorem eX0_forgetReasons : ∀ q ∈ kX0_forgetReasons, decode cX0_forgetReasons q.1 = .ok q.2 := by decide +kernel
def kX0_bringUpToDate : Ci_t := [(0, .aload_n 0, 1), (1, .getfield 22, 3), (4, .ifCond .eq 59, 3), (7, .aload_n 0, 1), (8, .iconst 0, 1), (9, .putfield 22, 3), (12, .aload_n 0, 1), (13, .iconst 1, 1), (14, .aload_n 1, 1), (15, .getfield 42, 3), (18, .ishl, 1), (19, .iconst 1, 1), (20, .isub, 1), (21, .putfield 26, 3), (24, .aload_n 0, 1), (25, .getfield 19, 3), (28, .iconst 0, 1), (29, .invokestatic 47, 3), (32, .iconst 0, 1), (33, .istore_n 2, 1), (34, .iload_n 2, 1), (35, .aload_n 1, 1), (36, .getfield 42, 3), (39, .if_icmp .ge 24, 3), (42, .aload_n 0, 1), (43, .aload_n 1, 1), (44, .getfield 53, 3), (47, .iload_n 2, 1), (48, .aaload, 1), (49, .iload_n 2, 1), (50, .sipush 2000, 3), (53, .imul, 1), (54, .invokevirtual 57, 3), (57, .iinc 2 1, 3), (60, .goto (-26), 3), (63, .aload_n 0, 1), (64, .getfield 26, 3), (67, .ifCond .eq 47, 3), (70, .iconst 0, 1), (71, .istore_n 2, 1), (72, .iload_n 2, 1), (73, .aload_n 1, 1), (74, .getfield 42, 3), (77, .if_icmp .ge 32, 3), (80, .aload_n 0, 1), (81, .getfield 26, 3), (84, .iload_n 2, 1), (85, .ishr, 1), (86, .iconst 1, 1), (87, .iand, 1), (88, .iconst 1, 1), (89, .if_icmp .ne 14, 3), (92, .aload_n 0, 1), (93, .aload_n 1, 1), (94, .iload_n 2, 1), (95, .invokevirtual 61, 3), (98, .aload_n 0, 1), (99, .iload_n 2, 1), (100, .invokevirtual 65, 3), (103, .iinc 2 1, 3), (106, .goto (-34), 3), (109, .aload_n 0, 1), (110, .iconst 0, 1), (111, .putfield 26, 3), (114, .return_, 1)]
set_option maxRecDepth 1000000 in
theorem eX0_bringUpToDate : ∀ q ∈ kX0_bringUpToDate, decode cX0_bringUpToDate q.1 = .ok q.2 := by decide +kernel
def kX0_fillDates : Ci_t := [(0, .iconst 0, 1), (1, .istore_n 3, 1), (2, .iconst 0, 1), (3, .istore 4, 2), (5, .iconst 0, 1), (6, .istore 5, 2), (8, .iconst 0, 1), (9, .istore 6, 2), (11, .aload_n 1, 1), (12, .iconst 0, 1), (13, .iconst 0, 1), (14, .invokevirtual 69, 3), (17, .istore 7, 2), (19, .iconst 0, 1), (20, .istore 8, 2), (22, .iload 8, 2), (24, .sipush 2000, 3), (27, .if_icmp .ge 119, 3), (30, .iload 8, 2), (32, .aload_n 1, 1), (33, .getfield 75, 3), (36, .if_icmp .ge 16, 3), (39, .aload_n 0, 1), (40, .getfield 9, 3), (43, .iload_n 2, 1), (44, .iload 8, 2), (46, .iadd, 1), (47, .iconst (-1), 1), (48, .iastore, 1), (49, .goto 91, 3), (52, .aload_n 0, 1), (53, .getfield 9, 3), (56, .iload_n 2, 1), (57, .iload 8, 2), (59, .iadd, 1), (60, .iload_n 3, 1), (61, .bipush 14, 2), (63, .ishl, 1), (64, .iload 4, 2), (66, .bipush 11, 2), (68, .ishl, 1), (69, .ior, 1), (70, .iload 5, 2), (72, .iconst 4, 1), (73, .ishl, 1), (74, .ior, 1), (75, .iload 6, 2), (77, .ior, 1), (78, .iastore, 1), (79, .iload 6, 2), (81, .iconst 1, 1), (82, .iadd, 1), (83, .aload_n 1, 1), (84, .getfield 78, 3), (87, .if_icmp .ne 7, 3), (90, .iconst 0, 1), (91, .goto 7, 3), (94, .iload 6, 2), (96, .iconst 1, 1), (97, .iadd, 1), (98, .istore 6, 2), (100, .iinc 5 1, 3), (103, .iload 5, 2), (105, .iload 7, 2), (107, .if_icmp .ne 33, 3), (110, .iconst 0, 1), (111, .istore 5, 2), (113, .iinc 4 1, 3), (116, .iload 4, 2), (118, .aload_n 1, 1), (119, .getfield 81, 3), (122, .if_icmp .ne 9, 3), (125, .iconst 0, 1), (126, .istore 4, 2), (128, .iinc 3 1, 3), (131, .aload_n 1, 1), (132, .iload 4, 2), (134, .iload_n 3, 1), (135, .invokevirtual 69, 3), (138, .istore 7, 2), (140, .iinc 8 1, 3), (143, .goto (-121), 3), (146, .return_, 1)]
set_option maxRecDepth 1000000 in
theorem eX0_fillDates : ∀ q ∈ kX0_fillDates, decode cX0_fillDates q.1 = .ok q.2 := by decide +kernel
def kX0_fillReasons : Ci_t := [(0, .aload_n 1, 1), (1, .getfield 53, 3), (4, .iload_n 2, 1), (5, .aaload, 1), (6, .astore_n 3, 1), (7, .iload_n 2, 1), (8, .sipush 2000, 3), (11, .imul, 1), (12, .istore 4, 2), (14, .iconst 0, 1), (15, .istore 5, 2), (17, .iload 5, 2), (19, .sipush 2000, 3), (22, .if_icmp .ge 75, 3), (25, .aload_n 0, 1), (26, .getfield 9, 3), (29, .iload 4, 2), (31, .iload 5, 2), (33, .iadd, 1), (34, .iaload, 1), (35, .istore 6, 2), (37, .aload_n 3, 1), (38, .getfield 84, 3), (41, .iload 6, 2), (43, .bipush 15, 2), (45, .iand, 1), (46, .ishr, 1), (47, .iconst 1, 1), (48, .iand, 1), (49, .iconst 1, 1), (50, .if_icmp .ne 7, 3), (53, .iconst 1, 1), (54, .goto 4, 3), (57, .iconst 0, 1), (58, .istore 7, 2), (60, .aload_n 0, 1), (61, .getfield 15, 3), (64, .iload 4, 2), (66, .iload 5, 2), (68, .iadd, 1), (69, .iload 6, 2), (71, .iconst (-1), 1), (72, .if_icmp .ne 7, 3), (75, .iconst 1, 1), (76, .goto 13, 3), (79, .iload 7, 2), (81, .ifCond .eq 7, 3), (84, .iconst 2, 1), (85, .goto 4, 3), (88, .iconst 0, 1), (89, .i2b, 1), (90, .bastore, 1), (91, .iinc 5 1, 3), (94, .goto (-77), 3), (97, .iconst 0, 1), (98, .istore 5, 2), (100, .iload 5, 2), (102, .aload_n 1, 1), (103, .getfield 87, 3), (106, .if_icmp .ge 60, 3), (109, .iload 5, 2), (111, .iconst 4, 1), (112, .imul, 1), (113, .istore 6, 2), (115, .aload_n 1, 1), (116, .getfield 90, 3), (119, .iload 6, 2), (121, .iaload, 1), (122, .iload_n 2, 1), (123, .if_icmp .ne 37, 3), (126, .aload_n 0, 1), (127, .aload_n 3, 1), (128, .iload 4, 2), (130, .aload_n 1, 1), (131, .getfield 90, 3), (134, .iload 6, 2), (136, .iconst 1, 1), (137, .iadd, 1), (138, .iaload, 1), (139, .aload_n 1, 1), (140, .getfield 90, 3), (143, .iload 6, 2), (145, .iconst 2, 1), (146, .iadd, 1), (147, .iaload, 1), (148, .aload_n 1, 1), (149, .getfield 90, 3), (152, .iload 6, 2), (154, .iconst 3, 1), (155, .iadd, 1), (156, .iaload, 1), (157, .invokevirtual 93, 3), (160, .iinc 5 1, 3), (163, .goto (-63), 3), (166, .iconst 0, 1), (167, .istore 5, 2), (169, .iload 5, 2), (171, .aload_n 1, 1), (172, .getfield 97, 3), (175, .if_icmp .ge 51, 3), (178, .iload 5, 2), (180, .iconst 3, 1), (181, .imul, 1), (182, .istore 6, 2), (184, .aload_n 1, 1), (185, .getfield 100, 3), (188, .iload 6, 2), (190, .iaload, 1), (191, .iload_n 2, 1), (192, .if_icmp .ne 28, 3), (195, .aload_n 0, 1), (196, .iload 4, 2), (198, .aload_n 1, 1), (199, .getfield 100, 3), (202, .iload 6, 2), (204, .iconst 1, 1), (205, .iadd, 1), (206, .iaload, 1), (207, .aload_n 1, 1), (208, .getfield 100, 3), (211, .iload 6, 2), (213, .iconst 2, 1), (214, .iadd, 1), (215, .iaload, 1), (216, .iconst 4, 1), (217, .invokevirtual 103, 3), (220, .iinc 5 1, 3), (223, .goto (-54), 3), (226, .return_, 1)]
set_option maxRecDepth 1000000 in
theorem eX0_fillReasons : ∀ q ∈ kX0_fillReasons, decode cX0_fillReasons q.1 = .ok q.2 := by decide +kernel
def kX0_markFeast : Ci_t := [(0, .iconst 0, 1), (1, .istore 6, 2), (3, .iload 6, 2), (5, .sipush 2000, 3), (8, .if_icmp .ge 44, 3), (11, .aload_n 1, 1), (12, .iload 6, 2), (14, .iload_n 3, 1), (15, .iload 4, 2), (17, .invokevirtual 107, 3), (20, .istore 7, 2), (22, .iload 7, 2), (24, .sipush 2000, 3), (27, .if_icmp .lt 4, 3), (30, .return_, 1), (31, .aload_n 0, 1), (32, .iload_n 2, 1), (33, .iload 7, 2), (35, .iload 7, 2), (37, .iload 5, 2), (39, .iadd, 1), (40, .iconst 1, 1), (41, .isub, 1), (42, .iconst 3, 1), (43, .invokevirtual 103, 3), (46, .iinc 6 1, 3), (49, .goto (-46), 3), (52, .return_, 1)]
set_option maxRecDepth 1000000 in
theorem eX0_markFeast : ∀ q ∈ kX0_markFeast, decode cX0_markFeast q.1 = .ok q.2 := by decide +kernel
def kX0_markReason : Ci_t := [(0, .iload_n 2, 1), (1, .istore 5, 2), (3, .iload 5, 2), (5, .iload_n 3, 1), (6, .if_icmp .gt 41, 3), (9, .iload 5, 2), (11, .sipush 2000, 3), (14, .if_icmp .ge 33, 3), (17, .aload_n 0, 1), (18, .getfield 15, 3), (21, .iload_n 1, 1), (22, .iload 5, 2), (24, .iadd, 1), (25, .baload, 1), (26, .ifCond .ne 15, 3), (29, .aload_n 0, 1), (30, .getfield 15, 3), (33, .iload_n 1, 1), (34, .iload 5, 2), (36, .iadd, 1), (37, .iload 4, 2), (39, .i2b, 1), (40, .bastore, 1), (41, .iinc 5 1, 3), (44, .goto (-41), 3), (47, .return_, 1)]
set_option maxRecDepth 1000000 in
theorem eX0_markReason : ∀ q ∈ kX0_markReason, decode cX0_markReason q.1 = .ok q.2 := by decide +kernel
def kX0_fillFighters : Ci_t := [(0, .iload_n 1, 1), (1, .sipush 2000, 3), (4, .imul, 1), (5, .istore_n 2, 1), (6, .iconst 1, 1), (7, .iload_n 1, 1), (8, .ishl, 1), (9, .istore_n 3, 1), (10, .iconst 0, 1), (11, .istore 4, 2), (13, .iload 4, 2), (15, .sipush 2000, 3), (18, .if_icmp .ge 60, 3), (21, .aload_n 0, 1), (22, .getfield 15, 3), (25, .iload_n 2, 1), (26, .iload 4, 2), (28, .iadd, 1), (29, .baload, 1), (30, .ifCond .ne 23, 3), (33, .aload_n 0, 1), (34, .getfield 19, 3), (37, .iload 4, 2), (39, .aload_n 0, 1), (40, .getfield 19, 3), (43, .iload 4, 2), (45, .baload, 1), (46, .iload_n 3, 1), (47, .ior, 1), (48, .i2b, 1), (49, .bastore, 1), (50, .goto 22, 3), (53, .aload_n 0, 1), (54, .getfield 19, 3), (57, .iload 4, 2), (59, .aload_n 0, 1), (60, .getfield 19, 3), (63, .iload 4, 2), (65, .baload, 1), (66, .iload_n 3, 1), (67, .iconst (-1), 1), (68, .ixor, 1), (69, .iand, 1), (70, .i2b, 1), (71, .bastore, 1), (72, .iinc 4 1, 3), (75, .goto (-62), 3), (78, .return_, 1)]
set_option maxRecDepth 1000000 in
theorem eX0_fillFighters : ∀ q ∈ kX0_fillFighters, decode cX0_fillFighters q.1 = .ok q.2 := by decide +kernel
def kX0_reason : Ci_t := [(0, .aload_n 0, 1), (1, .getfield 15, 3), (4, .iload_n 1, 1), (5, .sipush 2000, 3), (8, .imul, 1), (9, .iload_n 2, 1), (10, .iadd, 1), (11, .baload, 1), (12, .ireturn, 1)]
set_option maxRecDepth 1000000 in
theorem eX0_reason : ∀ q ∈ kX0_reason, decode cX0_reason q.1 = .ok q.2 := by decide +kernel
def kX0_part : Ci_t := [(0, .iload_n 3, 1), (1, .iconst 4, 1), (2, .if_icmp .ne 14, 3), (5, .aload_n 0, 1), (6, .getfield 19, 3), (9, .iload_n 2, 1), (10, .baload, 1), (11, .iload_n 1, 1), (12, .ishr, 1), (13, .iconst 1, 1), (14, .iand, 1), (15, .ireturn, 1), (16, .aload_n 0, 1), (17, .getfield 9, 3), (20, .iload_n 1, 1), (21, .sipush 2000, 3), (24, .imul, 1), (25, .iload_n 2, 1), (26, .iadd, 1), (27, .iaload, 1), (28, .istore 4, 2), (30, .iload 4, 2), (32, .iconst (-1), 1), (33, .if_icmp .ne 5, 3), (36, .iconst (-1), 1), (37, .ireturn, 1), (38, .iload_n 3, 1), (39, .tableswitch 48 0 2 #[25, 31, 40], 25), (64, .iload 4, 2), (66, .bipush 14, 2), (68, .ishr, 1), (69, .ireturn, 1), (70, .iload 4, 2), (72, .bipush 11, 2), (74, .ishr, 1), (75, .bipush 7, 2), (77, .iand, 1), (78, .ireturn, 1), (79, .iload 4, 2), (81, .iconst 4, 1), (82, .ishr, 1), (83, .bipush 127, 2), (85, .iand, 1), (86, .ireturn, 1), (87, .iload 4, 2), (89, .bipush 15, 2), (91, .iand, 1), (92, .ireturn, 1)]
set_option maxRecDepth 1000000 in
theorem eX0_part : ∀ q ∈ kX0_part, decode cX0_part q.1 = .ok q.2 := by decide +kernel
def kX0_monthDay : Ci_t := [(0, .aload_n 0, 1), (1, .getfield 9, 3), (4, .iload_n 1, 1), (5, .sipush 2000, 3), (8, .imul, 1), (9, .iload_n 2, 1), (10, .iadd, 1), (11, .iaload, 1), (12, .istore_n 3, 1), (13, .iload_n 3, 1), (14, .iconst (-1), 1), (15, .if_icmp .ne 7, 3), (18, .iconst (-1), 1), (19, .goto 10, 3), (22, .iload_n 3, 1), (23, .iconst 4, 1), (24, .ishr, 1), (25, .sipush 1023, 3), (28, .iand, 1), (29, .ireturn, 1)]
set_option maxRecDepth 1000000 in
theorem eX0_monthDay : ∀ q ∈ kX0_monthDay, decode cX0_monthDay q.1 = .ok q.2 := by decide +kernel
def kX0_allFight : Ci_t := [(0, .aload_n 0, 1), (1, .getfield 19, 3), (4, .iload_n 2, 1), (5, .baload, 1), (6, .iload_n 1, 1), (7, .iand, 1), (8, .iload_n 1, 1), (9, .if_icmp .ne 7, 3), (12, .iconst 1, 1), (13, .goto 4, 3), (16, .iconst 0, 1), (17, .ireturn, 1)]
set_option maxRecDepth 1000000 in
theorem eX0_allFight : ∀ q ∈ kX0_allFight, decode cX0_allFight q.1 = .ok q.2 := by decide +kernel
def kX0_fightingDays : Ci_t := [(0, .iconst 0, 1), (1, .istore 4, 2), (3, .iload_n 2, 1), (4, .istore 5, 2), (6, .iload 5, 2), (8, .iload_n 3, 1), (9, .if_icmp .gt 22, 3), (12, .aload_n 0, 1), (13, .iload_n 1, 1), (14, .iload 5, 2), (16, .invokevirtual 111, 3), (19, .ifCond .eq 6, 3), (22, .iinc 4 1, 3), (25, .iinc 5 1, 3), (28, .goto (-22), 3), (31, .iload 4, 2), (33, .ireturn, 1)]
set_option maxRecDepth 1000000 in
theorem eX0_fightingDays : ∀ q ∈ kX0_fightingDays, decode cX0_fightingDays q.1 = .ok q.2 := by decide +kernel
def kX0_seekWait : Ci_t := [(0, .aload_n 0, 1), (1, .iconst 0, 1), (2, .putfield 30, 3), (5, .aload_n 0, 1), (6, .iconst (-1), 1), (7, .putfield 33, 3), (10, .iload_n 2, 1), (11, .istore 5, 2), (13, .iconst 0, 1), (14, .istore 6, 2), (16, .iload_n 2, 1), (17, .istore 7, 2), (19, .iload 7, 2), (21, .iload_n 3, 1), (22, .if_icmp .gt 86, 3), (25, .aload_n 0, 1), (26, .iload_n 1, 1), (27, .iload 7, 2), (29, .invokevirtual 111, 3), (32, .ifCond .eq 6, 3), (35, .iinc 6 1, 3), (38, .iload 6, 2), (40, .iload 4, 2), (42, .if_icmp .le 29, 3), (45, .iload 5, 2), (47, .iload 7, 2), (49, .if_icmp .gt 22, 3), (52, .aload_n 0, 1), (53, .iload_n 1, 1), (54, .iload 5, 2), (56, .invokevirtual 111, 3), (59, .ifCond .eq 6, 3), (62, .iinc 6 (-1), 3), (65, .iinc 5 1, 3), (68, .goto (-30), 3), (71, .iload 7, 2), (73, .iload 5, 2), (75, .isub, 1), (76, .iconst 1, 1), (77, .iadd, 1), (78, .aload_n 0, 1), (79, .getfield 30, 3), (82, .if_icmp .le 20, 3), (85, .aload_n 0, 1), (86, .iload 7, 2), (88, .iload 5, 2), (90, .isub, 1), (91, .iconst 1, 1), (92, .iadd, 1), (93, .putfield 30, 3), (96, .aload_n 0, 1), (97, .iload 5, 2), (99, .putfield 33, 3), (102, .iinc 7 1, 3), (105, .goto (-86), 3), (108, .return_, 1)]
set_option maxRecDepth 1000000 in
theorem eX0_seekWait : ∀ q ∈ kX0_seekWait, decode cX0_seekWait q.1 = .ok q.2 := by decide +kernel
def kX0_ageBy : Ci_t := [(0, .aload_n 0, 1), (1, .iload_n 1, 1), (2, .iload_n 2, 1), (3, .invokevirtual 115, 3), (6, .istore 4, 2), (8, .iload_n 2, 1), (9, .iload_n 3, 1), (10, .if_icmp .gt 9, 3), (13, .iload 4, 2), (15, .iconst (-1), 1), (16, .if_icmp .ne 5, 3), (19, .iconst (-1), 1), (20, .ireturn, 1), (21, .aload_n 0, 1), (22, .iload_n 1, 1), (23, .iload_n 3, 1), (24, .iconst 0, 1), (25, .invokevirtual 118, 3), (28, .aload_n 0, 1), (29, .iload_n 1, 1), (30, .iload_n 2, 1), (31, .iconst 0, 1), (32, .invokevirtual 118, 3), (35, .isub, 1), (36, .istore 5, 2), (38, .aload_n 0, 1), (39, .iload_n 1, 1), (40, .iload_n 3, 1), (41, .invokevirtual 115, 3), (44, .iload 4, 2), (46, .if_icmp .ge 10, 3), (49, .iload 5, 2), (51, .iconst 1, 1), (52, .isub, 1), (53, .goto 5, 3), (56, .iload 5, 2), (58, .ireturn, 1)]
set_option maxRecDepth 1000000 in
theorem eX0_ageBy : ∀ q ∈ kX0_ageBy, decode cX0_ageBy q.1 = .ok q.2 := by decide +kernel
def kX0_clashDay : Ci_t := [(0, .iconst 0, 1), (1, .istore 5, 2), (3, .iload_n 3, 1), (4, .istore 6, 2), (6, .iload 6, 2), (8, .sipush 2000, 3), (11, .if_icmp .ge 41, 3), (14, .iload 5, 2), (16, .aload_n 0, 1), (17, .iload_n 1, 1), (18, .iload 6, 2), (20, .iconst 4, 1), (21, .invokevirtual 118, 3), (24, .aload_n 0, 1), (25, .iload_n 2, 1), (26, .iload 6, 2), (28, .iconst 4, 1), (29, .invokevirtual 118, 3), (32, .iadd, 1), (33, .iadd, 1), (34, .istore 5, 2), (36, .iload 5, 2), (38, .iload 4, 2), (40, .if_icmp .lt 6, 3), (43, .iload 6, 2), (45, .ireturn, 1), (46, .iinc 6 1, 3), (49, .goto (-43), 3), (52, .iconst (-1), 1), (53, .ireturn, 1)]
set_option maxRecDepth 1000000 in
theorem eX0_clashDay : ∀ q ∈ kX0_clashDay, decode cX0_clashDay q.1 = .ok q.2 := by decide +kernel
def kX0_aloneOn : Ci_t := [(0, .aload_n 0, 1), (1, .iload_n 1, 1), (2, .iload_n 3, 1), (3, .iconst 4, 1), (4, .invokevirtual 118, 3), (7, .aload_n 0, 1), (8, .iload_n 2, 1), (9, .iload_n 3, 1), (10, .iconst 4, 1), (11, .invokevirtual 118, 3), (14, .iconst (-1), 1), (15, .ixor, 1), (16, .iand, 1), (17, .ireturn, 1)]
set_option maxRecDepth 1000000 in
theorem eX0_aloneOn : ∀ q ∈ kX0_aloneOn, decode cX0_aloneOn q.1 = .ok q.2 := by decide +kernel
def kX0_daysAlone : Ci_t := [(0, .iconst 0, 1), (1, .istore 5, 2), (3, .iload_n 3, 1), (4, .istore 6, 2), (6, .iload 6, 2), (8, .iload 4, 2), (10, .if_icmp .gt 22, 3), (13, .iload 5, 2), (15, .aload_n 0, 1), (16, .iload_n 1, 1), (17, .iload_n 2, 1), (18, .iload 6, 2), (20, .invokevirtual 121, 3), (23, .iadd, 1), (24, .istore 5, 2), (26, .iinc 6 1, 3), (29, .goto (-23), 3), (32, .iload 5, 2), (34, .ireturn, 1)]
set_option maxRecDepth 1000000 in
theorem eX0_daysAlone : ∀ q ∈ kX0_daysAlone, decode cX0_daysAlone q.1 = .ok q.2 := by decide +kernel
def kX0_seekBeginning : Ci_t := [(0, .aload_n 0, 1), (1, .iload_n 1, 1), (2, .iload_n 2, 1), (3, .iload_n 3, 1), (4, .iload_n 3, 1), (5, .iload 5, 2), (7, .iadd, 1), (8, .sipush 2000, 3), (11, .invokestatic 124, 3), (14, .iconst 1, 1), (15, .isub, 1), (16, .invokevirtual 129, 3), (19, .istore 6, 2), (21, .aload_n 0, 1), (22, .iload_n 3, 1), (23, .putfield 36, 3), (26, .aload_n 0, 1), (27, .iload 6, 2), (29, .putfield 39, 3), (32, .iload_n 3, 1), (33, .iconst 1, 1), (34, .iadd, 1), (35, .istore 7, 2), (37, .iload 7, 2), (39, .iload 4, 2), (41, .if_icmp .gt 76, 3), (44, .iload 6, 2), (46, .aload_n 0, 1), (47, .iload_n 1, 1), (48, .iload_n 2, 1), (49, .iload 7, 2), (51, .iconst 1, 1), (52, .isub, 1), (53, .invokevirtual 121, 3), (56, .isub, 1), (57, .istore 6, 2), (59, .iload 7, 2), (61, .iload 5, 2), (63, .iadd, 1), (64, .iconst 1, 1), (65, .isub, 1), (66, .sipush 2000, 3), (69, .if_icmp .ge 21, 3), (72, .iload 6, 2), (74, .aload_n 0, 1), (75, .iload_n 1, 1), (76, .iload_n 2, 1), (77, .iload 7, 2), (79, .iload 5, 2), (81, .iadd, 1), (82, .iconst 1, 1), (83, .isub, 1), (84, .invokevirtual 121, 3), (87, .iadd, 1), (88, .istore 6, 2), (90, .iload 6, 2), (92, .aload_n 0, 1), (93, .getfield 39, 3), (96, .if_icmp .le 15, 3), (99, .aload_n 0, 1), (100, .iload 7, 2), (102, .putfield 36, 3), (105, .aload_n 0, 1), (106, .iload 6, 2), (108, .putfield 39, 3), (111, .iinc 7 1, 3), (114, .goto (-77), 3), (117, .return_, 1)]
set_option maxRecDepth 1000000 in
theorem eX0_seekBeginning : ∀ q ∈ kX0_seekBeginning, decode cX0_seekBeginning q.1 = .ok q.2 := by decide +kernel
def kX1_init : Ci_t := [(0, .aload_n 0, 1), (1, .invokespecial 3, 3), (4, .aload_n 0, 1), (5, .iconst 0, 1), (6, .putfield 9, 3), (9, .aload_n 0, 1), (10, .iconst 2, 1), (11, .putfield 15, 3), (14, .aload_n 0, 1), (15, .iconst 0, 1), (16, .putfield 18, 3), (19, .aload_n 0, 1), (20, .iconst 0, 1), (21, .putfield 21, 3), (24, .aload_n 0, 1), (25, .iconst 0, 1), (26, .putfield 24, 3), (29, .aload_n 0, 1), (30, .iconst (-1), 1), (31, .putfield 27, 3), (34, .aload_n 0, 1), (35, .iconst 0, 1), (36, .putfield 30, 3), (39, .aload_n 0, 1), (40, .iconst 0, 1), (41, .putfield 33, 3), (44, .aload_n 0, 1), (45, .bipush 8, 2), (47, .newarray .int, 2), (49, .putfield 36, 3), (52, .return_, 1)]
set_option maxRecDepth 1000000 in
theorem eX1_init : ∀ q ∈ kX1_init, decode cX1_init q.1 = .ok q.2 := by decide +kernel
def kX1_clear : Ci_t := [(0, .aload_n 0, 1), (1, .iconst 0, 1), (2, .putfield 21, 3), (5, .aload_n 0, 1), (6, .iconst 0, 1), (7, .putfield 33, 3), (10, .aload_n 0, 1), (11, .iconst 0, 1), (12, .putfield 24, 3), (15, .aload_n 0, 1), (16, .iconst (-1), 1), (17, .putfield 27, 3), (20, .aload_n 0, 1), (21, .iconst 0, 1), (22, .putfield 30, 3), (25, .return_, 1)]
set_option maxRecDepth 1000000 in
theorem eX1_clear : ∀ q ∈ kX1_clear, decode cX1_clear q.1 = .ok q.2 := by decide +kernel
def kX1_copyOf : Ci_t := [(0, .aload_n 0, 1), (1, .aload_n 1, 1), (2, .getfield 9, 3), (5, .putfield 9, 3), (8, .aload_n 0, 1), (9, .aload_n 1, 1), (10, .getfield 15, 3), (13, .putfield 15, 3), (16, .aload_n 0, 1), (17, .aload_n 1, 1), (18, .getfield 18, 3), (21, .putfield 18, 3), (24, .aload_n 0, 1), (25, .aload_n 1, 1), (26, .getfield 21, 3), (29, .putfield 21, 3), (32, .aload_n 0, 1), (33, .aload_n 1, 1), (34, .getfield 24, 3), (37, .putfield 24, 3), (40, .aload_n 0, 1), (41, .aload_n 1, 1), (42, .getfield 27, 3), (45, .putfield 27, 3), (48, .aload_n 0, 1), (49, .aload_n 1, 1), (50, .getfield 30, 3), (53, .putfield 30, 3), (56, .aload_n 0, 1), (57, .aload_n 1, 1), (58, .getfield 33, 3), (61, .putfield 33, 3), (64, .aload_n 1, 1), (65, .getfield 36, 3), (68, .iconst 0, 1), (69, .aload_n 0, 1), (70, .getfield 36, 3), (73, .iconst 0, 1), (74, .bipush 8, 2), (76, .invokestatic 40, 3), (79, .return_, 1)]
set_option maxRecDepth 1000000 in
theorem eX1_copyOf : ∀ q ∈ kX1_copyOf, decode cX1_copyOf q.1 = .ok q.2 := by decide +kernel
def kX1_appendMonth : Ci_t := [(0, .aload_n 0, 1), (1, .getfield 36, 3), (4, .aload_n 0, 1), (5, .getfield 21, 3), (8, .iload_n 1, 1), (9, .iastore, 1), (10, .aload_n 0, 1), (11, .dup, 1), (12, .getfield 21, 3), (15, .iconst 1, 1), (16, .iadd, 1), (17, .putfield 21, 3), (20, .aload_n 0, 1), (21, .dup, 1), (22, .getfield 33, 3), (25, .iload_n 1, 1), (26, .iadd, 1), (27, .putfield 33, 3), (30, .return_, 1)]
set_option maxRecDepth 1000000 in
theorem eX1_appendMonth : ∀ q ∈ kX1_appendMonth, decode cX1_appendMonth q.1 = .ok q.2 := by decide +kernel
def kX1_hasWeekday : Ci_t := [(0, .iload_n 1, 1), (1, .ifCond .lt 15, 3), (4, .iload_n 1, 1), (5, .aload_n 0, 1), (6, .getfield 15, 3), (9, .if_icmp .ge 7, 3), (12, .iconst 1, 1), (13, .goto 4, 3), (16, .iconst 0, 1), (17, .ireturn, 1)]
set_option maxRecDepth 1000000 in
theorem eX1_hasWeekday : ∀ q ∈ kX1_hasWeekday, decode cX1_hasWeekday q.1 = .ok q.2 := by decide +kernel
def kX1_isLeapYear : Ci_t := [(0, .aload_n 0, 1), (1, .getfield 24, 3), (4, .ifCond .le 16, 3), (7, .iload_n 1, 1), (8, .aload_n 0, 1), (9, .getfield 24, 3), (12, .irem, 1), (13, .ifCond .ne 7, 3), (16, .iconst 1, 1), (17, .goto 4, 3), (20, .iconst 0, 1), (21, .ireturn, 1)]
set_option maxRecDepth 1000000 in
theorem eX1_isLeapYear : ∀ q ∈ kX1_isLeapYear, decode cX1_isLeapYear q.1 = .ok q.2 := by decide +kernel
def kX1_lengthIn : Ci_t := [(0, .iload_n 1, 1), (1, .aload_n 0, 1), (2, .getfield 27, 3), (5, .if_icmp .ne 25, 3), (8, .aload_n 0, 1), (9, .iload_n 2, 1), (10, .invokevirtual 46, 3), (13, .ifCond .eq 17, 3), (16, .aload_n 0, 1), (17, .getfield 36, 3), (20, .iload_n 1, 1), (21, .iaload, 1), (22, .aload_n 0, 1), (23, .getfield 30, 3), (26, .iadd, 1), (27, .goto 9, 3), (30, .aload_n 0, 1), (31, .getfield 36, 3), (34, .iload_n 1, 1), (35, .iaload, 1), (36, .ireturn, 1)]
set_option maxRecDepth 1000000 in
theorem eX1_lengthIn : ∀ q ∈ kX1_lengthIn, decode cX1_lengthIn q.1 = .ok q.2 := by decide +kernel
def kX1_leapCycle : Ci_t := [(0, .aload_n 0, 1), (1, .getfield 24, 3), (4, .ifCond .le 20, 3), (7, .aload_n 0, 1), (8, .getfield 24, 3), (11, .aload_n 0, 1), (12, .getfield 33, 3), (15, .imul, 1), (16, .aload_n 0, 1), (17, .getfield 30, 3), (20, .iadd, 1), (21, .goto 7, 3), (24, .aload_n 0, 1), (25, .getfield 33, 3), (28, .ireturn, 1)]
set_option maxRecDepth 1000000 in
theorem eX1_leapCycle : ∀ q ∈ kX1_leapCycle, decode cX1_leapCycle q.1 = .ok q.2 := by decide +kernel
def kX1_dayOn : Ci_t := [(0, .aload_n 0, 1), (1, .getfield 24, 3), (4, .ifCond .le 19, 3), (7, .iload_n 1, 1), (8, .aload_n 0, 1), (9, .getfield 24, 3), (12, .iadd, 1), (13, .iconst 1, 1), (14, .isub, 1), (15, .aload_n 0, 1), (16, .getfield 24, 3), (19, .idiv, 1), (20, .goto 4, 3), (23, .iconst 0, 1), (24, .istore 4, 2), (26, .aload_n 0, 1), (27, .getfield 9, 3), (30, .iload_n 1, 1), (31, .aload_n 0, 1), (32, .getfield 33, 3), (35, .imul, 1), (36, .iadd, 1), (37, .iload 4, 2), (39, .aload_n 0, 1), (40, .getfield 30, 3), (43, .imul, 1), (44, .iadd, 1), (45, .iload_n 3, 1), (46, .iadd, 1), (47, .istore 5, 2), (49, .iconst 0, 1), (50, .istore 6, 2), (52, .iload 6, 2), (54, .iload_n 2, 1), (55, .if_icmp .ge 30, 3), (58, .iload 6, 2), (60, .aload_n 0, 1), (61, .getfield 21, 3), (64, .if_icmp .ge 21, 3), (67, .iload 5, 2), (69, .aload_n 0, 1), (70, .getfield 36, 3), (73, .iload 6, 2), (75, .iaload, 1), (76, .iadd, 1), (77, .istore 5, 2), (79, .iinc 6 1, 3), (82, .goto (-30), 3), (85, .aload_n 0, 1), (86, .getfield 27, 3), (89, .iload_n 2, 1), (90, .if_icmp .ge 21, 3), (93, .aload_n 0, 1), (94, .iload_n 1, 1), (95, .invokevirtual 46, 3), (98, .ifCond .eq 13, 3), (101, .iload 5, 2), (103, .aload_n 0, 1), (104, .getfield 30, 3), (107, .iadd, 1), (108, .goto 5, 3), (111, .iload 5, 2), (113, .ireturn, 1)]
set_option maxRecDepth 1000000 in
theorem eX1_dayOn : ∀ q ∈ kX1_dayOn, decode cX1_dayOn q.1 = .ok q.2 := by decide +kernel
def kX2_init : Ci_t := [(0, .aload_n 0, 1), (1, .invokespecial 3, 3), (4, .aload_n 0, 1), (5, .bipush 15, 2), (7, .newarray .int, 2), (9, .putfield 11, 3), (12, .aload_n 0, 1), (13, .bipush 15, 2), (15, .newarray .int, 2), (17, .putfield 15, 3), (20, .aload_n 0, 1), (21, .iconst 0, 1), (22, .putfield 18, 3), (25, .return_, 1)]
set_option maxRecDepth 1000000 in
theorem eX2_init : ∀ q ∈ kX2_init, decode cX2_init q.1 = .ok q.2 := by decide +kernel
def kX2_read : Ci_t := [(0, .aload_n 1, 1), (1, .getfield 22, 3), (4, .iconst 4, 1), (5, .irem, 1), (6, .ifCond .eq 5, 3), (9, .iconst 0, 1), (10, .ireturn, 1), (11, .aload_n 0, 1), (12, .aload_n 1, 1), (13, .getfield 22, 3), (16, .iconst 4, 1), (17, .idiv, 1), (18, .putfield 18, 3), (21, .iconst 0, 1), (22, .istore_n 3, 1), (23, .iload_n 3, 1), (24, .aload_n 0, 1), (25, .getfield 18, 3), (28, .if_icmp .ge 97, 3), (31, .iload_n 3, 1), (32, .iconst 4, 1), (33, .imul, 1), (34, .istore 4, 2), (36, .aload_n 1, 1), (37, .iload 4, 2), (39, .iconst 4, 1), (40, .invokevirtual 25, 3), (43, .ifCond .ne 5, 3), (46, .iconst 0, 1), (47, .ireturn, 1), (48, .aload_n 0, 1), (49, .getfield 11, 3), (52, .iload_n 3, 1), (53, .aload_n 1, 1), (54, .getfield 29, 3), (57, .iload 4, 2), (59, .laload, 1), (60, .l2i, 1), (61, .iastore, 1), (62, .aload_n 0, 1), (63, .getfield 15, 3), (66, .iload_n 3, 1), (67, .aload_n 2, 1), (68, .aload_n 0, 1), (69, .getfield 11, 3), (72, .iload_n 3, 1), (73, .iaload, 1), (74, .aload_n 1, 1), (75, .getfield 29, 3), (78, .iload 4, 2), (80, .iconst 1, 1), (81, .iadd, 1), (82, .laload, 1), (83, .l2i, 1), (84, .aload_n 1, 1), (85, .getfield 29, 3), (88, .iload 4, 2), (90, .iconst 2, 1), (91, .iadd, 1), (92, .laload, 1), (93, .l2i, 1), (94, .aload_n 1, 1), (95, .getfield 29, 3), (98, .iload 4, 2), (100, .iconst 3, 1), (101, .iadd, 1), (102, .laload, 1), (103, .l2i, 1), (104, .invokevirtual 33, 3), (107, .iastore, 1), (108, .aload_n 0, 1), (109, .getfield 15, 3), (112, .iload_n 3, 1), (113, .iaload, 1), (114, .ifCond .ge 5, 3), (117, .iconst 0, 1), (118, .ireturn, 1), (119, .iinc 3 1, 3), (122, .goto (-99), 3), (125, .iconst 1, 1), (126, .ireturn, 1)]
set_option maxRecDepth 1000000 in
theorem eX2_read : ∀ q ∈ kX2_read, decode cX2_read q.1 = .ok q.2 := by decide +kernel
def kX2_placeOfOldest : Ci_t := [(0, .aload_n 0, 1), (1, .getfield 18, 3), (4, .ifCond .ne 7, 3), (7, .iconst (-1), 1), (8, .goto 4, 3), (11, .iconst 0, 1), (12, .istore_n 1, 1), (13, .iconst 1, 1), (14, .istore_n 2, 1), (15, .iload_n 2, 1), (16, .aload_n 0, 1), (17, .getfield 18, 3), (20, .if_icmp .ge 26, 3), (23, .aload_n 0, 1), (24, .getfield 15, 3), (27, .iload_n 2, 1), (28, .iaload, 1), (29, .aload_n 0, 1), (30, .getfield 15, 3), (33, .iload_n 1, 1), (34, .iaload, 1), (35, .if_icmp .ge 5, 3), (38, .iload_n 2, 1), (39, .istore_n 1, 1), (40, .iinc 2 1, 3), (43, .goto (-28), 3), (46, .iload_n 1, 1), (47, .ireturn, 1)]
set_option maxRecDepth 1000000 in
theorem eX2_placeOfOldest : ∀ q ∈ kX2_placeOfOldest, decode cX2_placeOfOldest q.1 = .ok q.2 := by decide +kernel
def kX2_earlierThan : Ci_t := [(0, .iconst 0, 1), (1, .istore_n 2, 1), (2, .iconst 0, 1), (3, .istore_n 3, 1), (4, .iload_n 3, 1), (5, .aload_n 0, 1), (6, .getfield 18, 3), (9, .if_icmp .ge 27, 3), (12, .aload_n 0, 1), (13, .getfield 15, 3), (16, .iload_n 3, 1), (17, .iaload, 1), (18, .aload_n 0, 1), (19, .getfield 15, 3), (22, .iload_n 1, 1), (23, .iaload, 1), (24, .if_icmp .ge 6, 3), (27, .iinc 2 1, 3), (30, .iinc 3 1, 3), (33, .goto (-29), 3), (36, .iload_n 2, 1), (37, .ireturn, 1)]
set_option maxRecDepth 1000000 in
theorem eX2_earlierThan : ∀ q ∈ kX2_earlierThan, decode cX2_earlierThan q.1 = .ok q.2 := by decide +kernel
def kX2_daysApart : Ci_t := [(0, .aload_n 0, 1), (1, .getfield 18, 3), (4, .ifCond .ne 5, 3), (7, .iconst (-1), 1), (8, .ireturn, 1), (9, .aload_n 0, 1), (10, .getfield 15, 3), (13, .iconst 0, 1), (14, .iaload, 1), (15, .istore_n 1, 1), (16, .aload_n 0, 1), (17, .getfield 15, 3), (20, .iconst 0, 1), (21, .iaload, 1), (22, .istore_n 2, 1), (23, .iconst 1, 1), (24, .istore_n 3, 1), (25, .iload_n 3, 1), (26, .aload_n 0, 1), (27, .getfield 18, 3), (30, .if_icmp .ge 31, 3), (33, .iload_n 1, 1), (34, .aload_n 0, 1), (35, .getfield 15, 3), (38, .iload_n 3, 1), (39, .iaload, 1), (40, .invokestatic 39, 3), (43, .istore_n 1, 1), (44, .iload_n 2, 1), (45, .aload_n 0, 1), (46, .getfield 15, 3), (49, .iload_n 3, 1), (50, .iaload, 1), (51, .invokestatic 45, 3), (54, .istore_n 2, 1), (55, .iinc 3 1, 3), (58, .goto (-33), 3), (61, .iload_n 2, 1), (62, .iload_n 1, 1), (63, .isub, 1), (64, .ireturn, 1)]
set_option maxRecDepth 1000000 in
theorem eX2_daysApart : ∀ q ∈ kX2_daysApart, decode cX2_daysApart q.1 = .ok q.2 := by decide +kernel
def kX2_datedAtRest : Ci_t := [(0, .iconst 0, 1), (1, .istore_n 2, 1), (2, .iconst 0, 1), (3, .istore_n 3, 1), (4, .iload_n 3, 1), (5, .aload_n 0, 1), (6, .getfield 18, 3), (9, .if_icmp .ge 31, 3), (12, .iload_n 2, 1), (13, .iconst 1, 1), (14, .aload_n 1, 1), (15, .aload_n 0, 1), (16, .getfield 11, 3), (19, .iload_n 3, 1), (20, .iaload, 1), (21, .aload_n 0, 1), (22, .getfield 15, 3), (25, .iload_n 3, 1), (26, .iaload, 1), (27, .iconst 4, 1), (28, .invokevirtual 48, 3), (31, .isub, 1), (32, .iadd, 1), (33, .istore_n 2, 1), (34, .iinc 3 1, 3), (37, .goto (-33), 3), (40, .iload_n 2, 1), (41, .ireturn, 1)]
set_option maxRecDepth 1000000 in
theorem eX2_datedAtRest : ∀ q ∈ kX2_datedAtRest, decode cX2_datedAtRest q.1 = .ok q.2 := by decide +kernel
def kX3_init : Ci_t := [(0, .aload_n 0, 1), (1, .invokespecial 3, 3), (4, .aload_n 0, 1), (5, .iconst 0, 1), (6, .newarray .byte, 2), (8, .putfield 9, 3), (11, .aload_n 0, 1), (12, .iconst 0, 1), (13, .putfield 15, 3), (16, .aload_n 0, 1), (17, .iconst 0, 1), (18, .putfield 19, 3), (21, .aload_n 0, 1), (22, .iconst 0, 1), (23, .putfield 22, 3), (26, .aload_n 0, 1), (27, .iconst 0, 1), (28, .putfield 25, 3), (31, .aload_n 0, 1), (32, .iconst 0, 1), (33, .putfield 28, 3), (36, .aload_n 0, 1), (37, .iconst 0, 1), (38, .putfield 31, 3), (41, .aload_n 0, 1), (42, .iconst (-1), 1), (43, .putfield 34, 3), (46, .return_, 1)]
set_option maxRecDepth 1000000 in
theorem eX3_init : ∀ q ∈ kX3_init, decode cX3_init q.1 = .ok q.2 := by decide +kernel
def kX3_read : Ci_t := [(0, .aload_n 0, 1), (1, .aload_n 1, 1), (2, .getfield 37, 3), (5, .putfield 9, 3), (8, .aload_n 0, 1), (9, .aload_n 1, 1), (10, .getfield 40, 3), (13, .putfield 15, 3), (16, .aload_n 0, 1), (17, .iconst 0, 1), (18, .putfield 31, 3), (21, .aload_n 0, 1), (22, .iconst (-1), 1), (23, .putfield 34, 3), (26, .aload_n 0, 1), (27, .iconst 0, 1), (28, .putfield 25, 3), (31, .aload_n 2, 1), (32, .invokevirtual 41, 3), (35, .aload_n 0, 1), (36, .invokevirtual 46, 3), (39, .iconst 0, 1), (40, .istore_n 3, 1), (41, .iload_n 3, 1), (42, .sipush 1200, 3), (45, .if_icmp .gt 28, 3), (48, .aload_n 0, 1), (49, .getfield 31, 3), (52, .ifCond .ne 21, 3), (55, .aload_n 0, 1), (56, .getfield 19, 3), (59, .ifCond .eq 14, 3), (62, .aload_n 0, 1), (63, .aload_n 2, 1), (64, .invokevirtual 49, 3), (67, .iinc 3 1, 3), (70, .goto (-29), 3), (73, .return_, 1)]
set_option maxRecDepth 1000000 in
theorem eX3_read : ∀ q ∈ kX3_read, decode cX3_read q.1 = .ok q.2 := by decide +kernel
def kX3_readLine : Ci_t := [(0, .aload_n 1, 1), (1, .getfield 53, 3), (4, .ifCond .ne 7, 3), (7, .iconst 1, 1), (8, .goto 4, 3), (11, .iconst 0, 1), (12, .istore_n 2, 1), (13, .iload_n 2, 1), (14, .ifCond .eq 24, 3), (17, .aload_n 0, 1), (18, .ldc 56, 2), (20, .invokevirtual 58, 3), (23, .ifCond .eq 15, 3), (26, .aload_n 0, 1), (27, .invokevirtual 46, 3), (30, .aload_n 0, 1), (31, .aload_n 1, 1), (32, .invokevirtual 62, 3), (35, .goto 124, 3), (38, .iload_n 2, 1), (39, .ifCond .ne 37, 3), (42, .aload_n 0, 1), (43, .ldc 65, 2), (45, .invokevirtual 58, 3), (48, .ifCond .eq 28, 3), (51, .aload_n 0, 1), (52, .aload_n 1, 1), (53, .getfield 67, 3), (56, .iconst 3, 1), (57, .if_icmp .ge 7, 3), (60, .iconst 1, 1), (61, .goto 4, 3), (64, .iconst 0, 1), (65, .invokevirtual 70, 3), (68, .aload_n 0, 1), (69, .aload_n 1, 1), (70, .invokevirtual 74, 3), (73, .goto 86, 3), (76, .iload_n 2, 1), (77, .ifCond .ne 38, 3), (80, .aload_n 0, 1), (81, .ldc 77, 2), (83, .invokevirtual 58, 3), (86, .ifCond .eq 29, 3), (89, .aload_n 0, 1), (90, .aload_n 1, 1), (91, .getfield 79, 3), (94, .bipush 12, 2), (96, .if_icmp .ge 7, 3), (99, .iconst 1, 1), (100, .goto 4, 3), (103, .iconst 0, 1), (104, .invokevirtual 70, 3), (107, .aload_n 0, 1), (108, .aload_n 1, 1), (109, .invokevirtual 82, 3), (112, .goto 47, 3), (115, .iload_n 2, 1), (116, .ifCond .ne 38, 3), (119, .aload_n 0, 1), (120, .ldc 85, 2), (122, .invokevirtual 58, 3), (125, .ifCond .eq 29, 3), (128, .aload_n 0, 1), (129, .aload_n 1, 1), (130, .getfield 87, 3), (133, .bipush 12, 2), (135, .if_icmp .ge 7, 3), (138, .iconst 1, 1), (139, .goto 4, 3), (142, .iconst 0, 1), (143, .invokevirtual 70, 3), (146, .aload_n 0, 1), (147, .aload_n 1, 1), (148, .invokevirtual 90, 3), (151, .goto 8, 3), (154, .aload_n 0, 1), (155, .iconst 1, 1), (156, .invokevirtual 93, 3), (159, .aload_n 0, 1), (160, .getfield 31, 3), (163, .ifCond .ne 16, 3), (166, .aload_n 0, 1), (167, .getfield 19, 3), (170, .iconst 3, 1), (171, .if_icmp .eq 8, 3), (174, .aload_n 0, 1), (175, .iconst 1, 1), (176, .invokevirtual 93, 3), (179, .aload_n 0, 1), (180, .getfield 31, 3), (183, .ifCond .ne 17, 3), (186, .aload_n 1, 1), (187, .dup, 1), (188, .getfield 53, 3), (191, .iconst 1, 1), (192, .iadd, 1), (193, .putfield 53, 3), (196, .aload_n 0, 1), (197, .invokevirtual 46, 3), (200, .return_, 1)]
set_option maxRecDepth 1000000 in
theorem eX3_readLine : ∀ q ∈ kX3_readLine, decode cX3_readLine q.1 = .ok q.2 := by decide +kernel
def kX3_startLine : Ci_t := [(0, .iload_n 1, 1), (1, .ifCond .eq 10, 3), (4, .aload_n 0, 1), (5, .invokevirtual 46, 3), (8, .goto 8, 3), (11, .aload_n 0, 1), (12, .iconst 3, 1), (13, .invokevirtual 93, 3), (16, .return_, 1)]
set_option maxRecDepth 1000000 in
theorem eX3_startLine : ∀ q ∈ kX3_startLine, decode cX3_startLine q.1 = .ok q.2 := by decide +kernel
def kX3_readRain : Ci_t := [(0, .aload_n 0, 1), (1, .ldc 97, 2), (3, .invokevirtual 99, 3), (6, .aload_n 1, 1), (7, .aload_n 0, 1), (8, .iconst 0, 1), (9, .bipush 100, 2), (11, .invokevirtual 103, 3), (14, .putfield 107, 3), (17, .return_, 1)]
set_option maxRecDepth 1000000 in
theorem eX3_readRain : ∀ q ∈ kX3_readRain, decode cX3_readRain q.1 = .ok q.2 := by decide +kernel
def kX3_readLand : Ci_t := [(0, .aload_n 0, 1), (1, .getfield 31, 3), (4, .ifCond .ne 11, 3), (7, .aload_n 1, 1), (8, .getfield 67, 3), (11, .iconst 3, 1), (12, .if_icmp .lt 4, 3), (15, .return_, 1), (16, .aload_n 1, 1), (17, .getfield 109, 3), (20, .aload_n 1, 1), (21, .getfield 67, 3), (24, .aaload, 1), (25, .astore_n 2, 1), (26, .aload_n 2, 1), (27, .invokevirtual 113, 3), (30, .aload_n 0, 1), (31, .ldc 116, 2), (33, .invokevirtual 99, 3), (36, .aload_n 2, 1), (37, .aload_n 0, 1), (38, .iconst 0, 1), (39, .sipush 999, 3), (42, .invokevirtual 103, 3), (45, .putfield 118, 3), (48, .aload_n 0, 1), (49, .ldc 120, 2), (51, .invokevirtual 99, 3), (54, .aload_n 2, 1), (55, .aload_n 0, 1), (56, .iconst 2, 1), (57, .bipush 10, 2), (59, .invokevirtual 103, 3), (62, .putfield 122, 3), (65, .aload_n 0, 1), (66, .ldc 124, 2), (68, .invokevirtual 99, 3), (71, .aload_n 2, 1), (72, .aload_n 0, 1), (73, .iconst 0, 1), (74, .iconst 1, 1), (75, .aload_n 2, 1), (76, .getfield 122, 3), (79, .ishl, 1), (80, .iconst 2, 1), (81, .isub, 1), (82, .invokevirtual 103, 3), (85, .putfield 126, 3), (88, .aload_n 0, 1), (89, .ldc 128, 2), (91, .invokevirtual 99, 3), (94, .aload_n 0, 1), (95, .aload_n 2, 1), (96, .invokevirtual 130, 3), (99, .aload_n 0, 1), (100, .getfield 31, 3), (103, .ifCond .ne 65, 3), (106, .aload_n 0, 1), (107, .ldc 134, 2), (109, .invokevirtual 58, 3), (112, .ifCond .eq 56, 3), (115, .aload_n 0, 1), (116, .invokevirtual 46, 3), (119, .aload_n 2, 1), (120, .aload_n 0, 1), (121, .iconst 2, 1), (122, .bipush 9, 2), (124, .invokevirtual 103, 3), (127, .putfield 136, 3), (130, .aload_n 0, 1), (131, .ldc 138, 2), (133, .invokevirtual 99, 3), (136, .aload_n 2, 1), (137, .aload_n 0, 1), (138, .iconst 0, 1), (139, .aload_n 2, 1), (140, .getfield 140, 3), (143, .iconst 1, 1), (144, .isub, 1), (145, .invokevirtual 103, 3), (148, .putfield 143, 3), (151, .aload_n 0, 1), (152, .ldc 146, 2), (154, .invokevirtual 99, 3), (157, .aload_n 2, 1), (158, .aload_n 0, 1), (159, .iconst 1, 1), (160, .bipush 9, 2), (162, .invokevirtual 103, 3), (165, .putfield 148, 3), (168, .aload_n 0, 1), (169, .getfield 31, 3), (172, .ifCond .ne 13, 3), (175, .aload_n 1, 1), (176, .dup, 1), (177, .getfield 67, 3), (180, .iconst 1, 1), (181, .iadd, 1), (182, .putfield 67, 3), (185, .return_, 1)]
set_option maxRecDepth 1000000 in
theorem eX3_readLand : ∀ q ∈ kX3_readLand, decode cX3_readLand q.1 = .ok q.2 := by decide +kernel
def kX3_readMonths : Ci_t := [(0, .aload_n 0, 1), (1, .iconst 1, 1), (2, .bipush 60, 2), (4, .invokevirtual 103, 3), (7, .istore_n 2, 1), (8, .iconst 0, 1), (9, .istore_n 3, 1), (10, .iload_n 3, 1), (11, .bipush 8, 2), (13, .if_icmp .ge 68, 3), (16, .aload_n 0, 1), (17, .getfield 31, 3), (20, .ifCond .ne 61, 3), (23, .aload_n 1, 1), (24, .iload_n 2, 1), (25, .invokevirtual 150, 3), (28, .aload_n 0, 1), (29, .getfield 19, 3), (32, .iconst 2, 1), (33, .if_icmp .eq 4, 3), (36, .return_, 1), (37, .iload_n 3, 1), (38, .iconst 1, 1), (39, .iadd, 1), (40, .bipush 8, 2), (42, .if_icmp .ne 25, 3), (45, .aload_n 0, 1), (46, .getfield 28, 3), (49, .iconst 1, 1), (50, .if_icmp .lt 17, 3), (53, .aload_n 0, 1), (54, .getfield 28, 3), (57, .bipush 60, 2), (59, .if_icmp .gt 8, 3), (62, .aload_n 0, 1), (63, .iconst 3, 1), (64, .invokevirtual 93, 3), (67, .aload_n 0, 1), (68, .iconst 1, 1), (69, .bipush 60, 2), (71, .invokevirtual 103, 3), (74, .istore_n 2, 1), (75, .iinc 3 1, 3), (78, .goto (-68), 3), (81, .return_, 1)]
set_option maxRecDepth 1000000 in
theorem eX3_readMonths : ∀ q ∈ kX3_readMonths, decode cX3_readMonths q.1 = .ok q.2 := by decide +kernel
def kX3_readFeast : Ci_t := [(0, .aload_n 0, 1), (1, .getfield 31, 3), (4, .ifCond .eq 4, 3), (7, .return_, 1), (8, .aload_n 0, 1), (9, .iconst 0, 1), (10, .aload_n 1, 1), (11, .getfield 67, 3), (14, .iconst 1, 1), (15, .isub, 1), (16, .invokevirtual 103, 3), (19, .istore_n 2, 1), (20, .aload_n 0, 1), (21, .iconst 0, 1), (22, .aload_n 1, 1), (23, .getfield 109, 3), (26, .iload_n 2, 1), (27, .aaload, 1), (28, .getfield 140, 3), (31, .iconst 1, 1), (32, .isub, 1), (33, .invokevirtual 103, 3), (36, .istore_n 3, 1), (37, .aload_n 0, 1), (38, .iconst 0, 1), (39, .aload_n 1, 1), (40, .getfield 109, 3), (43, .iload_n 2, 1), (44, .aaload, 1), (45, .getfield 153, 3), (48, .iload_n 3, 1), (49, .iaload, 1), (50, .iconst 1, 1), (51, .isub, 1), (52, .invokevirtual 103, 3), (55, .istore 4, 2), (57, .aload_n 0, 1), (58, .ldc 157, 2), (60, .invokevirtual 99, 3), (63, .aload_n 0, 1), (64, .iconst 1, 1), (65, .bipush 9, 2), (67, .invokevirtual 103, 3), (70, .istore 5, 2), (72, .aload_n 0, 1), (73, .getfield 31, 3), (76, .ifCond .ne 17, 3), (79, .aload_n 1, 1), (80, .aload_n 1, 1), (81, .getfield 79, 3), (84, .iload_n 2, 1), (85, .iload_n 3, 1), (86, .iload 4, 2), (88, .iload 5, 2), (90, .invokevirtual 159, 3), (93, .return_, 1)]
set_option maxRecDepth 1000000 in
theorem eX3_readFeast : ∀ q ∈ kX3_readFeast, decode cX3_readFeast q.1 = .ok q.2 := by decide +kernel
def kX3_readTruce : Ci_t := [(0, .aload_n 0, 1), (1, .getfield 31, 3), (4, .ifCond .eq 4, 3), (7, .return_, 1), (8, .aload_n 0, 1), (9, .iconst 0, 1), (10, .aload_n 1, 1), (11, .getfield 67, 3), (14, .iconst 1, 1), (15, .isub, 1), (16, .invokevirtual 103, 3), (19, .istore_n 2, 1), (20, .aload_n 0, 1), (21, .ldc 116, 2), (23, .invokevirtual 99, 3), (26, .aload_n 0, 1), (27, .iconst 0, 1), (28, .sipush 1999, 3), (31, .invokevirtual 103, 3), (34, .istore_n 3, 1), (35, .aload_n 0, 1), (36, .ldc 163, 2), (38, .invokevirtual 99, 3), (41, .aload_n 0, 1), (42, .iload_n 3, 1), (43, .sipush 1999, 3), (46, .invokevirtual 103, 3), (49, .istore 4, 2), (51, .aload_n 0, 1), (52, .getfield 31, 3), (55, .ifCond .ne 11, 3), (58, .aload_n 1, 1), (59, .iload_n 2, 1), (60, .iload_n 3, 1), (61, .iload 4, 2), (63, .invokevirtual 165, 3), (66, .return_, 1)]
set_option maxRecDepth 1000000 in
theorem eX3_readTruce : ∀ q ∈ kX3_readTruce, decode cX3_readTruce q.1 = .ok q.2 := by decide +kernel
def kX3_needWord : Ci_t := [(0, .aload_n 0, 1), (1, .getfield 31, 3), (4, .ifCond .ne 18, 3), (7, .aload_n 0, 1), (8, .aload_n 1, 1), (9, .invokevirtual 58, 3), (12, .ifCond .eq 10, 3), (15, .aload_n 0, 1), (16, .invokevirtual 46, 3), (19, .goto 8, 3), (22, .aload_n 0, 1), (23, .iconst 1, 1), (24, .invokevirtual 93, 3), (27, .return_, 1)]
set_option maxRecDepth 1000000 in
theorem eX3_needWord : ∀ q ∈ kX3_needWord, decode cX3_needWord q.1 = .ok q.2 := by decide +kernel
def kX3_needNumber : Ci_t := [(0, .aload_n 0, 1), (1, .getfield 31, 3), (4, .ifCond .eq 5, 3), (7, .iconst 0, 1), (8, .ireturn, 1), (9, .aload_n 0, 1), (10, .getfield 19, 3), (13, .iconst 2, 1), (14, .if_icmp .eq 10, 3), (17, .aload_n 0, 1), (18, .iconst 1, 1), (19, .invokevirtual 93, 3), (22, .iconst 0, 1), (23, .ireturn, 1), (24, .aload_n 0, 1), (25, .getfield 28, 3), (28, .iload_n 1, 1), (29, .if_icmp .lt 11, 3), (32, .aload_n 0, 1), (33, .getfield 28, 3), (36, .iload_n 2, 1), (37, .if_icmp .le 10, 3), (40, .aload_n 0, 1), (41, .iconst 2, 1), (42, .invokevirtual 93, 3), (45, .iconst 0, 1), (46, .ireturn, 1), (47, .aload_n 0, 1), (48, .getfield 28, 3), (51, .istore_n 3, 1), (52, .aload_n 0, 1), (53, .invokevirtual 46, 3), (56, .iload_n 3, 1), (57, .ireturn, 1)]
set_option maxRecDepth 1000000 in
theorem eX3_needNumber : ∀ q ∈ kX3_needNumber, decode cX3_needNumber q.1 = .ok q.2 := by decide +kernel
def kX3_refuse : Ci_t := [(0, .aload_n 0, 1), (1, .getfield 31, 3), (4, .ifCond .ne 16, 3), (7, .aload_n 0, 1), (8, .iload_n 1, 1), (9, .putfield 31, 3), (12, .aload_n 0, 1), (13, .aload_n 0, 1), (14, .getfield 22, 3), (17, .putfield 34, 3), (20, .return_, 1)]
set_option maxRecDepth 1000000 in
theorem eX3_refuse : ∀ q ∈ kX3_refuse, decode cX3_refuse q.1 = .ok q.2 := by decide +kernel
def kX3_isWord : Ci_t := [(0, .aload_n 0, 1), (1, .getfield 19, 3), (4, .iconst 1, 1), (5, .if_icmp .ne 19, 3), (8, .aload_n 0, 1), (9, .getfield 25, 3), (12, .aload_n 0, 1), (13, .getfield 22, 3), (16, .isub, 1), (17, .aload_n 1, 1), (18, .invokevirtual 169, 3), (21, .if_icmp .eq 5, 3), (24, .iconst 0, 1), (25, .ireturn, 1), (26, .iconst 0, 1), (27, .istore_n 2, 1), (28, .iload_n 2, 1), (29, .aload_n 1, 1), (30, .invokevirtual 169, 3), (33, .if_icmp .ge 31, 3), (36, .aload_n 0, 1), (37, .getfield 9, 3), (40, .aload_n 0, 1), (41, .getfield 22, 3), (44, .iload_n 2, 1), (45, .iadd, 1), (46, .baload, 1), (47, .aload_n 1, 1), (48, .iload_n 2, 1), (49, .invokevirtual 175, 3), (52, .i2b, 1), (53, .if_icmp .eq 5, 3), (56, .iconst 0, 1), (57, .ireturn, 1), (58, .iinc 2 1, 3), (61, .goto (-33), 3), (64, .iconst 1, 1), (65, .ireturn, 1)]
set_option maxRecDepth 1000000 in
theorem eX3_isWord : ∀ q ∈ kX3_isWord, decode cX3_isWord q.1 = .ok q.2 := by decide +kernel
def kX3_step : Ci_t := [(0, .aload_n 0, 1), (1, .aload_n 0, 1), (2, .getfield 25, 3), (5, .putfield 22, 3), (8, .aload_n 0, 1), (9, .getfield 22, 3), (12, .aload_n 0, 1), (13, .getfield 15, 3), (16, .if_icmp .ge 44, 3), (19, .aload_n 0, 1), (20, .getfield 9, 3), (23, .aload_n 0, 1), (24, .getfield 22, 3), (27, .baload, 1), (28, .bipush 32, 2), (30, .if_icmp .eq 17, 3), (33, .aload_n 0, 1), (34, .getfield 9, 3), (37, .aload_n 0, 1), (38, .getfield 22, 3), (41, .baload, 1), (42, .bipush 10, 2), (44, .if_icmp .ne 16, 3), (47, .aload_n 0, 1), (48, .dup, 1), (49, .getfield 22, 3), (52, .iconst 1, 1), (53, .iadd, 1), (54, .putfield 22, 3), (57, .goto (-49), 3), (60, .aload_n 0, 1), (61, .aload_n 0, 1), (62, .getfield 22, 3), (65, .putfield 25, 3), (68, .aload_n 0, 1), (69, .iconst 0, 1), (70, .putfield 28, 3), (73, .aload_n 0, 1), (74, .getfield 25, 3), (77, .aload_n 0, 1), (78, .getfield 15, 3), (81, .if_icmp .ge 44, 3), (84, .aload_n 0, 1), (85, .getfield 9, 3), (88, .aload_n 0, 1), (89, .getfield 25, 3), (92, .baload, 1), (93, .bipush 97, 2), (95, .if_icmp .lt 30, 3), (98, .aload_n 0, 1), (99, .getfield 9, 3), (102, .aload_n 0, 1), (103, .getfield 25, 3), (106, .baload, 1), (107, .bipush 122, 2), (109, .if_icmp .gt 16, 3), (112, .aload_n 0, 1), (113, .dup, 1), (114, .getfield 25, 3), (117, .iconst 1, 1), (118, .iadd, 1), (119, .putfield 25, 3), (122, .goto (-49), 3), (125, .aload_n 0, 1), (126, .getfield 25, 3), (129, .aload_n 0, 1), (130, .getfield 22, 3), (133, .if_icmp .le 9, 3), (136, .aload_n 0, 1), (137, .iconst 1, 1), (138, .putfield 19, 3), (141, .return_, 1), (142, .aload_n 0, 1), (143, .getfield 25, 3), (146, .aload_n 0, 1), (147, .getfield 15, 3), (150, .if_icmp .ge 77, 3), (153, .aload_n 0, 1), (154, .getfield 9, 3), (157, .aload_n 0, 1), (158, .getfield 25, 3), (161, .baload, 1), (162, .bipush 48, 2), (164, .if_icmp .lt 63, 3), (167, .aload_n 0, 1), (168, .getfield 9, 3), (171, .aload_n 0, 1), (172, .getfield 25, 3), (175, .baload, 1), (176, .bipush 57, 2), (178, .if_icmp .gt 49, 3), (181, .aload_n 0, 1), (182, .getfield 28, 3), (185, .ldc 179, 2), (187, .if_icmp .ge 27, 3), (190, .aload_n 0, 1), (191, .aload_n 0, 1), (192, .getfield 28, 3), (195, .bipush 10, 2), (197, .imul, 1), (198, .aload_n 0, 1), (199, .getfield 9, 3), (202, .aload_n 0, 1), (203, .getfield 25, 3), (206, .baload, 1), (207, .iadd, 1), (208, .bipush 48, 2), (210, .isub, 1), (211, .putfield 28, 3), (214, .aload_n 0, 1), (215, .dup, 1), (216, .getfield 25, 3), (219, .iconst 1, 1), (220, .iadd, 1), (221, .putfield 25, 3), (224, .goto (-82), 3), (227, .aload_n 0, 1), (228, .getfield 25, 3), (231, .aload_n 0, 1), (232, .getfield 22, 3), (235, .if_icmp .le 11, 3), (238, .aload_n 0, 1), (239, .iconst 2, 1), (240, .putfield 19, 3), (243, .goto 55, 3), (246, .aload_n 0, 1), (247, .getfield 22, 3), (250, .aload_n 0, 1), (251, .getfield 15, 3), (254, .if_icmp .lt 11, 3), (257, .aload_n 0, 1), (258, .iconst 0, 1), (259, .putfield 19, 3), (262, .goto 36, 3), (265, .aload_n 0, 1), (266, .aload_n 0, 1), (267, .getfield 9, 3), (270, .aload_n 0, 1), (271, .getfield 22, 3), (274, .baload, 1), (275, .bipush 59, 2), (277, .if_icmp .ne 7, 3), (280, .iconst 3, 1), (281, .goto 4, 3), (284, .iconst 4, 1), (285, .putfield 19, 3), (288, .aload_n 0, 1), (289, .aload_n 0, 1), (290, .getfield 22, 3), (293, .iconst 1, 1), (294, .iadd, 1), (295, .putfield 25, 3), (298, .return_, 1)]
set_option maxRecDepth 1000000 in
theorem eX3_step : ∀ q ∈ kX3_step, decode cX3_step q.1 = .ok q.2 := by decide +kernel
def kX4_init : Ci_t := [(0, .aload_n 0, 1), (1, .invokespecial 3, 3), (4, .aload_n 0, 1), (5, .bipush 60, 2), (7, .newarray .long, 2), (9, .putfield 9, 3), (12, .aload_n 0, 1), (13, .iconst 0, 1), (14, .putfield 15, 3), (17, .aload_n 0, 1), (18, .iconst 0, 1), (19, .putfield 19, 3), (22, .aload_n 0, 1), (23, .iconst 0, 1), (24, .putfield 23, 3), (27, .return_, 1)]
set_option maxRecDepth 1000000 in
theorem eX4_init : ∀ q ∈ kX4_init, decode cX4_init q.1 = .ok q.2 := by decide +kernel
def kX4_renew : Ci_t := [(0, .aload_n 0, 1), (1, .iconst 1, 1), (2, .putfield 15, 3), (5, .aload_n 0, 1), (6, .iload_n 1, 1), (7, .putfield 19, 3), (10, .aload_n 0, 1), (11, .iload_n 2, 1), (12, .putfield 23, 3), (15, .aload_n 0, 1), (16, .getfield 9, 3), (19, .lconst 0, 1), (20, .invokestatic 26, 3), (23, .return_, 1)]
set_option maxRecDepth 1000000 in
theorem eX4_renew : ∀ q ∈ kX4_renew, decode cX4_renew q.1 = .ok q.2 := by decide +kernel
def kX4_cut : Ci_t := [(0, .aload_n 0, 1), (1, .getfield 19, 3), (4, .tableswitch 42 0 2 #[28, 33, 38], 28), (32, .lload_n 1, 1), (33, .l2i, 1), (34, .i2b, 1), (35, .i2l, 1), (36, .lreturn, 1), (37, .lload_n 1, 1), (38, .l2i, 1), (39, .i2s, 1), (40, .i2l, 1), (41, .lreturn, 1), (42, .lload_n 1, 1), (43, .l2i, 1), (44, .i2l, 1), (45, .lreturn, 1), (46, .lload_n 1, 1), (47, .lreturn, 1)]
set_option maxRecDepth 1000000 in
theorem eX4_cut : ∀ q ∈ kX4_cut, decode cX4_cut q.1 = .ok q.2 := by decide +kernel
def kX4_hasStretch : Ci_t := [(0, .iload_n 1, 1), (1, .ifCond .lt 29, 3), (4, .iload_n 2, 1), (5, .ifCond .lt 25, 3), (8, .iload_n 2, 1), (9, .aload_n 0, 1), (10, .getfield 23, 3), (13, .if_icmp .gt 17, 3), (16, .iload_n 1, 1), (17, .aload_n 0, 1), (18, .getfield 23, 3), (21, .iload_n 2, 1), (22, .isub, 1), (23, .if_icmp .gt 7, 3), (26, .iconst 1, 1), (27, .goto 4, 3), (30, .iconst 0, 1), (31, .ireturn, 1)]
set_option maxRecDepth 1000000 in
theorem eX4_hasStretch : ∀ q ∈ kX4_hasStretch, decode cX4_hasStretch q.1 = .ok q.2 := by decide +kernel
def kX4_areSmall : Ci_t := [(0, .iload_n 1, 1), (1, .istore_n 3, 1), (2, .iload_n 3, 1), (3, .iload_n 1, 1), (4, .iload_n 2, 1), (5, .iadd, 1), (6, .if_icmp .ge 43, 3), (9, .iload_n 3, 1), (10, .aload_n 0, 1), (11, .getfield 23, 3), (14, .if_icmp .ge 35, 3), (17, .aload_n 0, 1), (18, .getfield 9, 3), (21, .iload_n 3, 1), (22, .laload, 1), (23, .lconst 0, 1), (24, .lcmp, 1), (25, .ifCond .lt 16, 3), (28, .aload_n 0, 1), (29, .getfield 9, 3), (32, .iload_n 3, 1), (33, .laload, 1), (34, .ldc2_w 32, 3), (37, .lcmp, 1), (38, .ifCond .lt 5, 3), (41, .iconst 0, 1), (42, .ireturn, 1), (43, .iinc 3 1, 3), (46, .goto (-44), 3), (49, .iconst 1, 1), (50, .ireturn, 1)]
set_option maxRecDepth 1000000 in
theorem eX4_areSmall : ∀ q ∈ kX4_areSmall, decode cX4_areSmall q.1 = .ok q.2 := by decide +kernel
def kX5_init : Ci_t := [(0, .aload_n 0, 1), (1, .invokespecial 3, 3), (4, .aload_n 0, 1), (5, .bipush 69, 2), (7, .newarray .boolean, 2), (9, .putfield 9, 3), (12, .aload_n 0, 1), (13, .iconst 0, 1), (14, .putfield 15, 3), (17, .aload_n 0, 1), (18, .lconst 0, 1), (19, .putfield 19, 3), (22, .return_, 1)]
set_option maxRecDepth 1000000 in
theorem eX5_init : ∀ q ∈ kX5_init, decode cX5_init q.1 = .ok q.2 := by decide +kernel
def kX5_seek : Ci_t := [(0, .iconst 0, 1), (1, .istore 8, 2), (3, .iload 8, 2), (5, .aload_n 0, 1), (6, .getfield 9, 3), (9, .arraylength, 1), (10, .if_icmp .ge 17, 3), (13, .aload_n 0, 1), (14, .getfield 9, 3), (17, .iload 8, 2), (19, .iconst 0, 1), (20, .bastore, 1), (21, .iinc 8 1, 3), (24, .goto (-21), 3), (27, .iload 5, 2), (29, .istore 8, 2), (31, .iload 8, 2), (33, .iload 5, 2), (35, .iload 6, 2), (37, .iadd, 1), (38, .if_icmp .ge 32, 3), (41, .aload_n 0, 1), (42, .aload_n 1, 1), (43, .iload 8, 2), (45, .iload 4, 2), (47, .iconst 0, 1), (48, .invokevirtual 23, 3), (51, .aload_n 1, 1), (52, .iload 4, 2), (54, .iload 8, 2), (56, .invokevirtual 29, 3), (59, .aload_n 2, 1), (60, .iload_n 3, 1), (61, .invokevirtual 33, 3), (64, .iinc 8 1, 3), (67, .goto (-36), 3), (70, .aload_n 0, 1), (71, .aload_n 1, 1), (72, .getfield 37, 3), (75, .iload 4, 2), (77, .iaload, 1), (78, .iconst 1, 1), (79, .isub, 1), (80, .iload 7, 2), (82, .invokevirtual 41, 3), (85, .return_, 1)]
set_option maxRecDepth 1000000 in
theorem eX5_seek : ∀ q ∈ kX5_seek, decode cX5_seek q.1 = .ok q.2 := by decide +kernel
def kX5_openDays : Ci_t := [(0, .iconst 0, 1), (1, .istore 5, 2), (3, .iload 5, 2), (5, .iload_n 2, 1), (6, .if_icmp .ge 42, 3), (9, .iload_n 1, 1), (10, .iload 5, 2), (12, .iadd, 1), (13, .sipush 2000, 3), (16, .if_icmp .ge 32, 3), (19, .aload_n 3, 1), (20, .iload 4, 2), (22, .iload_n 1, 1), (23, .iload 5, 2), (25, .iadd, 1), (26, .iconst 4, 1), (27, .invokevirtual 45, 3), (30, .iconst 1, 1), (31, .if_icmp .ne 11, 3), (34, .aload_n 0, 1), (35, .getfield 9, 3), (38, .iload 5, 2), (40, .iconst 1, 1), (41, .bastore, 1), (42, .iinc 5 1, 3), (45, .goto (-42), 3), (48, .return_, 1)]
set_option maxRecDepth 1000000 in
theorem eX5_openDays : ∀ q ∈ kX5_openDays, decode cX5_openDays q.1 = .ok q.2 := by decide +kernel
def kX5_cover : Ci_t := [(0, .aload_n 0, 1), (1, .iconst 0, 1), (2, .putfield 15, 3), (5, .aload_n 0, 1), (6, .lconst 0, 1), (7, .putfield 19, 3), (10, .iconst 0, 1), (11, .istore_n 3, 1), (12, .iconst 0, 1), (13, .istore 4, 2), (15, .iload 4, 2), (17, .aload_n 0, 1), (18, .getfield 9, 3), (21, .arraylength, 1), (22, .if_icmp .ge 80, 3), (25, .aload_n 0, 1), (26, .getfield 9, 3), (29, .iload 4, 2), (31, .baload, 1), (32, .ifCond .eq 64, 3), (35, .iload 4, 2), (37, .iload_n 3, 1), (38, .if_icmp .lt 58, 3), (41, .iload 4, 2), (43, .iload_n 1, 1), (44, .invokestatic 50, 3), (47, .istore 5, 2), (49, .iload 5, 2), (51, .iload_n 2, 1), (52, .iadd, 1), (53, .istore_n 3, 1), (54, .iload 4, 2), (56, .iload_n 3, 1), (57, .if_icmp .lt 16, 3), (60, .aload_n 0, 1), (61, .iconst (-1), 1), (62, .putfield 15, 3), (65, .aload_n 0, 1), (66, .ldc2_w 55, 3), (69, .putfield 19, 3), (72, .return_, 1), (73, .aload_n 0, 1), (74, .dup, 1), (75, .getfield 15, 3), (78, .iconst 1, 1), (79, .iadd, 1), (80, .putfield 15, 3), (83, .aload_n 0, 1), (84, .dup, 1), (85, .getfield 19, 3), (88, .lconst 1, 1), (89, .iload 5, 2), (91, .lshl, 1), (92, .lor, 1), (93, .putfield 19, 3), (96, .iinc 4 1, 3), (99, .goto (-84), 3), (102, .return_, 1)]
set_option maxRecDepth 1000000 in
theorem eX5_cover : ∀ q ∈ kX5_cover, decode cX5_cover q.1 = .ok q.2 := by decide +kernel
def kX6_init : Ci_t := [(0, .aload_n 0, 1), (1, .invokespecial 3, 3), (4, .aload_n 0, 1), (5, .sipush 2000, 3), (8, .newarray .int, 2), (10, .putfield 9, 3), (13, .aload_n 0, 1), (14, .iconst 0, 1), (15, .putfield 15, 3), (18, .aload_n 0, 1), (19, .bipush 12, 2), (21, .newarray .int, 2), (23, .putfield 19, 3), (26, .aload_n 0, 1), (27, .iconst (-1), 1), (28, .putfield 22, 3), (31, .aload_n 0, 1), (32, .iconst 0, 1), (33, .putfield 25, 3), (36, .return_, 1)]
set_option maxRecDepth 1000000 in
theorem eX6_init : ∀ q ∈ kX6_init, decode cX6_init q.1 = .ok q.2 := by decide +kernel
def kX6_isTold : Ci_t := [(0, .aload_n 1, 1), (1, .getfield 28, 3), (4, .iconst 3, 1), (5, .irem, 1), (6, .ifCond .eq 5, 3), (9, .iconst 0, 1), (10, .ireturn, 1), (11, .iconst 0, 1), (12, .istore_n 3, 1), (13, .iload_n 3, 1), (14, .iconst 3, 1), (15, .iadd, 1), (16, .aload_n 1, 1), (17, .getfield 28, 3), (20, .if_icmp .gt 60, 3), (23, .aload_n 1, 1), (24, .getfield 31, 3), (27, .iload_n 3, 1), (28, .laload, 1), (29, .lstore 4, 2), (31, .aload_n 1, 1), (32, .getfield 31, 3), (35, .iload_n 3, 1), (36, .iconst 1, 1), (37, .iadd, 1), (38, .laload, 1), (39, .lstore 6, 2), (41, .lload 4, 2), (43, .lconst 0, 1), (44, .lcmp, 1), (45, .ifCond .lt 27, 3), (48, .lload 4, 2), (50, .iload_n 2, 1), (51, .i2l, 1), (52, .lcmp, 1), (53, .ifCond .ge 19, 3), (56, .lload 6, 2), (58, .lconst 0, 1), (59, .lcmp, 1), (60, .ifCond .lt 12, 3), (63, .lload 6, 2), (65, .ldc2_w 35, 3), (68, .lcmp, 1), (69, .ifCond .le 5, 3), (72, .iconst 0, 1), (73, .ireturn, 1), (74, .iinc 3 3, 3), (77, .goto (-64), 3), (80, .iconst 1, 1), (81, .ireturn, 1)]
set_option maxRecDepth 1000000 in
theorem eX6_isTold : ∀ q ∈ kX6_isTold, decode cX6_isTold q.1 = .ok q.2 := by decide +kernel
def kX6_gather : Ci_t := [(0, .aload_n 0, 1), (1, .iconst 0, 1), (2, .putfield 15, 3), (5, .iload_n 3, 1), (6, .istore 5, 2), (8, .iload 5, 2), (10, .iload 4, 2), (12, .if_icmp .gt 41, 3), (15, .aload_n 0, 1), (16, .aload_n 1, 1), (17, .aload_n 2, 1), (18, .iload 5, 2), (20, .invokevirtual 37, 3), (23, .ifCond .eq 24, 3), (26, .aload_n 0, 1), (27, .getfield 9, 3), (30, .aload_n 0, 1), (31, .getfield 15, 3), (34, .iload 5, 2), (36, .iastore, 1), (37, .aload_n 0, 1), (38, .dup, 1), (39, .getfield 15, 3), (42, .iconst 1, 1), (43, .iadd, 1), (44, .putfield 15, 3), (47, .iinc 5 1, 3), (50, .goto (-42), 3), (53, .return_, 1)]
set_option maxRecDepth 1000000 in
theorem eX6_gather : ∀ q ∈ kX6_gather, decode cX6_gather q.1 = .ok q.2 := by decide +kernel
def kX6_fitsAll : Ci_t := [(0, .iconst 0, 1), (1, .istore 4, 2), (3, .iload 4, 2), (5, .iconst 3, 1), (6, .iadd, 1), (7, .aload_n 1, 1), (8, .getfield 28, 3), (11, .if_icmp .gt 58, 3), (14, .aload_n 2, 1), (15, .aload_n 1, 1), (16, .getfield 31, 3), (19, .iload 4, 2), (21, .laload, 1), (22, .l2i, 1), (23, .iload_n 3, 1), (24, .aload_n 1, 1), (25, .getfield 31, 3), (28, .iload 4, 2), (30, .iconst 1, 1), (31, .iadd, 1), (32, .laload, 1), (33, .l2i, 1), (34, .invokevirtual 41, 3), (37, .istore 5, 2), (39, .iload 5, 2), (41, .iconst (-1), 1), (42, .if_icmp .eq 19, 3), (45, .iload 5, 2), (47, .i2l, 1), (48, .aload_n 1, 1), (49, .getfield 31, 3), (52, .iload 4, 2), (54, .iconst 2, 1), (55, .iadd, 1), (56, .laload, 1), (57, .lcmp, 1), (58, .ifCond .eq 5, 3), (61, .iconst 0, 1), (62, .ireturn, 1), (63, .iinc 4 3, 3), (66, .goto (-63), 3), (69, .iconst 1, 1), (70, .ireturn, 1)]
set_option maxRecDepth 1000000 in
theorem eX6_fitsAll : ∀ q ∈ kX6_fitsAll, decode cX6_fitsAll q.1 = .ok q.2 := by decide +kernel
def kX6_fightersOnAll : Ci_t := [(0, .aload_n 0, 1), (1, .getfield 15, 3), (4, .ifCond .ne 7, 3), (7, .iconst 0, 1), (8, .goto 14, 3), (11, .aload_n 1, 1), (12, .getfield 47, 3), (15, .aload_n 0, 1), (16, .getfield 9, 3), (19, .iconst 0, 1), (20, .iaload, 1), (21, .baload, 1), (22, .istore_n 2, 1), (23, .iconst 1, 1), (24, .istore_n 3, 1), (25, .iload_n 3, 1), (26, .aload_n 0, 1), (27, .getfield 15, 3), (30, .if_icmp .ge 23, 3), (33, .iload_n 2, 1), (34, .aload_n 1, 1), (35, .getfield 47, 3), (38, .aload_n 0, 1), (39, .getfield 9, 3), (42, .iload_n 3, 1), (43, .iaload, 1), (44, .baload, 1), (45, .iand, 1), (46, .istore_n 2, 1), (47, .iinc 3 1, 3), (50, .goto (-25), 3), (53, .iload_n 2, 1), (54, .ireturn, 1)]
set_option maxRecDepth 1000000 in
theorem eX6_fightersOnAll : ∀ q ∈ kX6_fightersOnAll, decode cX6_fightersOnAll q.1 = .ok q.2 := by decide +kernel
def kX6_fightersOnSome : Ci_t := [(0, .iconst 0, 1), (1, .istore_n 2, 1), (2, .iconst 0, 1), (3, .istore_n 3, 1), (4, .iload_n 3, 1), (5, .aload_n 0, 1), (6, .getfield 15, 3), (9, .if_icmp .ge 23, 3), (12, .iload_n 2, 1), (13, .aload_n 1, 1), (14, .getfield 47, 3), (17, .aload_n 0, 1), (18, .getfield 9, 3), (21, .iload_n 3, 1), (22, .iaload, 1), (23, .baload, 1), (24, .ior, 1), (25, .istore_n 2, 1), (26, .iinc 3 1, 3), (29, .goto (-25), 3), (32, .iload_n 2, 1), (33, .ireturn, 1)]
set_option maxRecDepth 1000000 in
theorem eX6_fightersOnSome : ∀ q ∈ kX6_fightersOnSome, decode cX6_fightersOnSome q.1 = .ok q.2 := by decide +kernel
def kX6_seekQuestion : Ci_t := [(0, .aload_n 0, 1), (1, .iconst (-1), 1), (2, .putfield 22, 3), (5, .aload_n 0, 1), (6, .aload_n 0, 1), (7, .getfield 15, 3), (10, .putfield 25, 3), (13, .iconst 0, 1), (14, .istore_n 3, 1), (15, .iload_n 3, 1), (16, .iload_n 2, 1), (17, .if_icmp .ge 30, 3), (20, .aload_n 0, 1), (21, .aload_n 1, 1), (22, .iload_n 3, 1), (23, .iconst 1, 1), (24, .invokevirtual 51, 3), (27, .aload_n 0, 1), (28, .aload_n 1, 1), (29, .iload_n 3, 1), (30, .iconst 3, 1), (31, .invokevirtual 51, 3), (34, .aload_n 0, 1), (35, .aload_n 1, 1), (36, .iload_n 3, 1), (37, .iconst 4, 1), (38, .invokevirtual 51, 3), (41, .iinc 3 1, 3), (44, .goto (-29), 3), (47, .return_, 1)]
set_option maxRecDepth 1000000 in
theorem eX6_seekQuestion : ∀ q ∈ kX6_seekQuestion, decode cX6_seekQuestion q.1 = .ok q.2 := by decide +kernel
def kX6_tryQuestion : Ci_t := [(0, .aload_n 0, 1), (1, .getfield 19, 3), (4, .iconst 0, 1), (5, .invokestatic 55, 3), (8, .iconst 0, 1), (9, .istore 4, 2), (11, .iconst 0, 1), (12, .istore 5, 2), (14, .iload 5, 2), (16, .aload_n 0, 1), (17, .getfield 15, 3), (20, .if_icmp .ge 51, 3), (23, .aload_n 1, 1), (24, .iload_n 2, 1), (25, .aload_n 0, 1), (26, .getfield 9, 3), (29, .iload 5, 2), (31, .iaload, 1), (32, .iload_n 3, 1), (33, .invokevirtual 41, 3), (36, .iconst 1, 1), (37, .iadd, 1), (38, .istore 6, 2), (40, .aload_n 0, 1), (41, .getfield 19, 3), (44, .iload 6, 2), (46, .dup2, 1), (47, .iaload, 1), (48, .iconst 1, 1), (49, .iadd, 1), (50, .iastore, 1), (51, .iload 4, 2), (53, .aload_n 0, 1), (54, .getfield 19, 3), (57, .iload 6, 2), (59, .iaload, 1), (60, .invokestatic 61, 3), (63, .istore 4, 2), (65, .iinc 5 1, 3), (68, .goto (-54), 3), (71, .iload 4, 2), (73, .aload_n 0, 1), (74, .getfield 25, 3), (77, .if_icmp .ge 19, 3), (80, .aload_n 0, 1), (81, .iload 4, 2), (83, .putfield 25, 3), (86, .aload_n 0, 1), (87, .bipush 10, 2), (89, .iload_n 2, 1), (90, .imul, 1), (91, .iload_n 3, 1), (92, .iadd, 1), (93, .putfield 22, 3), (96, .return_, 1)]
set_option maxRecDepth 1000000 in
theorem eX6_tryQuestion : ∀ q ∈ kX6_tryQuestion, decode cX6_tryQuestion q.1 = .ok q.2 := by decide +kernel
def kX7_init : Ci_t := [(0, .aload_n 0, 1), (1, .invokespecial 3, 3), (4, .aload_n 0, 1), (5, .bipush 40, 2), (7, .newarray .int, 2), (9, .putfield 9, 3), (12, .aload_n 0, 1), (13, .iconst 0, 1), (14, .putfield 15, 3), (17, .aload_n 0, 1), (18, .bipush 41, 2), (20, .newarray .int, 2), (22, .putfield 19, 3), (25, .aload_n 0, 1), (26, .iconst (-1), 1), (27, .putfield 22, 3), (30, .aload_n 0, 1), (31, .iconst 0, 1), (32, .putfield 25, 3), (35, .return_, 1)]
set_option maxRecDepth 1000000 in
theorem eX7_init : ∀ q ∈ kX7_init, decode cX7_init q.1 = .ok q.2 := by decide +kernel
def kX7_play : Ci_t := [(0, .aload_n 0, 1), (1, .aload_n 1, 1), (2, .iload_n 2, 1), (3, .iload_n 3, 1), (4, .iload 4, 2), (6, .iload 5, 2), (8, .invokevirtual 28, 3), (11, .iconst 0, 1), (12, .istore 6, 2), (14, .iload 6, 2), (16, .iload 5, 2), (18, .if_icmp .gt 17, 3), (21, .aload_n 0, 1), (22, .getfield 19, 3), (25, .iload 6, 2), (27, .iconst (-1), 1), (28, .iastore, 1), (29, .iinc 6 1, 3), (32, .goto (-18), 3), (35, .aload_n 0, 1), (36, .getfield 15, 3), (39, .iconst 1, 1), (40, .isub, 1), (41, .istore 6, 2), (43, .iload 6, 2), (45, .iconst 1, 1), (46, .if_icmp .lt 58, 3), (49, .iload 5, 2), (51, .istore 7, 2), (53, .iload 7, 2), (55, .iconst 1, 1), (56, .if_icmp .lt 42, 3), (59, .aload_n 0, 1), (60, .getfield 19, 3), (63, .iload 7, 2), (65, .aload_n 0, 1), (66, .aload_n 0, 1), (67, .getfield 9, 3), (70, .iload 6, 2), (72, .iaload, 1), (73, .iload 7, 2), (75, .aload_n 0, 1), (76, .aload_n 0, 1), (77, .getfield 9, 3), (80, .iload 6, 2), (82, .iaload, 1), (83, .iload 7, 2), (85, .invokevirtual 32, 3), (88, .invokevirtual 36, 3), (91, .iastore, 1), (92, .iinc 7 (-1), 3), (95, .goto (-42), 3), (98, .iinc 6 (-1), 3), (101, .goto (-58), 3), (104, .aload_n 0, 1), (105, .aload_n 0, 1), (106, .getfield 15, 3), (109, .ifCond .ne 7, 3), (112, .iconst 0, 1), (113, .goto 15, 3), (116, .aload_n 0, 1), (117, .aload_n 0, 1), (118, .getfield 9, 3), (121, .iconst 0, 1), (122, .iaload, 1), (123, .iload 5, 2), (125, .invokevirtual 32, 3), (128, .putfield 25, 3), (131, .aload_n 0, 1), (132, .aload_n 0, 1), (133, .getfield 15, 3), (136, .ifCond .ne 7, 3), (139, .iconst (-1), 1), (140, .goto 19, 3), (143, .aload_n 0, 1), (144, .aload_n 0, 1), (145, .getfield 9, 3), (148, .iconst 0, 1), (149, .iaload, 1), (150, .iload 5, 2), (152, .aload_n 0, 1), (153, .getfield 25, 3), (156, .invokevirtual 36, 3), (159, .putfield 22, 3), (162, .return_, 1)]
set_option maxRecDepth 1000000 in
theorem eX7_play : ∀ q ∈ kX7_play, decode cX7_play q.1 = .ok q.2 := by decide +kernel
def kX7_listTurns : Ci_t := [(0, .aload_n 0, 1), (1, .iconst 0, 1), (2, .putfield 15, 3), (5, .iload 4, 2), (7, .istore 6, 2), (9, .iload 6, 2), (11, .sipush 2000, 3), (14, .if_icmp .ge 91, 3), (17, .aload_n 0, 1), (18, .getfield 15, 3), (21, .iload 5, 2), (23, .if_icmp .ge 82, 3), (26, .aload_n 1, 1), (27, .iload_n 2, 1), (28, .iload 6, 2), (30, .iconst 4, 1), (31, .invokevirtual 40, 3), (34, .iconst 1, 1), (35, .if_icmp .ne 23, 3), (38, .aload_n 0, 1), (39, .getfield 9, 3), (42, .aload_n 0, 1), (43, .getfield 15, 3), (46, .iload_n 2, 1), (47, .iastore, 1), (48, .aload_n 0, 1), (49, .dup, 1), (50, .getfield 15, 3), (53, .iconst 1, 1), (54, .iadd, 1), (55, .putfield 15, 3), (58, .aload_n 0, 1), (59, .getfield 15, 3), (62, .iload 5, 2), (64, .if_icmp .ge 35, 3), (67, .aload_n 1, 1), (68, .iload_n 3, 1), (69, .iload 6, 2), (71, .iconst 4, 1), (72, .invokevirtual 40, 3), (75, .iconst 1, 1), (76, .if_icmp .ne 23, 3), (79, .aload_n 0, 1), (80, .getfield 9, 3), (83, .aload_n 0, 1), (84, .getfield 15, 3), (87, .iload_n 3, 1), (88, .iastore, 1), (89, .aload_n 0, 1), (90, .dup, 1), (91, .getfield 15, 3), (94, .iconst 1, 1), (95, .iadd, 1), (96, .putfield 15, 3), (99, .iinc 6 1, 3), (102, .goto (-93), 3), (105, .return_, 1)]
set_option maxRecDepth 1000000 in
theorem eX7_listTurns : ∀ q ∈ kX7_listTurns, decode cX7_listTurns q.1 = .ok q.2 := by decide +kernel
def kX7_bestTake : Ci_t := [(0, .iload_n 2, 1), (1, .iconst 2, 1), (2, .if_icmp .lt 20, 3), (5, .aload_n 0, 1), (6, .iload_n 1, 1), (7, .iload_n 2, 1), (8, .iconst 1, 1), (9, .invokevirtual 45, 3), (12, .aload_n 0, 1), (13, .iload_n 1, 1), (14, .iload_n 2, 1), (15, .iconst 2, 1), (16, .invokevirtual 45, 3), (19, .if_icmp .lt 5, 3), (22, .iconst 1, 1), (23, .ireturn, 1), (24, .iconst 2, 1), (25, .ireturn, 1)]
set_option maxRecDepth 1000000 in
theorem eX7_bestTake : ∀ q ∈ kX7_bestTake, decode cX7_bestTake q.1 = .ok q.2 := by decide +kernel
def kX7_worth : Ci_t := [(0, .aload_n 0, 1), (1, .iload_n 1, 1), (2, .iload_n 2, 1), (3, .iload_n 3, 1), (4, .invokevirtual 36, 3), (7, .istore 4, 2), (9, .iload 4, 2), (11, .iload_n 1, 1), (12, .if_icmp .ne 7, 3), (15, .iconst 2, 1), (16, .goto 14, 3), (19, .iload 4, 2), (21, .iconst (-1), 1), (22, .if_icmp .ne 7, 3), (25, .iconst 1, 1), (26, .goto 4, 3), (29, .iconst 0, 1), (30, .ireturn, 1)]
set_option maxRecDepth 1000000 in
theorem eX7_worth : ∀ q ∈ kX7_worth, decode cX7_worth q.1 = .ok q.2 := by decide +kernel
def kX7_winnerOf : Ci_t := [(0, .iload_n 2, 1), (1, .iload_n 3, 1), (2, .if_icmp .ne 7, 3), (5, .iload_n 1, 1), (6, .goto 11, 3), (9, .aload_n 0, 1), (10, .getfield 19, 3), (13, .iload_n 2, 1), (14, .iload_n 3, 1), (15, .isub, 1), (16, .iaload, 1), (17, .ireturn, 1)]
set_option maxRecDepth 1000000 in
theorem eX7_winnerOf : ∀ q ∈ kX7_winnerOf, decode cX7_winnerOf q.1 = .ok q.2 := by decide +kernel
def kX8_init : Ci_t := [(0, .aload_n 0, 1), (1, .invokespecial 3, 3), (4, .aload_n 0, 1), (5, .sipush 1200, 3), (8, .newarray .byte, 2), (10, .putfield 9, 3), (13, .aload_n 0, 1), (14, .iconst 0, 1), (15, .putfield 15, 3), (18, .return_, 1)]
set_option maxRecDepth 1000000 in
theorem eX8_init : ∀ q ∈ kX8_init, decode cX8_init q.1 = .ok q.2 := by decide +kernel
def kX8_append : Ci_t := [(0, .bipush 24, 2), (2, .istore_n 2, 1), (3, .iload_n 2, 1), (4, .ifCond .lt 42, 3), (7, .aload_n 0, 1), (8, .getfield 15, 3), (11, .sipush 1200, 3), (14, .if_icmp .ge 32, 3), (17, .aload_n 0, 1), (18, .getfield 9, 3), (21, .aload_n 0, 1), (22, .getfield 15, 3), (25, .iload_n 1, 1), (26, .iload_n 2, 1), (27, .ishr, 1), (28, .i2b, 1), (29, .bastore, 1), (30, .aload_n 0, 1), (31, .dup, 1), (32, .getfield 15, 3), (35, .iconst 1, 1), (36, .iadd, 1), (37, .putfield 15, 3), (40, .iinc 2 (-8), 3), (43, .goto (-40), 3), (46, .return_, 1)]
set_option maxRecDepth 1000000 in
theorem eX8_append : ∀ q ∈ kX8_append, decode cX8_append q.1 = .ok q.2 := by decide +kernel
def kX9_init : Ci_t := [(0, .aload_n 0, 1), (1, .invokespecial 3, 3), (4, .aload_n 0, 1), (5, .iconst 0, 1), (6, .putfield 9, 3), (9, .aload_n 0, 1), (10, .iconst 0, 1), (11, .putfield 15, 3), (14, .aload_n 0, 1), (15, .iconst 0, 1), (16, .putfield 18, 3), (19, .aload_n 0, 1), (20, .iconst 0, 1), (21, .putfield 21, 3), (24, .aload_n 0, 1), (25, .iconst 0, 1), (26, .putfield 24, 3), (29, .aload_n 0, 1), (30, .iconst 0, 1), (31, .putfield 27, 3), (34, .aload_n 0, 1), (35, .iconst 3, 1), (36, .anewarray 30, 3), (39, .putfield 32, 3), (42, .aload_n 0, 1), (43, .bipush 48, 2), (45, .newarray .int, 2), (47, .putfield 36, 3), (50, .aload_n 0, 1), (51, .bipush 36, 2), (53, .newarray .int, 2), (55, .putfield 40, 3), (58, .aload_n 0, 1), (59, .sipush 360, 3), (62, .newarray .int, 2), (64, .putfield 43, 3), (67, .iconst 0, 1), (68, .istore_n 1, 1), (69, .iload_n 1, 1), (70, .iconst 3, 1), (71, .if_icmp .ge 22, 3), (74, .aload_n 0, 1), (75, .getfield 32, 3), (78, .iload_n 1, 1), (79, .new 30, 3), (82, .dup, 1), (83, .invokespecial 46, 3), (86, .aastore, 1), (87, .iinc 1 1, 3), (90, .goto (-21), 3), (93, .return_, 1)]
set_option maxRecDepth 1000000 in
theorem eX9_init : ∀ q ∈ kX9_init, decode cX9_init q.1 = .ok q.2 := by decide +kernel
def kX9_clear : Ci_t := [(0, .aload_n 0, 1), (1, .iconst 0, 1), (2, .putfield 9, 3), (5, .aload_n 0, 1), (6, .iconst 0, 1), (7, .putfield 15, 3), (10, .aload_n 0, 1), (11, .iconst 0, 1), (12, .putfield 18, 3), (15, .aload_n 0, 1), (16, .iconst 0, 1), (17, .putfield 21, 3), (20, .aload_n 0, 1), (21, .iconst 0, 1), (22, .putfield 24, 3), (25, .aload_n 0, 1), (26, .iconst 0, 1), (27, .putfield 27, 3), (30, .return_, 1)]
set_option maxRecDepth 1000000 in
theorem eX9_clear : ∀ q ∈ kX9_clear, decode cX9_clear q.1 = .ok q.2 := by decide +kernel
def kX9_copyOf : Ci_t := [(0, .aload_n 0, 1), (1, .aload_n 1, 1), (2, .getfield 9, 3), (5, .putfield 9, 3), (8, .aload_n 0, 1), (9, .aload_n 1, 1), (10, .getfield 15, 3), (13, .putfield 15, 3), (16, .aload_n 0, 1), (17, .aload_n 1, 1), (18, .getfield 18, 3), (21, .putfield 18, 3), (24, .aload_n 0, 1), (25, .aload_n 1, 1), (26, .getfield 21, 3), (29, .putfield 21, 3), (32, .aload_n 0, 1), (33, .aload_n 1, 1), (34, .getfield 24, 3), (37, .putfield 24, 3), (40, .aload_n 0, 1), (41, .aload_n 1, 1), (42, .getfield 27, 3), (45, .putfield 27, 3), (48, .iconst 0, 1), (49, .istore_n 2, 1), (50, .iload_n 2, 1), (51, .iconst 3, 1), (52, .if_icmp .ge 24, 3), (55, .aload_n 0, 1), (56, .getfield 32, 3), (59, .iload_n 2, 1), (60, .aaload, 1), (61, .aload_n 1, 1), (62, .getfield 32, 3), (65, .iload_n 2, 1), (66, .aaload, 1), (67, .invokevirtual 47, 3), (70, .iinc 2 1, 3), (73, .goto (-23), 3), (76, .aload_n 1, 1), (77, .getfield 36, 3), (80, .iconst 0, 1), (81, .aload_n 0, 1), (82, .getfield 36, 3), (85, .iconst 0, 1), (86, .aload_n 0, 1), (87, .getfield 36, 3), (90, .arraylength, 1), (91, .invokestatic 51, 3), (94, .aload_n 1, 1), (95, .getfield 40, 3), (98, .iconst 0, 1), (99, .aload_n 0, 1), (100, .getfield 40, 3), (103, .iconst 0, 1), (104, .aload_n 0, 1), (105, .getfield 40, 3), (108, .arraylength, 1), (109, .invokestatic 51, 3), (112, .aload_n 1, 1), (113, .getfield 43, 3), (116, .iconst 0, 1), (117, .aload_n 0, 1), (118, .getfield 43, 3), (121, .iconst 0, 1), (122, .aload_n 0, 1), (123, .getfield 43, 3), (126, .arraylength, 1), (127, .invokestatic 51, 3), (130, .return_, 1)]
set_option maxRecDepth 1000000 in
theorem eX9_copyOf : ∀ q ∈ kX9_copyOf, decode cX9_copyOf q.1 = .ok q.2 := by decide +kernel
def kX9_hasLand : Ci_t := [(0, .iload_n 1, 1), (1, .ifCond .lt 15, 3), (4, .iload_n 1, 1), (5, .aload_n 0, 1), (6, .getfield 18, 3), (9, .if_icmp .ge 7, 3), (12, .iconst 1, 1), (13, .goto 4, 3), (16, .iconst 0, 1), (17, .ireturn, 1)]
set_option maxRecDepth 1000000 in
theorem eX9_hasLand : ∀ q ∈ kX9_hasLand, decode cX9_hasLand q.1 = .ok q.2 := by decide +kernel
def kX9_hasMonth : Ci_t := [(0, .aload_n 0, 1), (1, .iload_n 1, 1), (2, .invokevirtual 57, 3), (5, .ifCond .eq 24, 3), (8, .iload_n 2, 1), (9, .ifCond .lt 20, 3), (12, .iload_n 2, 1), (13, .aload_n 0, 1), (14, .getfield 32, 3), (17, .iload_n 1, 1), (18, .aaload, 1), (19, .getfield 61, 3), (22, .if_icmp .ge 7, 3), (25, .iconst 1, 1), (26, .goto 4, 3), (29, .iconst 0, 1), (30, .ireturn, 1)]
set_option maxRecDepth 1000000 in
theorem eX9_hasMonth : ∀ q ∈ kX9_hasMonth, decode cX9_hasMonth q.1 = .ok q.2 := by decide +kernel
def kX9_hasPlainDate : Ci_t := [(0, .aload_n 0, 1), (1, .iload_n 1, 1), (2, .iload_n 2, 1), (3, .invokevirtual 64, 3), (6, .ifCond .eq 26, 3), (9, .iload_n 3, 1), (10, .ifCond .lt 22, 3), (13, .iload_n 3, 1), (14, .aload_n 0, 1), (15, .getfield 32, 3), (18, .iload_n 1, 1), (19, .aaload, 1), (20, .getfield 68, 3), (23, .iload_n 2, 1), (24, .iaload, 1), (25, .if_icmp .ge 7, 3), (28, .iconst 1, 1), (29, .goto 4, 3), (32, .iconst 0, 1), (33, .ireturn, 1)]
set_option maxRecDepth 1000000 in
theorem eX9_hasPlainDate : ∀ q ∈ kX9_hasPlainDate, decode cX9_hasPlainDate q.1 = .ok q.2 := by decide +kernel
def kX9_dayOfDate : Ci_t := [(0, .aload_n 0, 1), (1, .iload_n 1, 1), (2, .iload_n 3, 1), (3, .invokevirtual 64, 3), (6, .ifCond .eq 10, 3), (9, .iload_n 2, 1), (10, .invokestatic 71, 3), (13, .ifCond .ne 6, 3), (16, .bipush (-2), 2), (18, .ireturn, 1), (19, .iload 4, 2), (21, .ifCond .lt 19, 3), (24, .iload 4, 2), (26, .aload_n 0, 1), (27, .getfield 32, 3), (30, .iload_n 1, 1), (31, .aaload, 1), (32, .iload_n 3, 1), (33, .iload_n 2, 1), (34, .invokevirtual 74, 3), (37, .if_icmp .lt 6, 3), (40, .bipush (-2), 2), (42, .ireturn, 1), (43, .aload_n 0, 1), (44, .getfield 32, 3), (47, .iload_n 1, 1), (48, .aaload, 1), (49, .iload_n 2, 1), (50, .iload_n 3, 1), (51, .iload 4, 2), (53, .invokevirtual 78, 3), (56, .istore 5, 2), (58, .iload 5, 2), (60, .invokestatic 82, 3), (63, .ifCond .eq 8, 3), (66, .iload 5, 2), (68, .goto 4, 3), (71, .iconst (-1), 1), (72, .ireturn, 1)]
set_option maxRecDepth 1000000 in
theorem eX9_dayOfDate : ∀ q ∈ kX9_dayOfDate, decode cX9_dayOfDate q.1 = .ok q.2 := by decide +kernel
def kX9_insertFeast : Ci_t := [(0, .iload_n 1, 1), (1, .iconst 4, 1), (2, .imul, 1), (3, .istore 6, 2), (5, .aload_n 0, 1), (6, .getfield 36, 3), (9, .iload 6, 2), (11, .aload_n 0, 1), (12, .getfield 36, 3), (15, .iload 6, 2), (17, .iconst 4, 1), (18, .iadd, 1), (19, .aload_n 0, 1), (20, .getfield 21, 3), (23, .iload_n 1, 1), (24, .isub, 1), (25, .iconst 4, 1), (26, .imul, 1), (27, .invokestatic 51, 3), (30, .aload_n 0, 1), (31, .getfield 36, 3), (34, .iload 6, 2), (36, .iload_n 2, 1), (37, .iastore, 1), (38, .aload_n 0, 1), (39, .getfield 36, 3), (42, .iload 6, 2), (44, .iconst 1, 1), (45, .iadd, 1), (46, .iload_n 3, 1), (47, .iastore, 1), (48, .aload_n 0, 1), (49, .getfield 36, 3), (52, .iload 6, 2), (54, .iconst 2, 1), (55, .iadd, 1), (56, .iload 4, 2), (58, .iastore, 1), (59, .aload_n 0, 1), (60, .getfield 36, 3), (63, .iload 6, 2), (65, .iconst 3, 1), (66, .iadd, 1), (67, .iload 5, 2), (69, .iastore, 1), (70, .aload_n 0, 1), (71, .dup, 1), (72, .getfield 21, 3), (75, .iconst 1, 1), (76, .iadd, 1), (77, .putfield 21, 3), (80, .return_, 1)]
set_option maxRecDepth 1000000 in
theorem eX9_insertFeast : ∀ q ∈ kX9_insertFeast, decode cX9_insertFeast q.1 = .ok q.2 := by decide +kernel
def kX9_removeFeast : Ci_t := [(0, .iload_n 1, 1), (1, .iconst 4, 1), (2, .imul, 1), (3, .istore_n 2, 1), (4, .aload_n 0, 1), (5, .dup, 1), (6, .getfield 21, 3), (9, .iconst 1, 1), (10, .isub, 1), (11, .putfield 21, 3), (14, .aload_n 0, 1), (15, .getfield 36, 3), (18, .iload_n 2, 1), (19, .iconst 4, 1), (20, .iadd, 1), (21, .aload_n 0, 1), (22, .getfield 36, 3), (25, .iload_n 2, 1), (26, .aload_n 0, 1), (27, .getfield 21, 3), (30, .iload_n 1, 1), (31, .isub, 1), (32, .iconst 4, 1), (33, .imul, 1), (34, .invokestatic 51, 3), (37, .return_, 1)]
set_option maxRecDepth 1000000 in
theorem eX9_removeFeast : ∀ q ∈ kX9_removeFeast, decode cX9_removeFeast q.1 = .ok q.2 := by decide +kernel
def kX9_latestFeastOf : Ci_t := [(0, .aload_n 0, 1), (1, .getfield 21, 3), (4, .iconst 1, 1), (5, .isub, 1), (6, .istore_n 2, 1), (7, .iload_n 2, 1), (8, .ifCond .lt 23, 3), (11, .aload_n 0, 1), (12, .getfield 36, 3), (15, .iload_n 2, 1), (16, .iconst 4, 1), (17, .imul, 1), (18, .iaload, 1), (19, .iload_n 1, 1), (20, .if_icmp .ne 5, 3), (23, .iload_n 2, 1), (24, .ireturn, 1), (25, .iinc 2 (-1), 3), (28, .goto (-21), 3), (31, .iconst (-1), 1), (32, .ireturn, 1)]
set_option maxRecDepth 1000000 in
theorem eX9_latestFeastOf : ∀ q ∈ kX9_latestFeastOf, decode cX9_latestFeastOf q.1 = .ok q.2 := by decide +kernel
def kX9_appendTruce : Ci_t := [(0, .aload_n 0, 1), (1, .getfield 24, 3), (4, .iconst 3, 1), (5, .imul, 1), (6, .istore 4, 2), (8, .aload_n 0, 1), (9, .getfield 40, 3), (12, .iload 4, 2), (14, .iload_n 1, 1), (15, .iastore, 1), (16, .aload_n 0, 1), (17, .getfield 40, 3), (20, .iload 4, 2), (22, .iconst 1, 1), (23, .iadd, 1), (24, .iload_n 2, 1), (25, .iastore, 1), (26, .aload_n 0, 1), (27, .getfield 40, 3), (30, .iload 4, 2), (32, .iconst 2, 1), (33, .iadd, 1), (34, .iload_n 3, 1), (35, .iastore, 1), (36, .aload_n 0, 1), (37, .dup, 1), (38, .getfield 24, 3), (41, .iconst 1, 1), (42, .iadd, 1), (43, .putfield 24, 3), (46, .return_, 1)]
set_option maxRecDepth 1000000 in
theorem eX9_appendTruce : ∀ q ∈ kX9_appendTruce, decode cX9_appendTruce q.1 = .ok q.2 := by decide +kernel
def kX9_trucesOn : Ci_t := [(0, .iconst 0, 1), (1, .istore_n 2, 1), (2, .iconst 0, 1), (3, .istore_n 3, 1), (4, .iload_n 3, 1), (5, .aload_n 0, 1), (6, .getfield 24, 3), (9, .if_icmp .ge 43, 3), (12, .iload_n 3, 1), (13, .iconst 3, 1), (14, .imul, 1), (15, .istore 4, 2), (17, .aload_n 0, 1), (18, .getfield 40, 3), (21, .iload 4, 2), (23, .iconst 1, 1), (24, .iadd, 1), (25, .iaload, 1), (26, .iload_n 1, 1), (27, .if_icmp .gt 19, 3), (30, .iload_n 1, 1), (31, .aload_n 0, 1), (32, .getfield 40, 3), (35, .iload 4, 2), (37, .iconst 2, 1), (38, .iadd, 1), (39, .iaload, 1), (40, .if_icmp .gt 6, 3), (43, .iinc 2 1, 3), (46, .iinc 3 1, 3), (49, .goto (-45), 3), (52, .iload_n 2, 1), (53, .ireturn, 1)]
set_option maxRecDepth 1000000 in
theorem eX9_trucesOn : ∀ q ∈ kX9_trucesOn, decode cX9_trucesOn q.1 = .ok q.2 := by decide +kernel
def kX9_noteFounded : Ci_t := [(0, .aload_n 0, 1), (1, .iconst 1, 1), (2, .aload_n 0, 1), (3, .getfield 21, 3), (6, .iconst 1, 1), (7, .isub, 1), (8, .invokevirtual 85, 3), (11, .return_, 1)]
set_option maxRecDepth 1000000 in
theorem eX9_noteFounded : ∀ q ∈ kX9_noteFounded, decode cX9_noteFounded q.1 = .ok q.2 := by decide +kernel
def kX9_noteGranted : Ci_t := [(0, .aload_n 0, 1), (1, .iconst 2, 1), (2, .aload_n 0, 1), (3, .getfield 24, 3), (6, .iconst 1, 1), (7, .isub, 1), (8, .invokevirtual 85, 3), (11, .return_, 1)]
set_option maxRecDepth 1000000 in
theorem eX9_noteGranted : ∀ q ∈ kX9_noteGranted, decode cX9_noteGranted q.1 = .ok q.2 := by decide +kernel
def kX9_noteEnded : Ci_t := [(0, .aload_n 0, 1), (1, .getfield 36, 3), (4, .iload_n 1, 1), (5, .iconst 4, 1), (6, .imul, 1), (7, .aload_n 0, 1), (8, .getfield 43, 3), (11, .aload_n 0, 1), (12, .getfield 27, 3), (15, .bipush 6, 2), (17, .imul, 1), (18, .iconst 2, 1), (19, .iadd, 1), (20, .iconst 4, 1), (21, .invokestatic 51, 3), (24, .aload_n 0, 1), (25, .iconst 3, 1), (26, .iload_n 1, 1), (27, .invokevirtual 85, 3), (30, .return_, 1)]
set_option maxRecDepth 1000000 in
theorem eX9_noteEnded : ∀ q ∈ kX9_noteEnded, decode cX9_noteEnded q.1 = .ok q.2 := by decide +kernel
def kX9_noteChange : Ci_t := [(0, .aload_n 0, 1), (1, .getfield 43, 3), (4, .aload_n 0, 1), (5, .getfield 27, 3), (8, .bipush 6, 2), (10, .imul, 1), (11, .iload_n 1, 1), (12, .iastore, 1), (13, .aload_n 0, 1), (14, .getfield 43, 3), (17, .aload_n 0, 1), (18, .getfield 27, 3), (21, .bipush 6, 2), (23, .imul, 1), (24, .iconst 1, 1), (25, .iadd, 1), (26, .iload_n 2, 1), (27, .iastore, 1), (28, .aload_n 0, 1), (29, .dup, 1), (30, .getfield 27, 3), (33, .iconst 1, 1), (34, .iadd, 1), (35, .putfield 27, 3), (38, .return_, 1)]
set_option maxRecDepth 1000000 in
theorem eX9_noteChange : ∀ q ∈ kX9_noteChange, decode cX9_noteChange q.1 = .ok q.2 := by decide +kernel
def kX9_takeBackLatest : Ci_t := [(0, .aload_n 0, 1), (1, .dup, 1), (2, .getfield 27, 3), (5, .iconst 1, 1), (6, .isub, 1), (7, .putfield 27, 3), (10, .aload_n 0, 1), (11, .getfield 27, 3), (14, .bipush 6, 2), (16, .imul, 1), (17, .istore_n 1, 1), (18, .aload_n 0, 1), (19, .getfield 43, 3), (22, .iload_n 1, 1), (23, .iconst 1, 1), (24, .iadd, 1), (25, .iaload, 1), (26, .istore_n 2, 1), (27, .aload_n 0, 1), (28, .getfield 43, 3), (31, .iload_n 1, 1), (32, .iaload, 1), (33, .iconst 1, 1), (34, .if_icmp .ne 22, 3), (37, .aload_n 0, 1), (38, .dup, 1), (39, .getfield 21, 3), (42, .iconst 1, 1), (43, .isub, 1), (44, .putfield 21, 3), (47, .aload_n 0, 1), (48, .getfield 36, 3), (51, .iload_n 2, 1), (52, .iconst 4, 1), (53, .imul, 1), (54, .iaload, 1), (55, .ireturn, 1), (56, .aload_n 0, 1), (57, .getfield 43, 3), (60, .iload_n 1, 1), (61, .iaload, 1), (62, .iconst 2, 1), (63, .if_icmp .ne 22, 3), (66, .aload_n 0, 1), (67, .dup, 1), (68, .getfield 24, 3), (71, .iconst 1, 1), (72, .isub, 1), (73, .putfield 24, 3), (76, .aload_n 0, 1), (77, .getfield 40, 3), (80, .iload_n 2, 1), (81, .iconst 3, 1), (82, .imul, 1), (83, .iaload, 1), (84, .ireturn, 1), (85, .aload_n 0, 1), (86, .iload_n 2, 1), (87, .aload_n 0, 1), (88, .getfield 43, 3), (91, .iload_n 1, 1), (92, .iconst 2, 1), (93, .iadd, 1), (94, .iaload, 1), (95, .aload_n 0, 1), (96, .getfield 43, 3), (99, .iload_n 1, 1), (100, .iconst 3, 1), (101, .iadd, 1), (102, .iaload, 1), (103, .aload_n 0, 1), (104, .getfield 43, 3), (107, .iload_n 1, 1), (108, .iconst 4, 1), (109, .iadd, 1), (110, .iaload, 1), (111, .aload_n 0, 1), (112, .getfield 43, 3), (115, .iload_n 1, 1), (116, .iconst 5, 1), (117, .iadd, 1), (118, .iaload, 1), (119, .invokevirtual 89, 3), (122, .aload_n 0, 1), (123, .getfield 43, 3), (126, .iload_n 1, 1), (127, .iconst 2, 1), (128, .iadd, 1), (129, .iaload, 1), (130, .ireturn, 1)]
set_option maxRecDepth 1000000 in
theorem eX9_takeBackLatest : ∀ q ∈ kX9_takeBackLatest, decode cX9_takeBackLatest q.1 = .ok q.2 := by decide +kernel
end
section
def kX10_init : Ci_t := [(0, .aload_n 0, 1), (1, .invokespecial 1, 3), (4, .aload_n 0, 1), (5, .new 7, 3), (8, .dup, 1), (9, .invokespecial 9, 3), (12, .putfield 10, 3), (15, .aload_n 0, 1), (16, .new 16, 3), (19, .dup, 1), (20, .invokespecial 18, 3), (23, .putfield 19, 3), (26, .aload_n 0, 1), (27, .new 23, 3), (30, .dup, 1), (31, .invokespecial 25, 3), (34, .putfield 26, 3), (37, .aload_n 0, 1), (38, .new 23, 3), (41, .dup, 1), (42, .invokespecial 25, 3), (45, .putfield 30, 3), (48, .aload_n 0, 1), (49, .iconst 3, 1), (50, .anewarray 23, 3), (53, .putfield 33, 3), (56, .aload_n 0, 1), (57, .iconst 3, 1), (58, .newarray .boolean, 2), (60, .putfield 37, 3), (63, .aload_n 0, 1), (64, .iconst 4, 1), (65, .anewarray 41, 3), (68, .putfield 43, 3), (71, .aload_n 0, 1), (72, .new 47, 3), (75, .dup, 1), (76, .invokespecial 49, 3), (79, .putfield 50, 3), (82, .aload_n 0, 1), (83, .new 54, 3), (86, .dup, 1), (87, .invokespecial 56, 3), (90, .putfield 57, 3), (93, .aload_n 0, 1), (94, .new 61, 3), (97, .dup, 1), (98, .invokespecial 63, 3), (101, .putfield 64, 3), (104, .aload_n 0, 1), (105, .new 68, 3), (108, .dup, 1), (109, .invokespecial 70, 3), (112, .putfield 71, 3), (115, .aload_n 0, 1), (116, .new 75, 3), (119, .dup, 1), (120, .invokespecial 77, 3), (123, .putfield 78, 3), (126, .aload_n 0, 1), (127, .iconst 0, 1), (128, .putfield 82, 3), (131, .aload_n 0, 1), (132, .iconst (-1), 1), (133, .putfield 86, 3), (136, .iconst 0, 1), (137, .istore_n 1, 1), (138, .iload_n 1, 1), (139, .iconst 3, 1), (140, .if_icmp .ge 22, 3), (143, .aload_n 0, 1), (144, .getfield 33, 3), (147, .iload_n 1, 1), (148, .new 23, 3), (151, .dup, 1), (152, .invokespecial 25, 3), (155, .aastore, 1), (156, .iinc 1 1, 3), (159, .goto (-21), 3), (162, .iconst 0, 1), (163, .istore_n 1, 1), (164, .iload_n 1, 1), (165, .iconst 4, 1), (166, .if_icmp .ge 22, 3), (169, .aload_n 0, 1), (170, .getfield 43, 3), (173, .iload_n 1, 1), (174, .new 41, 3), (177, .dup, 1), (178, .invokespecial 89, 3), (181, .aastore, 1), (182, .iinc 1 1, 3), (185, .goto (-21), 3), (188, .return_, 1)]
set_option maxRecDepth 1000000 in
theorem eX10_init : ∀ q ∈ kX10_init, decode cX10_init q.1 = .ok q.2 := by decide +kernel
def kX10_feed : Ci_t := [(0, .aload_n 0, 1), (1, .getfield 10, 3), (4, .getfield 90, 3), (7, .bipush 20, 2), (9, .iadd, 1), (10, .sipush 1200, 3), (13, .if_icmp .le 5, 3), (16, .iconst (-1), 1), (17, .ireturn, 1), (18, .aload_n 0, 1), (19, .getfield 10, 3), (22, .iload_n 1, 1), (23, .invokevirtual 93, 3), (26, .aload_n 0, 1), (27, .getfield 10, 3), (30, .iload_n 2, 1), (31, .invokevirtual 93, 3), (34, .aload_n 0, 1), (35, .getfield 10, 3), (38, .iload_n 3, 1), (39, .invokevirtual 93, 3), (42, .aload_n 0, 1), (43, .getfield 10, 3), (46, .iload 4, 2), (48, .invokevirtual 93, 3), (51, .aload_n 0, 1), (52, .getfield 10, 3), (55, .iload 5, 2), (57, .invokevirtual 93, 3), (60, .aload_n 0, 1), (61, .getfield 10, 3), (64, .getfield 90, 3), (67, .ireturn, 1)]
set_option maxRecDepth 1000000 in
theorem eX10_feed : ∀ q ∈ kX10_feed, decode cX10_feed q.1 = .ok q.2 := by decide +kernel
def kX10_end : Ci_t := [(0, .iload_n 1, 1), (1, .ifCond .lt 14, 3), (4, .iload_n 1, 1), (5, .aload_n 0, 1), (6, .getfield 10, 3), (9, .getfield 90, 3), (12, .if_icmp .le 5, 3), (15, .iconst (-1), 1), (16, .ireturn, 1), (17, .aload_n 0, 1), (18, .getfield 10, 3), (21, .iload_n 1, 1), (22, .putfield 90, 3), (25, .iload_n 1, 1), (26, .ireturn, 1)]
set_option maxRecDepth 1000000 in
theorem eX10_end : ∀ q ∈ kX10_end, decode cX10_end q.1 = .ok q.2 := by decide +kernel
def kX10_war : Ci_t := [(0, .aload_n 0, 1), (1, .getfield 19, 3), (4, .aload_n 0, 1), (5, .getfield 10, 3), (8, .aload_n 0, 1), (9, .getfield 30, 3), (12, .invokevirtual 97, 3), (15, .aload_n 0, 1), (16, .aload_n 0, 1), (17, .getfield 19, 3), (20, .getfield 101, 3), (23, .putfield 82, 3), (26, .aload_n 0, 1), (27, .aload_n 0, 1), (28, .getfield 19, 3), (31, .getfield 104, 3), (34, .putfield 86, 3), (37, .aload_n 0, 1), (38, .getfield 82, 3), (41, .ifCond .eq 6, 3), (44, .bipush (-4), 2), (46, .ireturn, 1), (47, .aload_n 0, 1), (48, .getfield 26, 3), (51, .astore_n 1, 1), (52, .aload_n 0, 1), (53, .aload_n 0, 1), (54, .getfield 30, 3), (57, .putfield 26, 3), (60, .aload_n 0, 1), (61, .aload_n 1, 1), (62, .putfield 30, 3), (65, .aload_n 0, 1), (66, .getfield 10, 3), (69, .iconst 0, 1), (70, .putfield 90, 3), (73, .aload_n 0, 1), (74, .getfield 50, 3), (77, .invokevirtual 107, 3), (80, .aload_n 0, 1), (81, .getfield 26, 3), (84, .getfield 110, 3), (87, .ireturn, 1)]
set_option maxRecDepth 1000000 in
theorem eX10_war : ∀ q ∈ kX10_war, decode cX10_war q.1 = .ok q.2 := by decide +kernel
def kX10_fault : Ci_t := [(0, .iload_n 1, 1), (1, .ifCond .ne 8, 3), (4, .aload_n 0, 1), (5, .getfield 82, 3), (8, .ireturn, 1), (9, .iload_n 1, 1), (10, .iconst 1, 1), (11, .if_icmp .ne 10, 3), (14, .aload_n 0, 1), (15, .getfield 86, 3), (18, .goto 4, 3), (21, .iconst (-1), 1), (22, .ireturn, 1)]
set_option maxRecDepth 1000000 in
theorem eX10_fault : ∀ q ∈ kX10_fault, decode cX10_fault q.1 = .ok q.2 := by decide +kernel
def kX10_land : Ci_t := [(0, .aload_n 0, 1), (1, .getfield 26, 3), (4, .iload_n 1, 1), (5, .invokevirtual 113, 3), (8, .ifCond .ne 6, 3), (11, .bipush (-2), 2), (13, .ireturn, 1), (14, .aload_n 0, 1), (15, .getfield 26, 3), (18, .getfield 117, 3), (21, .iload_n 1, 1), (22, .aaload, 1), (23, .astore_n 3, 1), (24, .iload_n 2, 1), (25, .tableswitch 78 0 6 #[43, 48, 53, 58, 63, 68, 73], 43), (68, .aload_n 3, 1), (69, .getfield 121, 3), (72, .ireturn, 1), (73, .aload_n 3, 1), (74, .getfield 126, 3), (77, .ireturn, 1), (78, .aload_n 3, 1), (79, .getfield 129, 3), (82, .ireturn, 1), (83, .aload_n 3, 1), (84, .getfield 132, 3), (87, .ireturn, 1), (88, .aload_n 3, 1), (89, .getfield 135, 3), (92, .ireturn, 1), (93, .aload_n 3, 1), (94, .getfield 138, 3), (97, .ireturn, 1), (98, .aload_n 3, 1), (99, .getfield 141, 3), (102, .ireturn, 1), (103, .bipush (-2), 2), (105, .ireturn, 1)]
set_option maxRecDepth 1000000 in
theorem eX10_land : ∀ q ∈ kX10_land, decode cX10_land q.1 = .ok q.2 := by decide +kernel
def kX10_month : Ci_t := [(0, .aload_n 0, 1), (1, .getfield 26, 3), (4, .iload_n 1, 1), (5, .iload_n 2, 1), (6, .invokevirtual 144, 3), (9, .ifCond .eq 10, 3), (12, .iload_n 3, 1), (13, .invokestatic 148, 3), (16, .ifCond .ne 6, 3), (19, .bipush (-2), 2), (21, .ireturn, 1), (22, .aload_n 0, 1), (23, .getfield 26, 3), (26, .getfield 117, 3), (29, .iload_n 1, 1), (30, .aaload, 1), (31, .iload_n 2, 1), (32, .iload_n 3, 1), (33, .invokevirtual 151, 3), (36, .ireturn, 1)]
set_option maxRecDepth 1000000 in
theorem eX10_month : ∀ q ∈ kX10_month, decode cX10_month q.1 = .ok q.2 := by decide +kernel
def kX10_feast : Ci_t := [(0, .iload_n 1, 1), (1, .ifCond .lt 23, 3), (4, .iload_n 1, 1), (5, .aload_n 0, 1), (6, .getfield 26, 3), (9, .getfield 155, 3), (12, .if_icmp .ge 12, 3), (15, .iload_n 2, 1), (16, .ifCond .lt 8, 3), (19, .iload_n 2, 1), (20, .iconst 4, 1), (21, .if_icmp .lt 6, 3), (24, .bipush (-2), 2), (26, .ireturn, 1), (27, .aload_n 0, 1), (28, .getfield 26, 3), (31, .getfield 158, 3), (34, .iload_n 1, 1), (35, .iconst 4, 1), (36, .imul, 1), (37, .iload_n 2, 1), (38, .iadd, 1), (39, .iaload, 1), (40, .ireturn, 1)]
set_option maxRecDepth 1000000 in
theorem eX10_feast : ∀ q ∈ kX10_feast, decode cX10_feast q.1 = .ok q.2 := by decide +kernel
def kX10_truce : Ci_t := [(0, .iload_n 1, 1), (1, .ifCond .lt 23, 3), (4, .iload_n 1, 1), (5, .aload_n 0, 1), (6, .getfield 26, 3), (9, .getfield 162, 3), (12, .if_icmp .ge 12, 3), (15, .iload_n 2, 1), (16, .ifCond .lt 8, 3), (19, .iload_n 2, 1), (20, .iconst 3, 1), (21, .if_icmp .lt 6, 3), (24, .bipush (-2), 2), (26, .ireturn, 1), (27, .aload_n 0, 1), (28, .getfield 26, 3), (31, .getfield 165, 3), (34, .iload_n 1, 1), (35, .iconst 3, 1), (36, .imul, 1), (37, .iload_n 2, 1), (38, .iadd, 1), (39, .iaload, 1), (40, .ireturn, 1)]
set_option maxRecDepth 1000000 in
theorem eX10_truce : ∀ q ∈ kX10_truce, decode cX10_truce q.1 = .ok q.2 := by decide +kernel
def kX10_date : Ci_t := [(0, .aload_n 0, 1), (1, .iload_n 1, 1), (2, .iload_n 2, 1), (3, .invokevirtual 168, 3), (6, .ifCond .eq 12, 3), (9, .iload_n 3, 1), (10, .ifCond .lt 8, 3), (13, .iload_n 3, 1), (14, .iconst 3, 1), (15, .if_icmp .le 6, 3), (18, .bipush (-2), 2), (20, .ireturn, 1), (21, .aload_n 0, 1), (22, .invokevirtual 171, 3), (25, .iload_n 1, 1), (26, .iload_n 2, 1), (27, .iload_n 3, 1), (28, .invokevirtual 175, 3), (31, .ireturn, 1)]
set_option maxRecDepth 1000000 in
theorem eX10_date : ∀ q ∈ kX10_date, decode cX10_date q.1 = .ok q.2 := by decide +kernel
def kX10_day : Ci_t := [(0, .aload_n 0, 1), (1, .getfield 26, 3), (4, .iload_n 1, 1), (5, .iload_n 2, 1), (6, .iload_n 3, 1), (7, .iload 4, 2), (9, .invokevirtual 179, 3), (12, .ireturn, 1)]
set_option maxRecDepth 1000000 in
theorem eX10_day : ∀ q ∈ kX10_day, decode cX10_day q.1 = .ok q.2 := by decide +kernel
def kX10_may : Ci_t := [(0, .aload_n 0, 1), (1, .iload_n 1, 1), (2, .iload_n 2, 1), (3, .invokevirtual 168, 3), (6, .ifCond .ne 6, 3), (9, .bipush (-2), 2), (11, .ireturn, 1), (12, .aload_n 0, 1), (13, .invokevirtual 171, 3), (16, .iload_n 1, 1), (17, .iload_n 2, 1), (18, .iconst 4, 1), (19, .invokevirtual 175, 3), (22, .ireturn, 1)]
set_option maxRecDepth 1000000 in
theorem eX10_may : ∀ q ∈ kX10_may, decode cX10_may q.1 = .ok q.2 := by decide +kernel
def kX10_why : Ci_t := [(0, .aload_n 0, 1), (1, .iload_n 1, 1), (2, .iload_n 2, 1), (3, .invokevirtual 168, 3), (6, .ifCond .ne 6, 3), (9, .bipush (-2), 2), (11, .ireturn, 1), (12, .aload_n 0, 1), (13, .invokevirtual 171, 3), (16, .iload_n 1, 1), (17, .iload_n 2, 1), (18, .invokevirtual 183, 3), (21, .ireturn, 1)]
set_option maxRecDepth 1000000 in
theorem eX10_why : ∀ q ∈ kX10_why, decode cX10_why q.1 = .ok q.2 := by decide +kernel
def kX10_who : Ci_t := [(0, .aload_n 0, 1), (1, .iload_n 1, 1), (2, .invokevirtual 186, 3), (5, .ifCond .ne 6, 3), (8, .bipush (-2), 2), (10, .ireturn, 1), (11, .aload_n 0, 1), (12, .invokevirtual 171, 3), (15, .getfield 189, 3), (18, .iload_n 1, 1), (19, .baload, 1), (20, .ireturn, 1)]
set_option maxRecDepth 1000000 in
theorem eX10_who : ∀ q ∈ kX10_who, decode cX10_who q.1 = .ok q.2 := by decide +kernel
def kX10_next : Ci_t := [(0, .aload_n 0, 1), (1, .iload_n 1, 1), (2, .iload_n 2, 1), (3, .iload_n 2, 1), (4, .invokevirtual 193, 3), (7, .ifCond .ne 6, 3), (10, .bipush (-2), 2), (12, .ireturn, 1), (13, .aload_n 0, 1), (14, .invokevirtual 171, 3), (17, .astore_n 3, 1), (18, .iload_n 2, 1), (19, .istore 4, 2), (21, .iload 4, 2), (23, .sipush 2000, 3), (26, .if_icmp .ge 22, 3), (29, .aload_n 3, 1), (30, .iload_n 1, 1), (31, .iload 4, 2), (33, .invokevirtual 197, 3), (36, .ifCond .eq 6, 3), (39, .iload 4, 2), (41, .ireturn, 1), (42, .iinc 4 1, 3), (45, .goto (-24), 3), (48, .iconst (-1), 1), (49, .ireturn, 1)]
set_option maxRecDepth 1000000 in
theorem eX10_next : ∀ q ∈ kX10_next, decode cX10_next q.1 = .ok q.2 := by decide +kernel
def kX10_many : Ci_t := [(0, .aload_n 0, 1), (1, .iload_n 1, 1), (2, .iload_n 2, 1), (3, .iload_n 3, 1), (4, .invokevirtual 193, 3), (7, .ifCond .ne 6, 3), (10, .bipush (-2), 2), (12, .ireturn, 1), (13, .aload_n 0, 1), (14, .invokevirtual 171, 3), (17, .iload_n 1, 1), (18, .iload_n 2, 1), (19, .iload_n 3, 1), (20, .invokevirtual 200, 3), (23, .ireturn, 1)]
set_option maxRecDepth 1000000 in
theorem eX10_many : ∀ q ∈ kX10_many, decode cX10_many q.1 = .ok q.2 := by decide +kernel
def kX10_waits : Ci_t := [(0, .aload_n 0, 1), (1, .iload_n 1, 1), (2, .iload_n 2, 1), (3, .iload_n 3, 1), (4, .invokevirtual 193, 3), (7, .ifCond .ne 6, 3), (10, .bipush (-2), 2), (12, .ireturn, 1), (13, .aload_n 0, 1), (14, .invokevirtual 171, 3), (17, .iload_n 1, 1), (18, .iload_n 2, 1), (19, .iload_n 3, 1), (20, .iconst 0, 1), (21, .invokevirtual 203, 3), (24, .aload_n 0, 1), (25, .getfield 50, 3), (28, .getfield 207, 3), (31, .ireturn, 1)]
set_option maxRecDepth 1000000 in
theorem eX10_waits : ∀ q ∈ kX10_waits, decode cX10_waits q.1 = .ok q.2 := by decide +kernel
def kX10_waiting : Ci_t := [(0, .aload_n 0, 1), (1, .iload_n 1, 1), (2, .iload_n 2, 1), (3, .iload_n 3, 1), (4, .invokevirtual 193, 3), (7, .ifCond .ne 6, 3), (10, .bipush (-2), 2), (12, .ireturn, 1), (13, .aload_n 0, 1), (14, .invokevirtual 171, 3), (17, .iload_n 1, 1), (18, .iload_n 2, 1), (19, .iload_n 3, 1), (20, .iconst 0, 1), (21, .invokevirtual 203, 3), (24, .aload_n 0, 1), (25, .getfield 50, 3), (28, .getfield 210, 3), (31, .ireturn, 1)]
set_option maxRecDepth 1000000 in
theorem eX10_waiting : ∀ q ∈ kX10_waiting, decode cX10_waiting q.1 = .ok q.2 := by decide +kernel
def kX10_share : Ci_t := [(0, .aload_n 0, 1), (1, .iload_n 1, 1), (2, .iload_n 2, 1), (3, .iload_n 3, 1), (4, .invokevirtual 193, 3), (7, .ifCond .eq 14, 3), (10, .iload 4, 2), (12, .ifCond .lt 9, 3), (15, .iload 4, 2), (17, .iconst 1, 1), (18, .if_icmp .le 6, 3), (21, .bipush (-2), 2), (23, .ireturn, 1), (24, .aload_n 0, 1), (25, .invokevirtual 171, 3), (28, .iload_n 1, 1), (29, .iload_n 2, 1), (30, .iload_n 3, 1), (31, .invokevirtual 200, 3), (34, .istore 5, 2), (36, .iload_n 3, 1), (37, .iload_n 2, 1), (38, .isub, 1), (39, .iconst 1, 1), (40, .iadd, 1), (41, .istore 6, 2), (43, .iload 5, 2), (45, .iload 6, 2), (47, .invokestatic 213, 3), (50, .istore 7, 2), (52, .iload 4, 2), (54, .ifCond .ne 11, 3), (57, .iload 5, 2), (59, .iload 7, 2), (61, .idiv, 1), (62, .goto 8, 3), (65, .iload 6, 2), (67, .iload 7, 2), (69, .idiv, 1), (70, .ireturn, 1)]
set_option maxRecDepth 1000000 in
theorem eX10_share : ∀ q ∈ kX10_share, decode cX10_share q.1 = .ok q.2 := by decide +kernel
def kX10_meets : Ci_t := [(0, .aload_n 0, 1), (1, .iload_n 1, 1), (2, .iload_n 3, 1), (3, .iload 5, 2), (5, .invokevirtual 216, 3), (8, .ifCond .ne 6, 3), (11, .bipush (-2), 2), (13, .ireturn, 1), (14, .aload_n 0, 1), (15, .getfield 26, 3), (18, .getfield 117, 3), (21, .iload_n 1, 1), (22, .aaload, 1), (23, .iload_n 2, 1), (24, .invokevirtual 219, 3), (27, .ifCond .eq 20, 3), (30, .aload_n 0, 1), (31, .getfield 26, 3), (34, .getfield 117, 3), (37, .iload_n 3, 1), (38, .aaload, 1), (39, .iload 4, 2), (41, .invokevirtual 219, 3), (44, .ifCond .ne 6, 3), (47, .bipush (-2), 2), (49, .ireturn, 1), (50, .aload_n 0, 1), (51, .invokevirtual 171, 3), (54, .astore 6, 2), (56, .iload 5, 2), (58, .istore 7, 2), (60, .iload 7, 2), (62, .sipush 2000, 3), (65, .if_icmp .ge 39, 3), (68, .aload 6, 2), (70, .iload_n 1, 1), (71, .iload 7, 2), (73, .iconst 3, 1), (74, .invokevirtual 175, 3), (77, .iload_n 2, 1), (78, .if_icmp .ne 20, 3), (81, .aload 6, 2), (83, .iload_n 3, 1), (84, .iload 7, 2), (86, .iconst 3, 1), (87, .invokevirtual 175, 3), (90, .iload 4, 2), (92, .if_icmp .ne 6, 3), (95, .iload 7, 2), (97, .ireturn, 1), (98, .iinc 7 1, 3), (101, .goto (-41), 3), (104, .iconst (-1), 1), (105, .ireturn, 1)]
set_option maxRecDepth 1000000 in
theorem eX10_meets : ∀ q ∈ kX10_meets, decode cX10_meets q.1 = .ok q.2 := by decide +kernel
def kX10_period : Ci_t := [(0, .aload_n 0, 1), (1, .getfield 26, 3), (4, .iload_n 1, 1), (5, .invokevirtual 113, 3), (8, .ifCond .ne 6, 3), (11, .bipush (-2), 2), (13, .ireturn, 1), (14, .aload_n 0, 1), (15, .getfield 26, 3), (18, .getfield 117, 3), (21, .iload_n 1, 1), (22, .aaload, 1), (23, .invokevirtual 222, 3), (26, .istore_n 2, 1), (27, .aload_n 0, 1), (28, .getfield 26, 3), (31, .getfield 117, 3), (34, .iload_n 1, 1), (35, .aaload, 1), (36, .getfield 126, 3), (39, .istore_n 3, 1), (40, .iload_n 2, 1), (41, .iload_n 2, 1), (42, .iload_n 3, 1), (43, .invokestatic 213, 3), (46, .idiv, 1), (47, .iload_n 3, 1), (48, .imul, 1), (49, .ireturn, 1)]
set_option maxRecDepth 1000000 in
theorem eX10_period : ∀ q ∈ kX10_period, decode cX10_period q.1 = .ok q.2 := by decide +kernel
def kX10_alike : Ci_t := [(0, .aload_n 0, 1), (1, .iload_n 1, 1), (2, .iload_n 2, 1), (3, .iload_n 3, 1), (4, .invokevirtual 216, 3), (7, .ifCond .ne 6, 3), (10, .bipush (-2), 2), (12, .ireturn, 1), (13, .aload_n 0, 1), (14, .invokevirtual 171, 3), (17, .astore 4, 2), (19, .iload_n 3, 1), (20, .istore 5, 2), (22, .iload 5, 2), (24, .sipush 2000, 3), (27, .if_icmp .ge 41, 3), (30, .aload 4, 2), (32, .iload_n 1, 1), (33, .iload 5, 2), (35, .invokevirtual 226, 3), (38, .istore 6, 2), (40, .iload 6, 2), (42, .iconst (-1), 1), (43, .if_icmp .eq 19, 3), (46, .iload 6, 2), (48, .aload 4, 2), (50, .iload_n 2, 1), (51, .iload 5, 2), (53, .invokevirtual 226, 3), (56, .if_icmp .ne 6, 3), (59, .iload 5, 2), (61, .ireturn, 1), (62, .iinc 5 1, 3), (65, .goto (-43), 3), (68, .iconst (-1), 1), (69, .ireturn, 1)]
set_option maxRecDepth 1000000 in
theorem eX10_alike : ∀ q ∈ kX10_alike, decode cX10_alike q.1 = .ok q.2 := by decide +kernel
def kX10_years : Ci_t := [(0, .aload_n 0, 1), (1, .iload_n 1, 1), (2, .invokevirtual 186, 3), (5, .ifCond .ne 6, 3), (8, .bipush (-2), 2), (10, .ireturn, 1), (11, .aload_n 0, 1), (12, .invokevirtual 171, 3), (15, .astore_n 2, 1), (16, .iconst 0, 1), (17, .istore_n 3, 1), (18, .iconst 0, 1), (19, .istore 4, 2), (21, .iload 4, 2), (23, .aload_n 0, 1), (24, .getfield 26, 3), (27, .getfield 229, 3), (30, .if_icmp .ge 26, 3), (33, .aload_n 2, 1), (34, .iload 4, 2), (36, .iload_n 1, 1), (37, .invokevirtual 226, 3), (40, .ifCond .ne 10, 3), (43, .iload_n 3, 1), (44, .iconst 1, 1), (45, .iload 4, 2), (47, .ishl, 1), (48, .ior, 1), (49, .istore_n 3, 1), (50, .iinc 4 1, 3), (53, .goto (-32), 3), (56, .iload_n 3, 1), (57, .ireturn, 1)]
set_option maxRecDepth 1000000 in
theorem eX10_years : ∀ q ∈ kX10_years, decode cX10_years q.1 = .ok q.2 := by decide +kernel
def kX10_comes : Ci_t := [(0, .aload_n 0, 1), (1, .iload_n 1, 1), (2, .iload_n 2, 1), (3, .invokevirtual 168, 3), (6, .ifCond .ne 6, 3), (9, .bipush (-2), 2), (11, .ireturn, 1), (12, .aload_n 0, 1), (13, .invokevirtual 171, 3), (16, .astore_n 3, 1), (17, .aload_n 3, 1), (18, .iload_n 1, 1), (19, .iload_n 2, 1), (20, .invokevirtual 226, 3), (23, .istore 4, 2), (25, .iload 4, 2), (27, .iconst (-1), 1), (28, .if_icmp .ne 5, 3), (31, .iconst (-1), 1), (32, .ireturn, 1), (33, .aload_n 3, 1), (34, .iload_n 1, 1), (35, .iload_n 2, 1), (36, .iconst 3, 1), (37, .invokevirtual 175, 3), (40, .istore 5, 2), (42, .iload_n 2, 1), (43, .iconst 1, 1), (44, .iadd, 1), (45, .istore 6, 2), (47, .iload 6, 2), (49, .sipush 2000, 3), (52, .if_icmp .ge 37, 3), (55, .aload_n 3, 1), (56, .iload_n 1, 1), (57, .iload 6, 2), (59, .invokevirtual 226, 3), (62, .iload 4, 2), (64, .if_icmp .ne 19, 3), (67, .aload_n 3, 1), (68, .iload_n 1, 1), (69, .iload 6, 2), (71, .iconst 3, 1), (72, .invokevirtual 175, 3), (75, .iload 5, 2), (77, .if_icmp .ne 6, 3), (80, .iload 6, 2), (82, .ireturn, 1), (83, .iinc 6 1, 3), (86, .goto (-39), 3), (89, .iconst (-1), 1), (90, .ireturn, 1)]
set_option maxRecDepth 1000000 in
theorem eX10_comes : ∀ q ∈ kX10_comes, decode cX10_comes q.1 = .ok q.2 := by decide +kernel
def kX10_saints : Ci_t := [(0, .aload_n 0, 1), (1, .iload_n 1, 1), (2, .iload_n 2, 1), (3, .iload_n 3, 1), (4, .iload 4, 2), (6, .iload 5, 2), (8, .invokevirtual 232, 3), (11, .ifCond .ne 6, 3), (14, .bipush (-2), 2), (16, .ireturn, 1), (17, .aload_n 0, 1), (18, .getfield 57, 3), (21, .aload_n 0, 1), (22, .getfield 26, 3), (25, .getfield 117, 3), (28, .iload_n 1, 1), (29, .aaload, 1), (30, .aload_n 0, 1), (31, .invokevirtual 171, 3), (34, .iload_n 1, 1), (35, .iload_n 2, 1), (36, .iload_n 3, 1), (37, .iload 4, 2), (39, .iload 5, 2), (41, .invokevirtual 236, 3), (44, .aload_n 0, 1), (45, .getfield 57, 3), (48, .getfield 240, 3), (51, .ireturn, 1)]
set_option maxRecDepth 1000000 in
theorem eX10_saints : ∀ q ∈ kX10_saints, decode cX10_saints q.1 = .ok q.2 := by decide +kernel
def kX10_founded : Ci_t := [(0, .aload_n 0, 1), (1, .iload_n 1, 1), (2, .iload_n 2, 1), (3, .iload_n 3, 1), (4, .iload 4, 2), (6, .iload 5, 2), (8, .invokevirtual 232, 3), (11, .ifCond .ne 7, 3), (14, .ldc2_w 243, 3), (17, .lreturn, 1), (18, .aload_n 0, 1), (19, .getfield 57, 3), (22, .aload_n 0, 1), (23, .getfield 26, 3), (26, .getfield 117, 3), (29, .iload_n 1, 1), (30, .aaload, 1), (31, .aload_n 0, 1), (32, .invokevirtual 171, 3), (35, .iload_n 1, 1), (36, .iload_n 2, 1), (37, .iload_n 3, 1), (38, .iload 4, 2), (40, .iload 5, 2), (42, .invokevirtual 236, 3), (45, .aload_n 0, 1), (46, .getfield 57, 3), (49, .getfield 245, 3), (52, .lreturn, 1)]
set_option maxRecDepth 1000000 in
theorem eX10_founded : ∀ q ∈ kX10_founded, decode cX10_founded q.1 = .ok q.2 := by decide +kernel
def kX10_bridge : Ci_t := [(0, .aload_n 0, 1), (1, .getfield 26, 3), (4, .iload_n 1, 1), (5, .invokevirtual 113, 3), (8, .ifCond .eq 23, 3), (11, .iload_n 2, 1), (12, .iload_n 3, 1), (13, .invokestatic 249, 3), (16, .ifCond .eq 15, 3), (19, .iload 4, 2), (21, .ifCond .lt 10, 3), (24, .iload 4, 2), (26, .bipush 9, 2), (28, .if_icmp .le 6, 3), (31, .bipush (-2), 2), (33, .ireturn, 1), (34, .aload_n 0, 1), (35, .invokevirtual 171, 3), (38, .iconst 1, 1), (39, .iload_n 1, 1), (40, .ishl, 1), (41, .iload_n 2, 1), (42, .iload_n 3, 1), (43, .iload 4, 2), (45, .invokevirtual 203, 3), (48, .aload_n 0, 1), (49, .getfield 50, 3), (52, .getfield 207, 3), (55, .ireturn, 1)]
set_option maxRecDepth 1000000 in
theorem eX10_bridge : ∀ q ∈ kX10_bridge, decode cX10_bridge q.1 = .ok q.2 := by decide +kernel
def kX10_bridged : Ci_t := [(0, .aload_n 0, 1), (1, .getfield 26, 3), (4, .iload_n 1, 1), (5, .invokevirtual 113, 3), (8, .ifCond .eq 23, 3), (11, .iload_n 2, 1), (12, .iload_n 3, 1), (13, .invokestatic 249, 3), (16, .ifCond .eq 15, 3), (19, .iload 4, 2), (21, .ifCond .lt 10, 3), (24, .iload 4, 2), (26, .bipush 9, 2), (28, .if_icmp .le 6, 3), (31, .bipush (-2), 2), (33, .ireturn, 1), (34, .aload_n 0, 1), (35, .invokevirtual 171, 3), (38, .iconst 1, 1), (39, .iload_n 1, 1), (40, .ishl, 1), (41, .iload_n 2, 1), (42, .iload_n 3, 1), (43, .iload 4, 2), (45, .invokevirtual 203, 3), (48, .aload_n 0, 1), (49, .getfield 50, 3), (52, .getfield 210, 3), (55, .ireturn, 1)]
set_option maxRecDepth 1000000 in
theorem eX10_bridged : ∀ q ∈ kX10_bridged, decode cX10_bridged q.1 = .ok q.2 := by decide +kernel
def kX10_oldest : Ci_t := [(0, .aload_n 0, 1), (1, .iload_n 1, 1), (2, .invokevirtual 252, 3), (5, .istore_n 2, 1), (6, .iload_n 2, 1), (7, .ifCond .ge 7, 3), (10, .iload_n 2, 1), (11, .goto 10, 3), (14, .aload_n 0, 1), (15, .getfield 64, 3), (18, .invokevirtual 256, 3), (21, .ireturn, 1)]
set_option maxRecDepth 1000000 in
theorem eX10_oldest : ∀ q ∈ kX10_oldest, decode cX10_oldest q.1 = .ok q.2 := by decide +kernel
def kX10_older : Ci_t := [(0, .aload_n 0, 1), (1, .iload_n 1, 1), (2, .invokevirtual 252, 3), (5, .istore_n 3, 1), (6, .iload_n 3, 1), (7, .ifCond .ge 5, 3), (10, .iload_n 3, 1), (11, .ireturn, 1), (12, .iload_n 2, 1), (13, .ifCond .lt 14, 3), (16, .iload_n 2, 1), (17, .aload_n 0, 1), (18, .getfield 64, 3), (21, .getfield 259, 3), (24, .if_icmp .lt 7, 3), (27, .iconst (-1), 1), (28, .goto 11, 3), (31, .aload_n 0, 1), (32, .getfield 64, 3), (35, .iload_n 2, 1), (36, .invokevirtual 260, 3), (39, .ireturn, 1)]
set_option maxRecDepth 1000000 in
theorem eX10_older : ∀ q ∈ kX10_older, decode cX10_older q.1 = .ok q.2 := by decide +kernel
def kX10_apart : Ci_t := [(0, .aload_n 0, 1), (1, .iload_n 1, 1), (2, .invokevirtual 252, 3), (5, .istore_n 2, 1), (6, .iload_n 2, 1), (7, .ifCond .ge 7, 3), (10, .iload_n 2, 1), (11, .goto 10, 3), (14, .aload_n 0, 1), (15, .getfield 64, 3), (18, .invokevirtual 263, 3), (21, .ireturn, 1)]
set_option maxRecDepth 1000000 in
theorem eX10_apart : ∀ q ∈ kX10_apart, decode cX10_apart q.1 = .ok q.2 := by decide +kernel
def kX10_idle : Ci_t := [(0, .aload_n 0, 1), (1, .iload_n 1, 1), (2, .invokevirtual 252, 3), (5, .istore_n 2, 1), (6, .iload_n 2, 1), (7, .ifCond .ge 7, 3), (10, .iload_n 2, 1), (11, .goto 14, 3), (14, .aload_n 0, 1), (15, .getfield 64, 3), (18, .aload_n 0, 1), (19, .invokevirtual 171, 3), (22, .invokevirtual 266, 3), (25, .ireturn, 1)]
set_option maxRecDepth 1000000 in
theorem eX10_idle : ∀ q ∈ kX10_idle, decode cX10_idle q.1 = .ok q.2 := by decide +kernel
def kX10_fits : Ci_t := [(0, .aload_n 0, 1), (1, .iload_n 1, 1), (2, .iload_n 2, 1), (3, .iload_n 3, 1), (4, .invokevirtual 270, 3), (7, .istore 4, 2), (9, .iload 4, 2), (11, .ifCond .ge 8, 3), (14, .iload 4, 2), (16, .goto 10, 3), (19, .aload_n 0, 1), (20, .getfield 71, 3), (23, .getfield 273, 3), (26, .ireturn, 1)]
set_option maxRecDepth 1000000 in
theorem eX10_fits : ∀ q ∈ kX10_fits, decode cX10_fits q.1 = .ok q.2 := by decide +kernel
def kX10_fit : Ci_t := [(0, .aload_n 0, 1), (1, .iload_n 1, 1), (2, .iload_n 2, 1), (3, .iload_n 3, 1), (4, .invokevirtual 270, 3), (7, .istore 5, 2), (9, .iload 5, 2), (11, .ifCond .ge 6, 3), (14, .iload 5, 2), (16, .ireturn, 1), (17, .iload 4, 2), (19, .ifCond .lt 15, 3), (22, .iload 4, 2), (24, .aload_n 0, 1), (25, .getfield 71, 3), (28, .getfield 273, 3), (31, .if_icmp .lt 7, 3), (34, .iconst (-1), 1), (35, .goto 13, 3), (38, .aload_n 0, 1), (39, .getfield 71, 3), (42, .getfield 274, 3), (45, .iload 4, 2), (47, .iaload, 1), (48, .ireturn, 1)]
set_option maxRecDepth 1000000 in
theorem eX10_fit : ∀ q ∈ kX10_fit, decode cX10_fit q.1 = .ok q.2 := by decide +kernel
def kX10_sure : Ci_t := [(0, .iload 4, 2), (2, .ifCond .lt 9, 3), (5, .iload 4, 2), (7, .iconst 1, 1), (8, .if_icmp .le 6, 3), (11, .bipush (-2), 2), (13, .ireturn, 1), (14, .aload_n 0, 1), (15, .iload_n 1, 1), (16, .iload_n 2, 1), (17, .iload_n 3, 1), (18, .invokevirtual 270, 3), (21, .istore 5, 2), (23, .iload 5, 2), (25, .ifCond .ge 6, 3), (28, .iload 5, 2), (30, .ireturn, 1), (31, .iload 4, 2), (33, .ifCond .ne 17, 3), (36, .aload_n 0, 1), (37, .getfield 71, 3), (40, .aload_n 0, 1), (41, .invokevirtual 171, 3), (44, .invokevirtual 277, 3), (47, .goto 14, 3), (50, .aload_n 0, 1), (51, .getfield 71, 3), (54, .aload_n 0, 1), (55, .invokevirtual 171, 3), (58, .invokevirtual 280, 3), (61, .ireturn, 1)]
set_option maxRecDepth 1000000 in
theorem eX10_sure : ∀ q ∈ kX10_sure, decode cX10_sure q.1 = .ok q.2 := by decide +kernel
def kX10_ask : Ci_t := [(0, .aload_n 0, 1), (1, .iload_n 1, 1), (2, .iload_n 2, 1), (3, .iload_n 3, 1), (4, .invokevirtual 270, 3), (7, .istore 4, 2), (9, .iload 4, 2), (11, .ifCond .ge 6, 3), (14, .iload 4, 2), (16, .ireturn, 1), (17, .aload_n 0, 1), (18, .getfield 71, 3), (21, .aload_n 0, 1), (22, .invokevirtual 171, 3), (25, .aload_n 0, 1), (26, .getfield 26, 3), (29, .getfield 229, 3), (32, .invokevirtual 283, 3), (35, .aload_n 0, 1), (36, .getfield 71, 3), (39, .getfield 287, 3), (42, .ireturn, 1)]
set_option maxRecDepth 1000000 in
theorem eX10_ask : ∀ q ∈ kX10_ask, decode cX10_ask q.1 = .ok q.2 := by decide +kernel
def kX10_leaves : Ci_t := [(0, .aload_n 0, 1), (1, .iload_n 1, 1), (2, .iload_n 2, 1), (3, .iload_n 3, 1), (4, .invokevirtual 270, 3), (7, .istore 4, 2), (9, .iload 4, 2), (11, .ifCond .ge 6, 3), (14, .iload 4, 2), (16, .ireturn, 1), (17, .aload_n 0, 1), (18, .getfield 71, 3), (21, .aload_n 0, 1), (22, .invokevirtual 171, 3), (25, .aload_n 0, 1), (26, .getfield 26, 3), (29, .getfield 229, 3), (32, .invokevirtual 283, 3), (35, .aload_n 0, 1), (36, .getfield 71, 3), (39, .getfield 290, 3), (42, .ireturn, 1)]
set_option maxRecDepth 1000000 in
theorem eX10_leaves : ∀ q ∈ kX10_leaves, decode cX10_leaves q.1 = .ok q.2 := by decide +kernel
def kX10_holds : Ci_t := [(0, .aload_n 0, 1), (1, .iload_n 1, 1), (2, .invokevirtual 186, 3), (5, .ifCond .eq 14, 3), (8, .aload_n 0, 1), (9, .getfield 26, 3), (12, .iload_n 1, 1), (13, .invokevirtual 293, 3), (16, .goto 5, 3), (19, .bipush (-2), 2), (21, .ireturn, 1)]
set_option maxRecDepth 1000000 in
theorem eX10_holds : ∀ q ∈ kX10_holds, decode cX10_holds q.1 = .ok q.2 := by decide +kernel
def kX10_overlap : Ci_t := [(0, .iload_n 1, 1), (1, .iconst 1, 1), (2, .if_icmp .lt 11, 3), (5, .aload_n 0, 1), (6, .iload_n 2, 1), (7, .invokevirtual 186, 3), (10, .ifCond .ne 6, 3), (13, .bipush (-2), 2), (15, .ireturn, 1), (16, .iload_n 1, 1), (17, .aload_n 0, 1), (18, .getfield 26, 3), (21, .getfield 162, 3), (24, .if_icmp .le 5, 3), (27, .iconst (-1), 1), (28, .ireturn, 1), (29, .iload_n 2, 1), (30, .istore_n 3, 1), (31, .iload_n 3, 1), (32, .sipush 2000, 3), (35, .if_icmp .ge 23, 3), (38, .aload_n 0, 1), (39, .getfield 26, 3), (42, .iload_n 3, 1), (43, .invokevirtual 293, 3), (46, .iload_n 1, 1), (47, .if_icmp .lt 5, 3), (50, .iload_n 3, 1), (51, .ireturn, 1), (52, .iinc 3 1, 3), (55, .goto (-24), 3), (58, .iconst (-1), 1), (59, .ireturn, 1)]
set_option maxRecDepth 1000000 in
theorem eX10_overlap : ∀ q ∈ kX10_overlap, decode cX10_overlap q.1 = .ok q.2 := by decide +kernel
def kX10_most : Ci_t := [(0, .aload_n 0, 1), (1, .getfield 26, 3), (4, .getfield 110, 3), (7, .ifCond .ne 6, 3), (10, .bipush (-2), 2), (12, .ireturn, 1), (13, .iconst 0, 1), (14, .istore_n 1, 1), (15, .iconst 0, 1), (16, .istore_n 2, 1), (17, .iload_n 2, 1), (18, .aload_n 0, 1), (19, .getfield 26, 3), (22, .getfield 162, 3), (25, .if_icmp .ge 36, 3), (28, .aload_n 0, 1), (29, .getfield 26, 3), (32, .getfield 165, 3), (35, .iload_n 2, 1), (36, .iconst 3, 1), (37, .imul, 1), (38, .iconst 1, 1), (39, .iadd, 1), (40, .iaload, 1), (41, .istore_n 3, 1), (42, .iload_n 1, 1), (43, .aload_n 0, 1), (44, .getfield 26, 3), (47, .iload_n 3, 1), (48, .invokevirtual 293, 3), (51, .invokestatic 296, 3), (54, .istore_n 1, 1), (55, .iinc 2 1, 3), (58, .goto (-41), 3), (61, .iload_n 1, 1), (62, .ireturn, 1)]
set_option maxRecDepth 1000000 in
theorem eX10_most : ∀ q ∈ kX10_most, decode cX10_most q.1 = .ok q.2 := by decide +kernel
def kX10_age : Ci_t := [(0, .aload_n 0, 1), (1, .iload_n 1, 1), (2, .iload_n 2, 1), (3, .invokevirtual 168, 3), (6, .ifCond .eq 10, 3), (9, .iload_n 3, 1), (10, .invokestatic 301, 3), (13, .ifCond .ne 6, 3), (16, .bipush (-2), 2), (18, .ireturn, 1), (19, .aload_n 0, 1), (20, .invokevirtual 171, 3), (23, .iload_n 1, 1), (24, .iload_n 2, 1), (25, .iload_n 3, 1), (26, .invokevirtual 304, 3), (29, .ireturn, 1)]
set_option maxRecDepth 1000000 in
theorem eX10_age : ∀ q ∈ kX10_age, decode cX10_age q.1 = .ok q.2 := by decide +kernel
def kX10_gains : Ci_t := [(0, .aload_n 0, 1), (1, .iload_n 1, 1), (2, .iload_n 2, 1), (3, .iload_n 3, 1), (4, .invokevirtual 216, 3), (7, .ifCond .eq 11, 3), (10, .iload 4, 2), (12, .invokestatic 301, 3), (15, .ifCond .ne 7, 3), (18, .sipush (-2000), 3), (21, .ireturn, 1), (22, .aload_n 0, 1), (23, .invokevirtual 171, 3), (26, .iload_n 1, 1), (27, .iload_n 3, 1), (28, .iload 4, 2), (30, .invokevirtual 304, 3), (33, .istore 5, 2), (35, .aload_n 0, 1), (36, .invokevirtual 171, 3), (39, .iload_n 2, 1), (40, .iload_n 3, 1), (41, .iload 4, 2), (43, .invokevirtual 304, 3), (46, .istore 6, 2), (48, .iload 5, 2), (50, .iconst (-1), 1), (51, .if_icmp .eq 9, 3), (54, .iload 6, 2), (56, .iconst (-1), 1), (57, .if_icmp .ne 9, 3), (60, .sipush (-1000), 3), (63, .goto 8, 3), (66, .iload 5, 2), (68, .iload 6, 2), (70, .isub, 1), (71, .ireturn, 1)]
set_option maxRecDepth 1000000 in
theorem eX10_gains : ∀ q ∈ kX10_gains, decode cX10_gains q.1 = .ok q.2 := by decide +kernel
def kX10_march : Ci_t := [(0, .aload_n 0, 1), (1, .iload_n 1, 1), (2, .iload_n 2, 1), (3, .invokevirtual 168, 3), (6, .ifCond .eq 8, 3), (9, .iload_n 3, 1), (10, .iconst 1, 1), (11, .if_icmp .ge 6, 3), (14, .bipush (-2), 2), (16, .ireturn, 1), (17, .aload_n 0, 1), (18, .invokevirtual 171, 3), (21, .astore 4, 2), (23, .iconst 0, 1), (24, .istore 5, 2), (26, .iload_n 2, 1), (27, .istore 6, 2), (29, .iload 6, 2), (31, .sipush 2000, 3), (34, .if_icmp .ge 32, 3), (37, .iload 5, 2), (39, .aload 4, 2), (41, .iload_n 1, 1), (42, .iload 6, 2), (44, .iconst 4, 1), (45, .invokevirtual 175, 3), (48, .iadd, 1), (49, .istore 5, 2), (51, .iload 5, 2), (53, .iload_n 3, 1), (54, .if_icmp .ne 6, 3), (57, .iload 6, 2), (59, .ireturn, 1), (60, .iinc 6 1, 3), (63, .goto (-34), 3), (66, .iconst (-1), 1), (67, .ireturn, 1)]
set_option maxRecDepth 1000000 in
theorem eX10_march : ∀ q ∈ kX10_march, decode cX10_march q.1 = .ok q.2 := by decide +kernel
def kX10_clash : Ci_t := [(0, .aload_n 0, 1), (1, .iload_n 1, 1), (2, .iload_n 2, 1), (3, .iload_n 3, 1), (4, .invokevirtual 216, 3), (7, .ifCond .eq 9, 3), (10, .iload 4, 2), (12, .iconst 1, 1), (13, .if_icmp .ge 6, 3), (16, .bipush (-2), 2), (18, .ireturn, 1), (19, .aload_n 0, 1), (20, .invokevirtual 171, 3), (23, .iload_n 1, 1), (24, .iload_n 2, 1), (25, .iload_n 3, 1), (26, .iload 4, 2), (28, .invokevirtual 307, 3), (31, .ireturn, 1)]
set_option maxRecDepth 1000000 in
theorem eX10_clash : ∀ q ∈ kX10_clash, decode cX10_clash q.1 = .ok q.2 := by decide +kernel
def kX10_place : Ci_t := [(0, .aload_n 0, 1), (1, .iload_n 1, 1), (2, .iload_n 2, 1), (3, .iload_n 3, 1), (4, .invokevirtual 216, 3), (7, .ifCond .eq 9, 3), (10, .iload 4, 2), (12, .iconst 1, 1), (13, .if_icmp .ge 6, 3), (16, .bipush (-2), 2), (18, .ireturn, 1), (19, .aload_n 0, 1), (20, .invokevirtual 171, 3), (23, .astore 5, 2), (25, .aload 5, 2), (27, .iload_n 1, 1), (28, .iload_n 2, 1), (29, .iload_n 3, 1), (30, .iload 4, 2), (32, .invokevirtual 307, 3), (35, .istore 6, 2), (37, .iload 6, 2), (39, .iconst (-1), 1), (40, .if_icmp .ne 5, 3), (43, .iconst (-1), 1), (44, .ireturn, 1), (45, .aload 5, 2), (47, .iconst 1, 1), (48, .iload_n 1, 1), (49, .ishl, 1), (50, .iload_n 3, 1), (51, .iload 6, 2), (53, .invokevirtual 200, 3), (56, .istore 7, 2), (58, .iload 7, 2), (60, .aload 5, 2), (62, .iconst 1, 1), (63, .iload_n 2, 1), (64, .ishl, 1), (65, .iload_n 3, 1), (66, .iload 6, 2), (68, .invokevirtual 200, 3), (71, .iadd, 1), (72, .istore 8, 2), (74, .iload 8, 2), (76, .iload 4, 2), (78, .if_icmp .le 15, 3), (81, .iload_n 1, 1), (82, .iload_n 2, 1), (83, .if_icmp .le 10, 3), (86, .iload 7, 2), (88, .iconst 1, 1), (89, .isub, 1), (90, .goto 5, 3), (93, .iload 7, 2), (95, .ireturn, 1)]
set_option maxRecDepth 1000000 in
theorem eX10_place : ∀ q ∈ kX10_place, decode cX10_place q.1 = .ok q.2 := by decide +kernel
def kX10_alone : Ci_t := [(0, .aload_n 0, 1), (1, .iload_n 1, 1), (2, .iload_n 2, 1), (3, .invokevirtual 310, 3), (6, .ifCond .eq 12, 3), (9, .iload_n 3, 1), (10, .iload 4, 2), (12, .invokestatic 249, 3), (15, .ifCond .ne 6, 3), (18, .bipush (-2), 2), (20, .ireturn, 1), (21, .aload_n 0, 1), (22, .invokevirtual 171, 3), (25, .iload_n 1, 1), (26, .iload_n 2, 1), (27, .iload_n 3, 1), (28, .iload 4, 2), (30, .invokevirtual 313, 3), (33, .ireturn, 1)]
set_option maxRecDepth 1000000 in
theorem eX10_alone : ∀ q ∈ kX10_alone, decode cX10_alone q.1 = .ok q.2 := by decide +kernel
def kX10_begin : Ci_t := [(0, .aload_n 0, 1), (1, .iload_n 1, 1), (2, .iload_n 2, 1), (3, .invokevirtual 310, 3), (6, .ifCond .eq 26, 3), (9, .iload_n 3, 1), (10, .iload 4, 2), (12, .invokestatic 249, 3), (15, .ifCond .eq 17, 3), (18, .iload 5, 2), (20, .iconst 1, 1), (21, .if_icmp .lt 11, 3), (24, .iload 5, 2), (26, .sipush 200, 3), (29, .if_icmp .le 6, 3), (32, .bipush (-2), 2), (34, .ireturn, 1), (35, .aload_n 0, 1), (36, .invokevirtual 171, 3), (39, .iload_n 1, 1), (40, .iload_n 2, 1), (41, .iload_n 3, 1), (42, .iload 4, 2), (44, .iload 5, 2), (46, .invokevirtual 316, 3), (49, .aload_n 0, 1), (50, .getfield 50, 3), (53, .getfield 320, 3), (56, .ireturn, 1)]
set_option maxRecDepth 1000000 in
theorem eX10_begin : ∀ q ∈ kX10_begin, decode cX10_begin q.1 = .ok q.2 := by decide +kernel
def kX10_begins : Ci_t := [(0, .aload_n 0, 1), (1, .iload_n 1, 1), (2, .iload_n 2, 1), (3, .invokevirtual 310, 3), (6, .ifCond .eq 26, 3), (9, .iload_n 3, 1), (10, .iload 4, 2), (12, .invokestatic 249, 3), (15, .ifCond .eq 17, 3), (18, .iload 5, 2), (20, .iconst 1, 1), (21, .if_icmp .lt 11, 3), (24, .iload 5, 2), (26, .sipush 200, 3), (29, .if_icmp .le 6, 3), (32, .bipush (-2), 2), (34, .ireturn, 1), (35, .aload_n 0, 1), (36, .invokevirtual 171, 3), (39, .iload_n 1, 1), (40, .iload_n 2, 1), (41, .iload_n 3, 1), (42, .iload 4, 2), (44, .iload 5, 2), (46, .invokevirtual 316, 3), (49, .aload_n 0, 1), (50, .getfield 50, 3), (53, .getfield 323, 3), (56, .ireturn, 1)]
set_option maxRecDepth 1000000 in
theorem eX10_begins : ∀ q ∈ kX10_begins, decode cX10_begins q.1 = .ok q.2 := by decide +kernel
def kX10_game : Ci_t := [(0, .aload_n 0, 1), (1, .iload_n 1, 1), (2, .iload_n 2, 1), (3, .iload_n 3, 1), (4, .invokevirtual 216, 3), (7, .ifCond .eq 16, 3), (10, .iload 4, 2), (12, .iconst 1, 1), (13, .if_icmp .lt 10, 3), (16, .iload 4, 2), (18, .bipush 40, 2), (20, .if_icmp .le 6, 3), (23, .bipush (-2), 2), (25, .ireturn, 1), (26, .aload_n 0, 1), (27, .getfield 78, 3), (30, .aload_n 0, 1), (31, .invokevirtual 171, 3), (34, .iload_n 1, 1), (35, .iload_n 2, 1), (36, .invokestatic 326, 3), (39, .iload_n 1, 1), (40, .iload_n 2, 1), (41, .invokestatic 296, 3), (44, .iload_n 3, 1), (45, .iload 4, 2), (47, .invokevirtual 329, 3), (50, .aload_n 0, 1), (51, .getfield 78, 3), (54, .getfield 333, 3), (57, .ireturn, 1)]
set_option maxRecDepth 1000000 in
theorem eX10_game : ∀ q ∈ kX10_game, decode cX10_game q.1 = .ok q.2 := by decide +kernel
def kX10_takes : Ci_t := [(0, .aload_n 0, 1), (1, .iload_n 1, 1), (2, .iload_n 2, 1), (3, .iload_n 3, 1), (4, .invokevirtual 216, 3), (7, .ifCond .eq 16, 3), (10, .iload 4, 2), (12, .iconst 1, 1), (13, .if_icmp .lt 10, 3), (16, .iload 4, 2), (18, .bipush 40, 2), (20, .if_icmp .le 6, 3), (23, .bipush (-2), 2), (25, .ireturn, 1), (26, .aload_n 0, 1), (27, .getfield 78, 3), (30, .aload_n 0, 1), (31, .invokevirtual 171, 3), (34, .iload_n 1, 1), (35, .iload_n 2, 1), (36, .invokestatic 326, 3), (39, .iload_n 1, 1), (40, .iload_n 2, 1), (41, .invokestatic 296, 3), (44, .iload_n 3, 1), (45, .iload 4, 2), (47, .invokevirtual 329, 3), (50, .aload_n 0, 1), (51, .getfield 78, 3), (54, .getfield 336, 3), (57, .ireturn, 1)]
set_option maxRecDepth 1000000 in
theorem eX10_takes : ∀ q ∈ kX10_takes, decode cX10_takes q.1 = .ok q.2 := by decide +kernel
def kX10_found : Ci_t := [(0, .aload_n 0, 1), (1, .getfield 26, 3), (4, .iload_n 1, 1), (5, .iload_n 2, 1), (6, .iload_n 3, 1), (7, .invokevirtual 339, 3), (10, .ifCond .eq 16, 3), (13, .iload 4, 2), (15, .iconst 1, 1), (16, .if_icmp .lt 10, 3), (19, .iload 4, 2), (21, .bipush 9, 2), (23, .if_icmp .le 6, 3), (26, .bipush (-2), 2), (28, .ireturn, 1), (29, .aload_n 0, 1), (30, .getfield 26, 3), (33, .getfield 155, 3), (36, .bipush 12, 2), (38, .if_icmp .ge 15, 3), (41, .aload_n 0, 1), (42, .getfield 26, 3), (45, .getfield 342, 3), (48, .bipush 60, 2), (50, .if_icmp .lt 6, 3), (53, .bipush (-3), 2), (55, .ireturn, 1), (56, .aload_n 0, 1), (57, .getfield 26, 3), (60, .aload_n 0, 1), (61, .getfield 26, 3), (64, .getfield 155, 3), (67, .iload_n 1, 1), (68, .iload_n 2, 1), (69, .iload_n 3, 1), (70, .iload 4, 2), (72, .invokevirtual 345, 3), (75, .aload_n 0, 1), (76, .getfield 26, 3), (79, .invokevirtual 348, 3), (82, .aload_n 0, 1), (83, .getfield 50, 3), (86, .iload_n 1, 1), (87, .invokevirtual 351, 3), (90, .aload_n 0, 1), (91, .getfield 26, 3), (94, .getfield 155, 3), (97, .iconst 1, 1), (98, .isub, 1), (99, .ireturn, 1)]
set_option maxRecDepth 1000000 in
theorem eX10_found : ∀ q ∈ kX10_found, decode cX10_found q.1 = .ok q.2 := by decide +kernel
def kX10_grant : Ci_t := [(0, .aload_n 0, 1), (1, .getfield 26, 3), (4, .iload_n 1, 1), (5, .invokevirtual 113, 3), (8, .ifCond .eq 11, 3), (11, .iload_n 2, 1), (12, .iload_n 3, 1), (13, .invokestatic 249, 3), (16, .ifCond .ne 6, 3), (19, .bipush (-2), 2), (21, .ireturn, 1), (22, .aload_n 0, 1), (23, .getfield 26, 3), (26, .getfield 162, 3), (29, .bipush 12, 2), (31, .if_icmp .ge 15, 3), (34, .aload_n 0, 1), (35, .getfield 26, 3), (38, .getfield 342, 3), (41, .bipush 60, 2), (43, .if_icmp .lt 6, 3), (46, .bipush (-3), 2), (48, .ireturn, 1), (49, .aload_n 0, 1), (50, .getfield 26, 3), (53, .iload_n 1, 1), (54, .iload_n 2, 1), (55, .iload_n 3, 1), (56, .invokevirtual 354, 3), (59, .aload_n 0, 1), (60, .getfield 26, 3), (63, .invokevirtual 358, 3), (66, .aload_n 0, 1), (67, .getfield 50, 3), (70, .iload_n 1, 1), (71, .invokevirtual 351, 3), (74, .aload_n 0, 1), (75, .getfield 26, 3), (78, .getfield 162, 3), (81, .iconst 1, 1), (82, .isub, 1), (83, .ireturn, 1)]
set_option maxRecDepth 1000000 in
theorem eX10_grant : ∀ q ∈ kX10_grant, decode cX10_grant q.1 = .ok q.2 := by decide +kernel
def kX10_ends : Ci_t := [(0, .aload_n 0, 1), (1, .getfield 26, 3), (4, .iload_n 1, 1), (5, .invokevirtual 113, 3), (8, .ifCond .ne 6, 3), (11, .bipush (-2), 2), (13, .ireturn, 1), (14, .aload_n 0, 1), (15, .getfield 26, 3), (18, .iload_n 1, 1), (19, .invokevirtual 361, 3), (22, .istore_n 2, 1), (23, .iload_n 2, 1), (24, .iconst (-1), 1), (25, .if_icmp .ne 6, 3), (28, .bipush (-5), 2), (30, .ireturn, 1), (31, .aload_n 0, 1), (32, .getfield 26, 3), (35, .getfield 342, 3), (38, .bipush 60, 2), (40, .if_icmp .lt 6, 3), (43, .bipush (-3), 2), (45, .ireturn, 1), (46, .aload_n 0, 1), (47, .getfield 26, 3), (50, .iload_n 2, 1), (51, .invokevirtual 364, 3), (54, .aload_n 0, 1), (55, .getfield 26, 3), (58, .iload_n 2, 1), (59, .invokevirtual 367, 3), (62, .aload_n 0, 1), (63, .getfield 50, 3), (66, .iload_n 1, 1), (67, .invokevirtual 351, 3), (70, .iload_n 2, 1), (71, .ireturn, 1)]
set_option maxRecDepth 1000000 in
theorem eX10_ends : ∀ q ∈ kX10_ends, decode cX10_ends q.1 = .ok q.2 := by decide +kernel
def kX10_undo : Ci_t := [(0, .aload_n 0, 1), (1, .getfield 26, 3), (4, .getfield 110, 3), (7, .ifCond .ne 6, 3), (10, .bipush (-2), 2), (12, .ireturn, 1), (13, .aload_n 0, 1), (14, .getfield 26, 3), (17, .getfield 342, 3), (20, .ifCond .ne 6, 3), (23, .bipush (-5), 2), (25, .ireturn, 1), (26, .aload_n 0, 1), (27, .getfield 50, 3), (30, .aload_n 0, 1), (31, .getfield 26, 3), (34, .invokevirtual 370, 3), (37, .invokevirtual 351, 3), (40, .aload_n 0, 1), (41, .getfield 26, 3), (44, .getfield 342, 3), (47, .ireturn, 1)]
set_option maxRecDepth 1000000 in
theorem eX10_undo : ∀ q ∈ kX10_undo, decode cX10_undo q.1 = .ok q.2 := by decide +kernel
def kX10_drawn : Ci_t := [(0, .aload_n 0, 1), (1, .getfield 26, 3), (4, .getfield 110, 3), (7, .ifCond .eq 23, 3), (10, .iload_n 1, 1), (11, .iload_n 2, 1), (12, .iload_n 3, 1), (13, .invokestatic 373, 3), (16, .ifCond .eq 14, 3), (19, .iload 4, 2), (21, .ifCond .lt 9, 3), (24, .iload 4, 2), (26, .iconst 1, 1), (27, .if_icmp .le 6, 3), (30, .bipush (-2), 2), (32, .ireturn, 1), (33, .iconst 1, 1), (34, .aload_n 0, 1), (35, .getfield 26, 3), (38, .getfield 229, 3), (41, .ishl, 1), (42, .iconst 1, 1), (43, .isub, 1), (44, .istore 5, 2), (46, .sipush 2000, 3), (49, .iload_n 2, 1), (50, .iload_n 3, 1), (51, .iadd, 1), (52, .invokestatic 326, 3), (55, .istore 6, 2), (57, .aload_n 0, 1), (58, .invokevirtual 171, 3), (61, .astore 7, 2), (63, .iload_n 1, 1), (64, .i2l, 1), (65, .lstore 8, 2), (67, .iconst 0, 1), (68, .istore 10, 2), (70, .iload_n 2, 1), (71, .istore 11, 2), (73, .iload 11, 2), (75, .iload 6, 2), (77, .if_icmp .ge 63, 3), (80, .lload 8, 2), (82, .invokestatic 376, 3), (85, .lstore 8, 2), (87, .lload 8, 2), (89, .aload_n 0, 1), (90, .getfield 26, 3), (93, .getfield 380, 3), (96, .invokestatic 383, 3), (99, .istore 12, 2), (101, .iload 4, 2), (103, .ifCond .ne 11, 3), (106, .iload 12, 2), (108, .ifCond .eq 26, 3), (111, .goto 20, 3), (114, .iload 12, 2), (116, .ifCond .ne 18, 3), (119, .aload 7, 2), (121, .iload 5, 2), (123, .iload 11, 2), (125, .invokevirtual 197, 3), (128, .ifCond .eq 6, 3), (131, .iinc 10 1, 3), (134, .iinc 11 1, 3), (137, .goto (-64), 3), (140, .iload 10, 2), (142, .ireturn, 1)]
set_option maxRecDepth 1000000 in
theorem eX10_drawn : ∀ q ∈ kX10_drawn, decode cX10_drawn q.1 = .ok q.2 := by decide +kernel
def kX10_luck : Ci_t := [(0, .aload_n 0, 1), (1, .getfield 26, 3), (4, .iload_n 3, 1), (5, .invokevirtual 113, 3), (8, .ifCond .eq 25, 3), (11, .iload_n 1, 1), (12, .iload 4, 2), (14, .iload 5, 2), (16, .invokestatic 373, 3), (19, .ifCond .eq 14, 3), (22, .iload_n 2, 1), (23, .iconst 1, 1), (24, .if_icmp .lt 9, 3), (27, .iload_n 2, 1), (28, .bipush 20, 2), (30, .if_icmp .le 6, 3), (33, .bipush (-2), 2), (35, .ireturn, 1), (36, .aload_n 0, 1), (37, .invokevirtual 171, 3), (40, .astore 6, 2), (42, .iconst 0, 1), (43, .istore 7, 2), (45, .iconst 0, 1), (46, .istore 8, 2), (48, .iload 8, 2), (50, .iload_n 2, 1), (51, .if_icmp .ge 32, 3), (54, .aload_n 0, 1), (55, .aload 6, 2), (57, .iload_n 1, 1), (58, .i2l, 1), (59, .iload 8, 2), (61, .i2l, 1), (62, .ladd, 1), (63, .iload_n 3, 1), (64, .iload 4, 2), (66, .iload 5, 2), (68, .invokevirtual 387, 3), (71, .ifCond .ne 6, 3), (74, .iinc 7 1, 3), (77, .iinc 8 1, 3), (80, .goto (-32), 3), (83, .iload 7, 2), (85, .ireturn, 1)]
set_option maxRecDepth 1000000 in
theorem eX10_luck : ∀ q ∈ kX10_luck, decode cX10_luck q.1 = .ok q.2 := by decide +kernel
def kX10_count : Ci_t := [(0, .iload_n 1, 1), (1, .tableswitch 108 0 7 #[47, 55, 63, 71, 79, 87, 95, 103], 47), (48, .aload_n 0, 1), (49, .getfield 26, 3), (52, .getfield 229, 3), (55, .ireturn, 1), (56, .aload_n 0, 1), (57, .getfield 26, 3), (60, .getfield 155, 3), (63, .ireturn, 1), (64, .aload_n 0, 1), (65, .getfield 26, 3), (68, .getfield 162, 3), (71, .ireturn, 1), (72, .aload_n 0, 1), (73, .getfield 26, 3), (76, .getfield 380, 3), (79, .ireturn, 1), (80, .aload_n 0, 1), (81, .getfield 26, 3), (84, .getfield 110, 3), (87, .ireturn, 1), (88, .aload_n 0, 1), (89, .getfield 10, 3), (92, .getfield 90, 3), (95, .ireturn, 1), (96, .aload_n 0, 1), (97, .getfield 26, 3), (100, .getfield 342, 3), (103, .ireturn, 1), (104, .aload_n 0, 1), (105, .invokevirtual 391, 3), (108, .ireturn, 1), (109, .iconst (-1), 1), (110, .ireturn, 1)]
set_option maxRecDepth 1000000 in
theorem eX10_count : ∀ q ∈ kX10_count, decode cX10_count q.1 = .ok q.2 := by decide +kernel
def kX10_image : Ci_t := [(0, .iload_n 1, 1), (1, .ifCond .lt 8, 3), (4, .iload_n 1, 1), (5, .iconst 3, 1), (6, .if_icmp .lt 6, 3), (9, .bipush (-2), 2), (11, .ireturn, 1), (12, .aload_n 0, 1), (13, .getfield 33, 3), (16, .iload_n 1, 1), (17, .aaload, 1), (18, .aload_n 0, 1), (19, .getfield 26, 3), (22, .invokevirtual 394, 3), (25, .aload_n 0, 1), (26, .getfield 37, 3), (29, .iload_n 1, 1), (30, .iconst 1, 1), (31, .bastore, 1), (32, .iconst 0, 1), (33, .ireturn, 1)]
set_option maxRecDepth 1000000 in
theorem eX10_image : ∀ q ∈ kX10_image, decode cX10_image q.1 = .ok q.2 := by decide +kernel
def kX10_back : Ci_t := [(0, .iload_n 1, 1), (1, .ifCond .lt 8, 3), (4, .iload_n 1, 1), (5, .iconst 3, 1), (6, .if_icmp .lt 6, 3), (9, .bipush (-2), 2), (11, .ireturn, 1), (12, .aload_n 0, 1), (13, .getfield 37, 3), (16, .iload_n 1, 1), (17, .baload, 1), (18, .ifCond .ne 6, 3), (21, .bipush (-6), 2), (23, .ireturn, 1), (24, .aload_n 0, 1), (25, .getfield 26, 3), (28, .aload_n 0, 1), (29, .getfield 33, 3), (32, .iload_n 1, 1), (33, .aaload, 1), (34, .invokevirtual 394, 3), (37, .aload_n 0, 1), (38, .getfield 50, 3), (41, .invokevirtual 107, 3), (44, .iconst 0, 1), (45, .ireturn, 1)]
set_option maxRecDepth 1000000 in
theorem eX10_back : ∀ q ∈ kX10_back, decode cX10_back q.1 = .ok q.2 := by decide +kernel
def kX10_row : Ci_t := [(0, .iload_n 1, 1), (1, .invokestatic 398, 3), (4, .ifCond .eq 18, 3), (7, .iload_n 2, 1), (8, .ifCond .lt 14, 3), (11, .iload_n 2, 1), (12, .iconst 4, 1), (13, .if_icmp .ge 9, 3), (16, .iload_n 3, 1), (17, .bipush 60, 2), (19, .if_icmp .le 6, 3), (22, .bipush (-2), 2), (24, .ireturn, 1), (25, .iload_n 3, 1), (26, .ifCond .ge 6, 3), (29, .bipush (-3), 2), (31, .ireturn, 1), (32, .aload_n 0, 1), (33, .getfield 43, 3), (36, .iload_n 1, 1), (37, .aaload, 1), (38, .iload_n 2, 1), (39, .iload_n 3, 1), (40, .invokevirtual 401, 3), (43, .iconst 0, 1), (44, .ireturn, 1)]
set_option maxRecDepth 1000000 in
theorem eX10_row : ∀ q ∈ kX10_row, decode cX10_row q.1 = .ok q.2 := by decide +kernel
def kX10_write : Ci_t := [(0, .iload_n 1, 1), (1, .invokestatic 398, 3), (4, .ifCond .ne 6, 3), (7, .bipush (-2), 2), (9, .ireturn, 1), (10, .aload_n 0, 1), (11, .getfield 43, 3), (14, .iload_n 1, 1), (15, .aaload, 1), (16, .astore 5, 2), (18, .aload 5, 2), (20, .getfield 405, 3), (23, .ifCond .ne 6, 3), (26, .bipush (-6), 2), (28, .ireturn, 1), (29, .iload_n 2, 1), (30, .ifCond .lt 12, 3), (33, .iload_n 2, 1), (34, .aload 5, 2), (36, .getfield 409, 3), (39, .if_icmp .lt 6, 3), (42, .bipush (-7), 2), (44, .ireturn, 1), (45, .aload 5, 2), (47, .getfield 410, 3), (50, .iload_n 2, 1), (51, .aload 5, 2), (53, .lload_n 3, 1), (54, .invokevirtual 414, 3), (57, .lastore, 1), (58, .iconst 0, 1), (59, .ireturn, 1)]
set_option maxRecDepth 1000000 in
theorem eX10_write : ∀ q ∈ kX10_write, decode cX10_write q.1 = .ok q.2 := by decide +kernel
def kX10_paste : Ci_t := [(0, .iload_n 1, 1), (1, .invokestatic 398, 3), (4, .ifCond .eq 10, 3), (7, .iload_n 3, 1), (8, .invokestatic 398, 3), (11, .ifCond .ne 6, 3), (14, .bipush (-2), 2), (16, .ireturn, 1), (17, .aload_n 0, 1), (18, .getfield 43, 3), (21, .iload_n 1, 1), (22, .aaload, 1), (23, .astore 6, 2), (25, .aload_n 0, 1), (26, .getfield 43, 3), (29, .iload_n 3, 1), (30, .aaload, 1), (31, .astore 7, 2), (33, .aload 6, 2), (35, .getfield 405, 3), (38, .ifCond .eq 11, 3), (41, .aload 7, 2), (43, .getfield 405, 3), (46, .ifCond .ne 6, 3), (49, .bipush (-6), 2), (51, .ireturn, 1), (52, .aload 6, 2), (54, .getfield 417, 3), (57, .aload 7, 2), (59, .getfield 417, 3), (62, .if_icmp .eq 6, 3), (65, .bipush (-8), 2), (67, .ireturn, 1), (68, .aload 6, 2), (70, .iload_n 2, 1), (71, .iload 5, 2), (73, .invokevirtual 420, 3), (76, .ifCond .eq 15, 3), (79, .aload 7, 2), (81, .iload 4, 2), (83, .iload 5, 2), (85, .invokevirtual 420, 3), (88, .ifCond .ne 6, 3), (91, .bipush (-7), 2), (93, .ireturn, 1), (94, .aload 6, 2), (96, .getfield 410, 3), (99, .iload_n 2, 1), (100, .aload 7, 2), (102, .getfield 410, 3), (105, .iload 4, 2), (107, .iload 5, 2), (109, .invokestatic 423, 3), (112, .iconst 0, 1), (113, .ireturn, 1)]
set_option maxRecDepth 1000000 in
theorem eX10_paste : ∀ q ∈ kX10_paste, decode cX10_paste q.1 = .ok q.2 := by decide +kernel
def kX10_isDay : Ci_t := [(0, .iload_n 0, 1), (1, .ifCond .lt 14, 3), (4, .iload_n 0, 1), (5, .sipush 2000, 3), (8, .if_icmp .ge 7, 3), (11, .iconst 1, 1), (12, .goto 4, 3), (15, .iconst 0, 1), (16, .ireturn, 1)]
set_option maxRecDepth 1000000 in
theorem eX10_isDay : ∀ q ∈ kX10_isDay, decode cX10_isDay q.1 = .ok q.2 := by decide +kernel
def kX10_isYear : Ci_t := [(0, .iload_n 0, 1), (1, .ifCond .lt 14, 3), (4, .iload_n 0, 1), (5, .sipush 2000, 3), (8, .if_icmp .ge 7, 3), (11, .iconst 1, 1), (12, .goto 4, 3), (15, .iconst 0, 1), (16, .ireturn, 1)]
set_option maxRecDepth 1000000 in
theorem eX10_isYear : ∀ q ∈ kX10_isYear, decode cX10_isYear q.1 = .ok q.2 := by decide +kernel
def kX10_isSpan : Ci_t := [(0, .iload_n 0, 1), (1, .invokestatic 301, 3), (4, .ifCond .eq 19, 3), (7, .iload_n 1, 1), (8, .invokestatic 301, 3), (11, .ifCond .eq 12, 3), (14, .iload_n 0, 1), (15, .iload_n 1, 1), (16, .if_icmp .gt 7, 3), (19, .iconst 1, 1), (20, .goto 4, 3), (23, .iconst 0, 1), (24, .ireturn, 1)]
set_option maxRecDepth 1000000 in
theorem eX10_isSpan : ∀ q ∈ kX10_isSpan, decode cX10_isSpan q.1 = .ok q.2 := by decide +kernel
def kX10_isSlot : Ci_t := [(0, .iload_n 0, 1), (1, .ifCond .lt 12, 3), (4, .iload_n 0, 1), (5, .iconst 4, 1), (6, .if_icmp .ge 7, 3), (9, .iconst 1, 1), (10, .goto 4, 3), (13, .iconst 0, 1), (14, .ireturn, 1)]
set_option maxRecDepth 1000000 in
theorem eX10_isSlot : ∀ q ∈ kX10_isSlot, decode cX10_isSlot q.1 = .ok q.2 := by decide +kernel
def kX10_isRain : Ci_t := [(0, .iload_n 0, 1), (1, .ifCond .lt 32, 3), (4, .iload_n 0, 1), (5, .ldc_w 429, 3), (8, .if_icmp .gt 25, 3), (11, .iload_n 1, 1), (12, .invokestatic 301, 3), (15, .ifCond .eq 18, 3), (18, .iload_n 2, 1), (19, .iconst 1, 1), (20, .if_icmp .lt 13, 3), (23, .iload_n 2, 1), (24, .bipush 100, 2), (26, .if_icmp .gt 7, 3), (29, .iconst 1, 1), (30, .goto 4, 3), (33, .iconst 0, 1), (34, .ireturn, 1)]
set_option maxRecDepth 1000000 in
theorem eX10_isRain : ∀ q ∈ kX10_isRain, decode cX10_isRain q.1 = .ok q.2 := by decide +kernel
def kX10_isDayOfWar : Ci_t := [(0, .aload_n 0, 1), (1, .getfield 26, 3), (4, .getfield 110, 3), (7, .ifCond .le 14, 3), (10, .iload_n 1, 1), (11, .invokestatic 301, 3), (14, .ifCond .eq 7, 3), (17, .iconst 1, 1), (18, .goto 4, 3), (21, .iconst 0, 1), (22, .ireturn, 1)]
set_option maxRecDepth 1000000 in
theorem eX10_isDayOfWar : ∀ q ∈ kX10_isDayOfWar, decode cX10_isDayOfWar q.1 = .ok q.2 := by decide +kernel
def kX10_isLandAndDay : Ci_t := [(0, .aload_n 0, 1), (1, .getfield 26, 3), (4, .iload_n 1, 1), (5, .invokevirtual 113, 3), (8, .ifCond .eq 14, 3), (11, .iload_n 2, 1), (12, .invokestatic 301, 3), (15, .ifCond .eq 7, 3), (18, .iconst 1, 1), (19, .goto 4, 3), (22, .iconst 0, 1), (23, .ireturn, 1)]
set_option maxRecDepth 1000000 in
theorem eX10_isLandAndDay : ∀ q ∈ kX10_isLandAndDay, decode cX10_isLandAndDay q.1 = .ok q.2 := by decide +kernel
def kX10_isPair : Ci_t := [(0, .aload_n 0, 1), (1, .getfield 26, 3), (4, .iload_n 1, 1), (5, .invokevirtual 113, 3), (8, .ifCond .eq 23, 3), (11, .aload_n 0, 1), (12, .getfield 26, 3), (15, .iload_n 2, 1), (16, .invokevirtual 113, 3), (19, .ifCond .eq 12, 3), (22, .iload_n 1, 1), (23, .iload_n 2, 1), (24, .if_icmp .eq 7, 3), (27, .iconst 1, 1), (28, .goto 4, 3), (31, .iconst 0, 1), (32, .ireturn, 1)]
set_option maxRecDepth 1000000 in
theorem eX10_isPair : ∀ q ∈ kX10_isPair, decode cX10_isPair q.1 = .ok q.2 := by decide +kernel
def kX10_isPairAndDay : Ci_t := [(0, .aload_n 0, 1), (1, .iload_n 1, 1), (2, .iload_n 2, 1), (3, .invokevirtual 310, 3), (6, .ifCond .eq 14, 3), (9, .iload_n 3, 1), (10, .invokestatic 301, 3), (13, .ifCond .eq 7, 3), (16, .iconst 1, 1), (17, .goto 4, 3), (20, .iconst 0, 1), (21, .ireturn, 1)]
set_option maxRecDepth 1000000 in
theorem eX10_isPairAndDay : ∀ q ∈ kX10_isPairAndDay, decode cX10_isPairAndDay q.1 = .ok q.2 := by decide +kernel
def kX10_isSetInSpan : Ci_t := [(0, .aload_n 0, 1), (1, .getfield 26, 3), (4, .getfield 110, 3), (7, .ifCond .le 32, 3), (10, .iload_n 1, 1), (11, .ifCond .lt 28, 3), (14, .iload_n 1, 1), (15, .iconst 1, 1), (16, .aload_n 0, 1), (17, .getfield 26, 3), (20, .getfield 229, 3), (23, .ishl, 1), (24, .if_icmp .ge 15, 3), (27, .iload_n 2, 1), (28, .iload_n 3, 1), (29, .invokestatic 249, 3), (32, .ifCond .eq 7, 3), (35, .iconst 1, 1), (36, .goto 4, 3), (39, .iconst 0, 1), (40, .ireturn, 1)]
set_option maxRecDepth 1000000 in
theorem eX10_isSetInSpan : ∀ q ∈ kX10_isSetInSpan, decode cX10_isSetInSpan q.1 = .ok q.2 := by decide +kernel
def kX10_isSaintly : Ci_t := [(0, .aload_n 0, 1), (1, .getfield 26, 3), (4, .iload_n 1, 1), (5, .iload_n 2, 1), (6, .invokevirtual 144, 3), (9, .ifCond .eq 40, 3), (12, .iload_n 3, 1), (13, .invokestatic 148, 3), (16, .ifCond .eq 33, 3), (19, .iload 4, 2), (21, .iconst 1, 1), (22, .if_icmp .lt 27, 3), (25, .iload 4, 2), (27, .bipush 20, 2), (29, .if_icmp .gt 20, 3), (32, .iload 5, 2), (34, .iconst 1, 1), (35, .if_icmp .lt 14, 3), (38, .iload 5, 2), (40, .bipush 9, 2), (42, .if_icmp .gt 7, 3), (45, .iconst 1, 1), (46, .goto 4, 3), (49, .iconst 0, 1), (50, .ireturn, 1)]
set_option maxRecDepth 1000000 in
theorem eX10_isSaintly : ∀ q ∈ kX10_isSaintly, decode cX10_isSaintly q.1 = .ok q.2 := by decide +kernel
def kX10_commonDivisor : Ci_t := [(0, .iload_n 0, 1), (1, .istore_n 2, 1), (2, .iload_n 1, 1), (3, .istore_n 3, 1), (4, .iconst 0, 1), (5, .istore 4, 2), (7, .iload 4, 2), (9, .bipush 100, 2), (11, .if_icmp .ge 23, 3), (14, .iload_n 3, 1), (15, .ifCond .eq 19, 3), (18, .iload_n 2, 1), (19, .iload_n 3, 1), (20, .irem, 1), (21, .istore 5, 2), (23, .iload_n 3, 1), (24, .istore_n 2, 1), (25, .iload 5, 2), (27, .istore_n 3, 1), (28, .iinc 4 1, 3), (31, .goto (-24), 3), (34, .iload_n 2, 1), (35, .ifCond .ne 7, 3), (38, .iconst 1, 1), (39, .goto 4, 3), (42, .iload_n 2, 1), (43, .ireturn, 1)]
set_option maxRecDepth 1000000 in
theorem eX10_commonDivisor : ∀ q ∈ kX10_commonDivisor, decode cX10_commonDivisor q.1 = .ok q.2 := by decide +kernel
def kX10_nextDraw : Ci_t := [(0, .ldc2_w 430, 3), (3, .lload_n 0, 1), (4, .lmul, 1), (5, .ldc2_w 432, 3), (8, .ladd, 1), (9, .ldc2_w 434, 3), (12, .lrem, 1), (13, .lreturn, 1)]
set_option maxRecDepth 1000000 in
theorem eX10_nextDraw : ∀ q ∈ kX10_nextDraw, decode cX10_nextDraw q.1 = .ok q.2 := by decide +kernel
def kX10_isWet : Ci_t := [(0, .lload_n 0, 1), (1, .ldc2_w 436, 3), (4, .ldiv, 1), (5, .ldc2_w 438, 3), (8, .lrem, 1), (9, .iload_n 2, 1), (10, .i2l, 1), (11, .lcmp, 1), (12, .ifCond .ge 7, 3), (15, .iconst 1, 1), (16, .goto 4, 3), (19, .iconst 0, 1), (20, .ireturn, 1)]
set_option maxRecDepth 1000000 in
theorem eX10_isWet : ∀ q ∈ kX10_isWet, decode cX10_isWet q.1 = .ok q.2 := by decide +kernel
def kX10_fightsInRain : Ci_t := [(0, .sipush 2000, 3), (3, .iload 5, 2), (5, .iload 6, 2), (7, .iadd, 1), (8, .invokestatic 326, 3), (11, .istore 7, 2), (13, .lload_n 2, 1), (14, .lstore 8, 2), (16, .iload 5, 2), (18, .istore 10, 2), (20, .iload 10, 2), (22, .iload 7, 2), (24, .if_icmp .ge 46, 3), (27, .lload 8, 2), (29, .invokestatic 376, 3), (32, .lstore 8, 2), (34, .lload 8, 2), (36, .aload_n 0, 1), (37, .getfield 26, 3), (40, .getfield 380, 3), (43, .invokestatic 383, 3), (46, .ifCond .ne 18, 3), (49, .aload_n 1, 1), (50, .iload 4, 2), (52, .iload 10, 2), (54, .iconst 4, 1), (55, .invokevirtual 175, 3), (58, .iconst 1, 1), (59, .if_icmp .ne 5, 3), (62, .iconst 1, 1), (63, .ireturn, 1), (64, .iinc 10 1, 3), (67, .goto (-47), 3), (70, .iconst 0, 1), (71, .ireturn, 1)]
set_option maxRecDepth 1000000 in
theorem eX10_fightsInRain : ∀ q ∈ kX10_fightsInRain, decode cX10_fightsInRain q.1 = .ok q.2 := by decide +kernel
def kX10_told : Ci_t := [(0, .aload_n 0, 1), (1, .getfield 50, 3), (4, .aload_n 0, 1), (5, .getfield 26, 3), (8, .invokevirtual 440, 3), (11, .aload_n 0, 1), (12, .getfield 50, 3), (15, .areturn, 1)]
set_option maxRecDepth 1000000 in
theorem eX10_told : ∀ q ∈ kX10_told, decode cX10_told q.1 = .ok q.2 := by decide +kernel
def kX10_slotsWithRow : Ci_t := [(0, .iconst 0, 1), (1, .istore_n 1, 1), (2, .iconst 0, 1), (3, .istore_n 2, 1), (4, .iload_n 2, 1), (5, .iconst 4, 1), (6, .if_icmp .ge 24, 3), (9, .aload_n 0, 1), (10, .getfield 43, 3), (13, .iload_n 2, 1), (14, .aaload, 1), (15, .getfield 405, 3), (18, .ifCond .eq 6, 3), (21, .iinc 1 1, 3), (24, .iinc 2 1, 3), (27, .goto (-23), 3), (30, .iload_n 1, 1), (31, .ireturn, 1)]
set_option maxRecDepth 1000000 in
theorem eX10_slotsWithRow : ∀ q ∈ kX10_slotsWithRow, decode cX10_slotsWithRow q.1 = .ok q.2 := by decide +kernel
def kX10_readOrders : Ci_t := [(0, .iload_n 1, 1), (1, .invokestatic 398, 3), (4, .ifCond .eq 13, 3), (7, .aload_n 0, 1), (8, .getfield 26, 3), (11, .getfield 110, 3), (14, .ifCond .ne 6, 3), (17, .bipush (-2), 2), (19, .ireturn, 1), (20, .aload_n 0, 1), (21, .getfield 43, 3), (24, .iload_n 1, 1), (25, .aaload, 1), (26, .getfield 405, 3), (29, .ifCond .ne 6, 3), (32, .bipush (-6), 2), (34, .ireturn, 1), (35, .aload_n 0, 1), (36, .getfield 64, 3), (39, .aload_n 0, 1), (40, .getfield 43, 3), (43, .iload_n 1, 1), (44, .aaload, 1), (45, .aload_n 0, 1), (46, .getfield 26, 3), (49, .invokevirtual 443, 3), (52, .ifCond .eq 7, 3), (55, .iconst 0, 1), (56, .goto 5, 3), (59, .bipush (-2), 2), (61, .ireturn, 1)]
set_option maxRecDepth 1000000 in
theorem eX10_readOrders : ∀ q ∈ kX10_readOrders, decode cX10_readOrders q.1 = .ok q.2 := by decide +kernel
def kX10_readSights : Ci_t := [(0, .iload_n 1, 1), (1, .invokestatic 398, 3), (4, .ifCond .eq 21, 3), (7, .iload_n 2, 1), (8, .iload_n 3, 1), (9, .invokestatic 249, 3), (12, .ifCond .eq 13, 3), (15, .aload_n 0, 1), (16, .getfield 26, 3), (19, .getfield 110, 3), (22, .ifCond .ne 6, 3), (25, .bipush (-2), 2), (27, .ireturn, 1), (28, .aload_n 0, 1), (29, .getfield 43, 3), (32, .iload_n 1, 1), (33, .aaload, 1), (34, .astore 4, 2), (36, .aload 4, 2), (38, .getfield 405, 3), (41, .ifCond .ne 6, 3), (44, .bipush (-6), 2), (46, .ireturn, 1), (47, .aload_n 0, 1), (48, .getfield 71, 3), (51, .aload 4, 2), (53, .aload_n 0, 1), (54, .getfield 26, 3), (57, .getfield 229, 3), (60, .invokevirtual 446, 3), (63, .ifCond .ne 6, 3), (66, .bipush (-2), 2), (68, .ireturn, 1), (69, .aload_n 0, 1), (70, .getfield 50, 3), (73, .aload_n 0, 1), (74, .getfield 26, 3), (77, .invokevirtual 440, 3), (80, .aload_n 0, 1), (81, .getfield 71, 3), (84, .aload 4, 2), (86, .aload_n 0, 1), (87, .getfield 50, 3), (90, .iload_n 2, 1), (91, .iload_n 3, 1), (92, .invokevirtual 450, 3), (95, .iconst 0, 1), (96, .ireturn, 1)]
set_option maxRecDepth 1000000 in
theorem eX10_readSights : ∀ q ∈ kX10_readSights, decode cX10_readSights q.1 = .ok q.2 := by decide +kernel
end
section
def kX11_init : Ci_t := [(0, .aload_n 0, 1), (1, .invokespecial 3, 3), (4, .aload_n 0, 1), (5, .sipush 495, 3), (8, .newarray .int, 2), (10, .putfield 9, 3), (13, .aload_n 0, 1), (14, .sipush 1485, 3), (17, .newarray .int, 2), (19, .putfield 13, 3), (22, .aload_n 0, 1), (23, .iconst 3, 1), (24, .newarray .boolean, 2), (26, .putfield 16, 3), (29, .aload_n 0, 1), (30, .sipush 1200, 3), (33, .newarray .byte, 2), (35, .putfield 20, 3), (38, .aload_n 0, 1), (39, .iconst 5, 1), (40, .newarray .int, 2), (42, .putfield 24, 3), (45, .aload_n 0, 1), (46, .iconst (-1), 1), (47, .putfield 27, 3), (50, .aload_n 0, 1), (51, .sipush 495, 3), (54, .newarray .int, 2), (56, .putfield 31, 3), (59, .aload_n 0, 1), (60, .sipush 6000, 3), (63, .newarray .int, 2), (65, .putfield 34, 3), (68, .aload_n 0, 1), (69, .sipush 6000, 3), (72, .newarray .int, 2), (74, .putfield 37, 3), (77, .aload_n 0, 1), (78, .sipush 6000, 3), (81, .newarray .int, 2), (83, .putfield 40, 3), (86, .aload_n 0, 1), (87, .sipush 6000, 3), (90, .newarray .int, 2), (92, .putfield 43, 3), (95, .aload_n 0, 1), (96, .bipush 70, 2), (98, .newarray .boolean, 2), (100, .putfield 46, 3), (103, .aload_n 0, 1), (104, .bipush 12, 2), (106, .newarray .int, 2), (108, .putfield 49, 3), (111, .aload_n 0, 1), (112, .bipush 41, 2), (114, .newarray .int, 2), (116, .putfield 52, 3), (119, .aload_n 0, 1), (120, .bipush 41, 2), (122, .newarray .int, 2), (124, .putfield 55, 3), (127, .aload_n 0, 1), (128, .bipush 41, 2), (130, .newarray .int, 2), (132, .putfield 58, 3), (135, .aload_n 0, 1), (136, .iconst 4, 1), (137, .newarray .int, 2), (139, .dup, 1), (140, .iconst 0, 1), (141, .iconst (-1), 1), (142, .iastore, 1), (143, .dup, 1), (144, .iconst 1, 1), (145, .iconst (-1), 1), (146, .iastore, 1), (147, .dup, 1), (148, .iconst 2, 1), (149, .iconst (-1), 1), (150, .iastore, 1), (151, .dup, 1), (152, .iconst 3, 1), (153, .iconst (-1), 1), (154, .iastore, 1), (155, .putfield 61, 3), (158, .aload_n 0, 1), (159, .iconst 4, 1), (160, .newarray .int, 2), (162, .putfield 64, 3), (165, .aload_n 0, 1), (166, .sipush 240, 3), (169, .newarray .long, 2), (171, .putfield 67, 3), (174, .aload_n 0, 1), (175, .bipush 60, 2), (177, .newarray .long, 2), (179, .putfield 71, 3), (182, .return_, 1)]
set_option maxRecDepth 1000000 in
theorem eX11_init : ∀ q ∈ kX11_init, decode cX11_init q.1 = .ok q.2 := by decide +kernel
def kX11_in : Ci_t := [(0, .lload_n 0, 1), (1, .lload_n 2, 1), (2, .lcmp, 1), (3, .ifCond .lt 14, 3), (6, .lload_n 0, 1), (7, .lload 4, 2), (9, .lcmp, 1), (10, .ifCond .gt 7, 3), (13, .iconst 1, 1), (14, .goto 4, 3), (17, .iconst 0, 1), (18, .ireturn, 1)]
set_option maxRecDepth 1000000 in
theorem eX11_in : ∀ q ∈ kX11_in, decode cX11_in q.1 = .ok q.2 := by decide +kernel
def kX11_bit : Ci_t := [(0, .iload_n 0, 1), (1, .iload_n 1, 1), (2, .ishr, 1), (3, .iconst 1, 1), (4, .iand, 1), (5, .ireturn, 1)]
set_option maxRecDepth 1000000 in
theorem eX11_bit : ∀ q ∈ kX11_bit, decode cX11_bit q.1 = .ok q.2 := by decide +kernel
def kX11_image : Ci_t := [(0, .iload_n 1, 1), (1, .i2l, 1), (2, .lconst 0, 1), (3, .ldc2_w 77, 3), (6, .invokestatic 79, 3), (9, .ifCond .ne 6, 3), (12, .bipush (-2), 2), (14, .ireturn, 1), (15, .iconst 0, 1), (16, .istore_n 2, 1), (17, .iload_n 2, 1), (18, .sipush 495, 3), (21, .if_icmp .ge 27, 3), (24, .aload_n 0, 1), (25, .getfield 13, 3), (28, .sipush 495, 3), (31, .iload_n 1, 1), (32, .imul, 1), (33, .iload_n 2, 1), (34, .iadd, 1), (35, .aload_n 0, 1), (36, .getfield 9, 3), (39, .iload_n 2, 1), (40, .iaload, 1), (41, .iastore, 1), (42, .iinc 2 1, 3), (45, .goto (-28), 3), (48, .aload_n 0, 1), (49, .getfield 16, 3), (52, .iload_n 1, 1), (53, .iconst 1, 1), (54, .bastore, 1), (55, .iconst 0, 1), (56, .ireturn, 1)]
set_option maxRecDepth 1000000 in
theorem eX11_image : ∀ q ∈ kX11_image, decode cX11_image q.1 = .ok q.2 := by decide +kernel
def kX11_back : Ci_t := [(0, .iload_n 1, 1), (1, .i2l, 1), (2, .lconst 0, 1), (3, .ldc2_w 77, 3), (6, .invokestatic 79, 3), (9, .ifCond .ne 6, 3), (12, .bipush (-2), 2), (14, .ireturn, 1), (15, .aload_n 0, 1), (16, .getfield 16, 3), (19, .iload_n 1, 1), (20, .baload, 1), (21, .ifCond .ne 6, 3), (24, .bipush (-6), 2), (26, .ireturn, 1), (27, .iconst 0, 1), (28, .istore_n 2, 1), (29, .iload_n 2, 1), (30, .sipush 495, 3), (33, .if_icmp .ge 27, 3), (36, .aload_n 0, 1), (37, .getfield 9, 3), (40, .iload_n 2, 1), (41, .aload_n 0, 1), (42, .getfield 13, 3), (45, .sipush 495, 3), (48, .iload_n 1, 1), (49, .imul, 1), (50, .iload_n 2, 1), (51, .iadd, 1), (52, .iaload, 1), (53, .iastore, 1), (54, .iinc 2 1, 3), (57, .goto (-28), 3), (60, .iconst 0, 1), (61, .ireturn, 1)]
set_option maxRecDepth 1000000 in
theorem eX11_back : ∀ q ∈ kX11_back, decode cX11_back q.1 = .ok q.2 := by decide +kernel
def kX11_isWar : Ci_t := [(0, .aload_n 0, 1), (1, .getfield 9, 3), (4, .iconst 4, 1), (5, .iaload, 1), (6, .ifCond .le 7, 3), (9, .iconst 1, 1), (10, .goto 4, 3), (13, .iconst 0, 1), (14, .ireturn, 1)]
set_option maxRecDepth 1000000 in
theorem eX11_isWar : ∀ q ∈ kX11_isWar, decode cX11_isWar q.1 = .ok q.2 := by decide +kernel
def kX11_isLand : Ci_t := [(0, .lload_n 1, 1), (1, .lconst 0, 1), (2, .aload_n 0, 1), (3, .getfield 9, 3), (6, .iconst 1, 1), (7, .iaload, 1), (8, .iconst 1, 1), (9, .isub, 1), (10, .i2l, 1), (11, .invokestatic 79, 3), (14, .ireturn, 1)]
set_option maxRecDepth 1000000 in
theorem eX11_isLand : ∀ q ∈ kX11_isLand, decode cX11_isLand q.1 = .ok q.2 := by decide +kernel
def kX11_areTwo : Ci_t := [(0, .aload_n 0, 1), (1, .iload_n 1, 1), (2, .i2l, 1), (3, .invokevirtual 83, 3), (6, .ifCond .eq 21, 3), (9, .aload_n 0, 1), (10, .iload_n 2, 1), (11, .i2l, 1), (12, .invokevirtual 83, 3), (15, .ifCond .eq 12, 3), (18, .iload_n 1, 1), (19, .iload_n 2, 1), (20, .if_icmp .eq 7, 3), (23, .iconst 1, 1), (24, .goto 4, 3), (27, .iconst 0, 1), (28, .ireturn, 1)]
set_option maxRecDepth 1000000 in
theorem eX11_areTwo : ∀ q ∈ kX11_areTwo, decode cX11_areTwo q.1 = .ok q.2 := by decide +kernel
def kX11_isDay : Ci_t := [(0, .lload_n 0, 1), (1, .lconst 0, 1), (2, .ldc2_w 87, 3), (5, .invokestatic 79, 3), (8, .ireturn, 1)]
set_option maxRecDepth 1000000 in
theorem eX11_isDay : ∀ q ∈ kX11_isDay, decode cX11_isDay q.1 = .ok q.2 := by decide +kernel
def kX11_isYear : Ci_t := [(0, .lload_n 0, 1), (1, .lconst 0, 1), (2, .ldc2_w 87, 3), (5, .invokestatic 79, 3), (8, .ireturn, 1)]
set_option maxRecDepth 1000000 in
theorem eX11_isYear : ∀ q ∈ kX11_isYear, decode cX11_isYear q.1 = .ok q.2 := by decide +kernel
def kX11_isSpan : Ci_t := [(0, .iload_n 0, 1), (1, .i2l, 1), (2, .invokestatic 89, 3), (5, .ifCond .eq 20, 3), (8, .iload_n 1, 1), (9, .i2l, 1), (10, .invokestatic 89, 3), (13, .ifCond .eq 12, 3), (16, .iload_n 0, 1), (17, .iload_n 1, 1), (18, .if_icmp .gt 7, 3), (21, .iconst 1, 1), (22, .goto 4, 3), (25, .iconst 0, 1), (26, .ireturn, 1)]
set_option maxRecDepth 1000000 in
theorem eX11_isSpan : ∀ q ∈ kX11_isSpan, decode cX11_isSpan q.1 = .ok q.2 := by decide +kernel
def kX11_allLands : Ci_t := [(0, .iconst 1, 1), (1, .aload_n 0, 1), (2, .getfield 9, 3), (5, .iconst 1, 1), (6, .iaload, 1), (7, .ishl, 1), (8, .iconst 1, 1), (9, .isub, 1), (10, .ireturn, 1)]
set_option maxRecDepth 1000000 in
theorem eX11_allLands : ∀ q ∈ kX11_allLands, decode cX11_allLands q.1 = .ok q.2 := by decide +kernel
def kX11_isSet : Ci_t := [(0, .aload_n 0, 1), (1, .invokevirtual 92, 3), (4, .ifCond .eq 21, 3), (7, .iload_n 1, 1), (8, .i2l, 1), (9, .lconst 0, 1), (10, .aload_n 0, 1), (11, .invokevirtual 96, 3), (14, .i2l, 1), (15, .invokestatic 79, 3), (18, .ifCond .eq 7, 3), (21, .iconst 1, 1), (22, .goto 4, 3), (25, .iconst 0, 1), (26, .ireturn, 1)]
set_option maxRecDepth 1000000 in
theorem eX11_isSet : ∀ q ∈ kX11_isSet, decode cX11_isSet q.1 = .ok q.2 := by decide +kernel
def kX11_of : Ci_t := [(0, .aload_n 0, 1), (1, .getfield 9, 3), (4, .bipush 6, 2), (6, .bipush 15, 2), (8, .iload_n 1, 1), (9, .imul, 1), (10, .iadd, 1), (11, .iload_n 2, 1), (12, .iadd, 1), (13, .iaload, 1), (14, .ireturn, 1)]
set_option maxRecDepth 1000000 in
theorem eX11_of : ∀ q ∈ kX11_of, decode cX11_of q.1 = .ok q.2 := by decide +kernel
def kX11_isMonth : Ci_t := [(0, .lload_n 2, 1), (1, .lconst 0, 1), (2, .aload_n 0, 1), (3, .iload_n 1, 1), (4, .iconst 3, 1), (5, .invokevirtual 100, 3), (8, .iconst 1, 1), (9, .isub, 1), (10, .i2l, 1), (11, .invokestatic 79, 3), (14, .ireturn, 1)]
set_option maxRecDepth 1000000 in
theorem eX11_isMonth : ∀ q ∈ kX11_isMonth, decode cX11_isMonth q.1 = .ok q.2 := by decide +kernel
def kX11_lengthOf : Ci_t := [(0, .aload_n 0, 1), (1, .iload_n 1, 1), (2, .bipush 7, 2), (4, .iload_n 2, 1), (5, .iadd, 1), (6, .invokevirtual 100, 3), (9, .aload_n 0, 1), (10, .iload_n 1, 1), (11, .iconst 4, 1), (12, .invokevirtual 100, 3), (15, .ifCond .le 34, 3), (18, .iload_n 2, 1), (19, .aload_n 0, 1), (20, .iload_n 1, 1), (21, .iconst 5, 1), (22, .invokevirtual 100, 3), (25, .if_icmp .ne 24, 3), (28, .iload_n 3, 1), (29, .aload_n 0, 1), (30, .iload_n 1, 1), (31, .iconst 4, 1), (32, .invokevirtual 100, 3), (35, .irem, 1), (36, .ifCond .ne 13, 3), (39, .aload_n 0, 1), (40, .iload_n 1, 1), (41, .bipush 6, 2), (43, .invokevirtual 100, 3), (46, .goto 4, 3), (49, .iconst 0, 1), (50, .iadd, 1), (51, .ireturn, 1)]
set_option maxRecDepth 1000000 in
theorem eX11_lengthOf : ∀ q ∈ kX11_lengthOf, decode cX11_lengthOf q.1 = .ok q.2 := by decide +kernel
def kX11_yearLength : Ci_t := [(0, .iconst 0, 1), (1, .istore_n 3, 1), (2, .iconst 0, 1), (3, .istore 4, 2), (5, .iload 4, 2), (7, .aload_n 0, 1), (8, .iload_n 1, 1), (9, .iconst 3, 1), (10, .invokevirtual 100, 3), (13, .if_icmp .ge 20, 3), (16, .iload_n 3, 1), (17, .aload_n 0, 1), (18, .iload_n 1, 1), (19, .iload 4, 2), (21, .iload_n 2, 1), (22, .invokevirtual 104, 3), (25, .iadd, 1), (26, .istore_n 3, 1), (27, .iinc 4 1, 3), (30, .goto (-25), 3), (33, .iload_n 3, 1), (34, .ireturn, 1)]
set_option maxRecDepth 1000000 in
theorem eX11_yearLength : ∀ q ∈ kX11_yearLength, decode cX11_yearLength q.1 = .ok q.2 := by decide +kernel
def kX11_ofFeast : Ci_t := [(0, .aload_n 0, 1), (1, .getfield 9, 3), (4, .bipush 51, 2), (6, .iconst 4, 1), (7, .iload_n 1, 1), (8, .imul, 1), (9, .iadd, 1), (10, .iload_n 2, 1), (11, .iadd, 1), (12, .iaload, 1), (13, .ireturn, 1)]
set_option maxRecDepth 1000000 in
theorem eX11_ofFeast : ∀ q ∈ kX11_ofFeast, decode cX11_ofFeast q.1 = .ok q.2 := by decide +kernel
def kX11_ofTruce : Ci_t := [(0, .aload_n 0, 1), (1, .getfield 9, 3), (4, .bipush 99, 2), (6, .iconst 3, 1), (7, .iload_n 1, 1), (8, .imul, 1), (9, .iadd, 1), (10, .iload_n 2, 1), (11, .iadd, 1), (12, .iaload, 1), (13, .ireturn, 1)]
set_option maxRecDepth 1000000 in
theorem eX11_ofTruce : ∀ q ∈ kX11_ofTruce, decode cX11_ofTruce q.1 = .ok q.2 := by decide +kernel
def kX11_feed : Ci_t := [(0, .aload_n 0, 1), (1, .getfield 108, 3), (4, .bipush 20, 2), (6, .iadd, 1), (7, .sipush 1200, 3), (10, .if_icmp .le 5, 3), (13, .iconst (-1), 1), (14, .ireturn, 1), (15, .aload_n 0, 1), (16, .getfield 24, 3), (19, .iconst 0, 1), (20, .iload_n 1, 1), (21, .iastore, 1), (22, .aload_n 0, 1), (23, .getfield 24, 3), (26, .iconst 1, 1), (27, .iload_n 2, 1), (28, .iastore, 1), (29, .aload_n 0, 1), (30, .getfield 24, 3), (33, .iconst 2, 1), (34, .iload_n 3, 1), (35, .iastore, 1), (36, .aload_n 0, 1), (37, .getfield 24, 3), (40, .iconst 3, 1), (41, .iload 4, 2), (43, .iastore, 1), (44, .aload_n 0, 1), (45, .getfield 24, 3), (48, .iconst 4, 1), (49, .iload 5, 2), (51, .iastore, 1), (52, .iconst 0, 1), (53, .istore 6, 2), (55, .iload 6, 2), (57, .bipush 20, 2), (59, .if_icmp .ge 42, 3), (62, .aload_n 0, 1), (63, .getfield 20, 3), (66, .aload_n 0, 1), (67, .getfield 108, 3), (70, .iload 6, 2), (72, .iadd, 1), (73, .aload_n 0, 1), (74, .getfield 24, 3), (77, .iload 6, 2), (79, .iconst 4, 1), (80, .idiv, 1), (81, .iaload, 1), (82, .bipush 24, 2), (84, .bipush 8, 2), (86, .iload 6, 2), (88, .iconst 4, 1), (89, .irem, 1), (90, .imul, 1), (91, .isub, 1), (92, .ishr, 1), (93, .i2b, 1), (94, .bastore, 1), (95, .iinc 6 1, 3), (98, .goto (-43), 3), (101, .aload_n 0, 1), (102, .dup, 1), (103, .getfield 108, 3), (106, .bipush 20, 2), (108, .iadd, 1), (109, .putfield 108, 3), (112, .aload_n 0, 1), (113, .getfield 108, 3), (116, .ireturn, 1)]
set_option maxRecDepth 1000000 in
theorem eX11_feed : ∀ q ∈ kX11_feed, decode cX11_feed q.1 = .ok q.2 := by decide +kernel
def kX11_end : Ci_t := [(0, .iload_n 1, 1), (1, .i2l, 1), (2, .lconst 0, 1), (3, .aload_n 0, 1), (4, .getfield 108, 3), (7, .i2l, 1), (8, .invokestatic 79, 3), (11, .ifCond .ne 5, 3), (14, .iconst (-1), 1), (15, .ireturn, 1), (16, .aload_n 0, 1), (17, .iload_n 1, 1), (18, .putfield 108, 3), (21, .iload_n 1, 1), (22, .ireturn, 1)]
set_option maxRecDepth 1000000 in
theorem eX11_end : ∀ q ∈ kX11_end, decode cX11_end q.1 = .ok q.2 := by decide +kernel
def kX11_see : Ci_t := [(0, .iload_n 1, 1), (1, .aload_n 0, 1), (2, .getfield 111, 3), (5, .if_icmp .ge 16, 3), (8, .aload_n 0, 1), (9, .getfield 20, 3), (12, .iload_n 1, 1), (13, .baload, 1), (14, .sipush 255, 3), (17, .iand, 1), (18, .goto 4, 3), (21, .iconst (-1), 1), (22, .ireturn, 1)]
set_option maxRecDepth 1000000 in
theorem eX11_see : ∀ q ∈ kX11_see, decode cX11_see q.1 = .ok q.2 := by decide +kernel
def kX11_advance : Ci_t := [(0, .aload_n 0, 1), (1, .aload_n 0, 1), (2, .getfield 114, 3), (5, .invokevirtual 117, 3), (8, .bipush 32, 2), (10, .if_icmp .eq 16, 3), (13, .aload_n 0, 1), (14, .aload_n 0, 1), (15, .getfield 114, 3), (18, .invokevirtual 117, 3), (21, .bipush 10, 2), (23, .if_icmp .ne 16, 3), (26, .aload_n 0, 1), (27, .dup, 1), (28, .getfield 114, 3), (31, .iconst 1, 1), (32, .iadd, 1), (33, .putfield 114, 3), (36, .goto (-36), 3), (39, .aload_n 0, 1), (40, .aload_n 0, 1), (41, .getfield 114, 3), (44, .putfield 121, 3), (47, .aload_n 0, 1), (48, .aload_n 0, 1), (49, .getfield 114, 3), (52, .invokevirtual 117, 3), (55, .istore_n 1, 1), (56, .iload_n 1, 1), (57, .iconst (-1), 1), (58, .if_icmp .ne 11, 3), (61, .aload_n 0, 1), (62, .iconst 0, 1), (63, .putfield 124, 3), (66, .goto 173, 3), (69, .iload_n 1, 1), (70, .i2l, 1), (71, .ldc2_w 127, 3), (74, .ldc2_w 129, 3), (77, .invokestatic 79, 3), (80, .ifCond .eq 45, 3), (83, .aload_n 0, 1), (84, .aload_n 0, 1), (85, .getfield 114, 3), (88, .invokevirtual 117, 3), (91, .i2l, 1), (92, .ldc2_w 127, 3), (95, .ldc2_w 129, 3), (98, .invokestatic 79, 3), (101, .ifCond .eq 16, 3), (104, .aload_n 0, 1), (105, .dup, 1), (106, .getfield 114, 3), (109, .iconst 1, 1), (110, .iadd, 1), (111, .putfield 114, 3), (114, .goto (-31), 3), (117, .aload_n 0, 1), (118, .iconst 1, 1), (119, .putfield 124, 3), (122, .goto 117, 3), (125, .iload_n 1, 1), (126, .i2l, 1), (127, .ldc2_w 131, 3), (130, .ldc2_w 133, 3), (133, .invokestatic 79, 3), (136, .ifCond .eq 78, 3), (139, .aload_n 0, 1), (140, .iconst 0, 1), (141, .putfield 135, 3), (144, .aload_n 0, 1), (145, .aload_n 0, 1), (146, .getfield 114, 3), (149, .invokevirtual 117, 3), (152, .i2l, 1), (153, .ldc2_w 131, 3), (156, .ldc2_w 133, 3), (159, .invokestatic 79, 3), (162, .ifCond .eq 44, 3), (165, .aload_n 0, 1), (166, .ldc 138, 2), (168, .bipush 10, 2), (170, .aload_n 0, 1), (171, .getfield 135, 3), (174, .imul, 1), (175, .aload_n 0, 1), (176, .aload_n 0, 1), (177, .getfield 114, 3), (180, .invokevirtual 117, 3), (183, .iadd, 1), (184, .bipush 48, 2), (186, .isub, 1), (187, .invokestatic 139, 3), (190, .putfield 135, 3), (193, .aload_n 0, 1), (194, .dup, 1), (195, .getfield 114, 3), (198, .iconst 1, 1), (199, .iadd, 1), (200, .putfield 114, 3), (203, .goto (-59), 3), (206, .aload_n 0, 1), (207, .iconst 2, 1), (208, .putfield 124, 3), (211, .goto 28, 3), (214, .aload_n 0, 1), (215, .iload_n 1, 1), (216, .bipush 59, 2), (218, .if_icmp .ne 7, 3), (221, .iconst 3, 1), (222, .goto 4, 3), (225, .iconst 4, 1), (226, .putfield 124, 3), (229, .aload_n 0, 1), (230, .dup, 1), (231, .getfield 114, 3), (234, .iconst 1, 1), (235, .iadd, 1), (236, .putfield 114, 3), (239, .return_, 1)]
set_option maxRecDepth 1000000 in
theorem eX11_advance : ∀ q ∈ kX11_advance, decode cX11_advance q.1 = .ok q.2 := by decide +kernel
def kX11_good : Ci_t := [(0, .aload_n 0, 1), (1, .getfield 144, 3), (4, .ifCond .ne 7, 3), (7, .iconst 1, 1), (8, .goto 4, 3), (11, .iconst 0, 1), (12, .ireturn, 1)]
set_option maxRecDepth 1000000 in
theorem eX11_good : ∀ q ∈ kX11_good, decode cX11_good q.1 = .ok q.2 := by decide +kernel
def kX11_errs : Ci_t := [(0, .aload_n 0, 1), (1, .invokevirtual 147, 3), (4, .ifCond .ne 4, 3), (7, .return_, 1), (8, .aload_n 0, 1), (9, .iload_n 1, 1), (10, .putfield 144, 3), (13, .aload_n 0, 1), (14, .aload_n 0, 1), (15, .getfield 121, 3), (18, .putfield 27, 3), (21, .return_, 1)]
set_option maxRecDepth 1000000 in
theorem eX11_errs : ∀ q ∈ kX11_errs, decode cX11_errs q.1 = .ok q.2 := by decide +kernel
def kX11_is : Ci_t := [(0, .aload_n 0, 1), (1, .invokevirtual 147, 3), (4, .ifCond .eq 31, 3), (7, .aload_n 0, 1), (8, .getfield 124, 3), (11, .iconst 1, 1), (12, .if_icmp .ne 23, 3), (15, .aload_n 0, 1), (16, .getfield 114, 3), (19, .aload_n 0, 1), (20, .getfield 121, 3), (23, .isub, 1), (24, .aload_n 1, 1), (25, .invokevirtual 150, 3), (28, .if_icmp .ne 7, 3), (31, .iconst 1, 1), (32, .goto 4, 3), (35, .iconst 0, 1), (36, .istore_n 2, 1), (37, .iconst 0, 1), (38, .istore_n 3, 1), (39, .iload_n 3, 1), (40, .aload_n 1, 1), (41, .invokevirtual 150, 3), (44, .if_icmp .ge 38, 3), (47, .iload_n 2, 1), (48, .ifCond .eq 34, 3), (51, .aload_n 0, 1), (52, .getfield 20, 3), (55, .aload_n 0, 1), (56, .getfield 121, 3), (59, .iload_n 3, 1), (60, .iadd, 1), (61, .baload, 1), (62, .aload_n 1, 1), (63, .iload_n 3, 1), (64, .invokevirtual 155, 3), (67, .if_icmp .ne 7, 3), (70, .iconst 1, 1), (71, .goto 4, 3), (74, .iconst 0, 1), (75, .istore_n 2, 1), (76, .iinc 3 1, 3), (79, .goto (-40), 3), (82, .iload_n 2, 1), (83, .ireturn, 1)]
set_option maxRecDepth 1000000 in
theorem eX11_is : ∀ q ∈ kX11_is, decode cX11_is q.1 = .ok q.2 := by decide +kernel
def kX11_takes : Ci_t := [(0, .aload_n 0, 1), (1, .aload_n 1, 1), (2, .invokevirtual 159, 3), (5, .istore_n 2, 1), (6, .iload_n 2, 1), (7, .ifCond .eq 7, 3), (10, .aload_n 0, 1), (11, .invokevirtual 163, 3), (14, .iload_n 2, 1), (15, .ireturn, 1)]
set_option maxRecDepth 1000000 in
theorem eX11_takes : ∀ q ∈ kX11_takes, decode cX11_takes q.1 = .ok q.2 := by decide +kernel
def kX11_needs : Ci_t := [(0, .aload_n 0, 1), (1, .aload_n 1, 1), (2, .invokevirtual 166, 3), (5, .ifCond .ne 8, 3), (8, .aload_n 0, 1), (9, .iconst 1, 1), (10, .invokevirtual 169, 3), (13, .return_, 1)]
set_option maxRecDepth 1000000 in
theorem eX11_needs : ∀ q ∈ kX11_needs, decode cX11_needs q.1 = .ok q.2 := by decide +kernel
def kX11_number : Ci_t := [(0, .aload_n 0, 1), (1, .invokevirtual 147, 3), (4, .ifCond .eq 16, 3), (7, .aload_n 0, 1), (8, .getfield 124, 3), (11, .iconst 2, 1), (12, .if_icmp .eq 8, 3), (15, .aload_n 0, 1), (16, .iconst 1, 1), (17, .invokevirtual 169, 3), (20, .aload_n 0, 1), (21, .invokevirtual 147, 3), (24, .ifCond .eq 23, 3), (27, .aload_n 0, 1), (28, .getfield 135, 3), (31, .i2l, 1), (32, .iload_n 1, 1), (33, .i2l, 1), (34, .iload_n 2, 1), (35, .i2l, 1), (36, .invokestatic 79, 3), (39, .ifCond .ne 8, 3), (42, .aload_n 0, 1), (43, .iconst 2, 1), (44, .invokevirtual 169, 3), (47, .aload_n 0, 1), (48, .invokevirtual 147, 3), (51, .ifCond .ne 5, 3), (54, .iconst 0, 1), (55, .ireturn, 1), (56, .aload_n 0, 1), (57, .getfield 135, 3), (60, .istore_n 3, 1), (61, .aload_n 0, 1), (62, .invokevirtual 163, 3), (65, .iload_n 3, 1), (66, .ireturn, 1)]
set_option maxRecDepth 1000000 in
theorem eX11_number : ∀ q ∈ kX11_number, decode cX11_number q.1 = .ok q.2 := by decide +kernel
def kX11_told : Ci_t := [(0, .aload_n 0, 1), (1, .aload_n 1, 1), (2, .invokevirtual 173, 3), (5, .aload_n 0, 1), (6, .iload_n 2, 1), (7, .iload_n 3, 1), (8, .invokevirtual 177, 3), (11, .ireturn, 1)]
set_option maxRecDepth 1000000 in
theorem eX11_told : ∀ q ∈ kX11_told, decode cX11_told q.1 = .ok q.2 := by decide +kernel
def kX11_fault : Ci_t := [(0, .iload_n 1, 1), (1, .ifCond .ne 10, 3), (4, .aload_n 0, 1), (5, .getfield 144, 3), (8, .goto 16, 3), (11, .iload_n 1, 1), (12, .iconst 1, 1), (13, .if_icmp .ne 10, 3), (16, .aload_n 0, 1), (17, .getfield 27, 3), (20, .goto 4, 3), (23, .iconst (-1), 1), (24, .ireturn, 1)]
set_option maxRecDepth 1000000 in
theorem eX11_fault : ∀ q ∈ kX11_fault, decode cX11_fault q.1 = .ok q.2 := by decide +kernel
def kX11_readMonths : Ci_t := [(0, .iconst 0, 1), (1, .istore_n 2, 1), (2, .iload_n 2, 1), (3, .bipush 8, 2), (5, .if_icmp .ne 38, 3), (8, .aload_n 0, 1), (9, .invokevirtual 147, 3), (12, .ifCond .eq 31, 3), (15, .aload_n 0, 1), (16, .getfield 124, 3), (19, .iconst 2, 1), (20, .if_icmp .ne 23, 3), (23, .aload_n 0, 1), (24, .getfield 135, 3), (27, .i2l, 1), (28, .lconst 1, 1), (29, .ldc2_w 180, 3), (32, .invokestatic 79, 3), (35, .ifCond .eq 8, 3), (38, .aload_n 0, 1), (39, .iconst 3, 1), (40, .invokevirtual 169, 3), (43, .aload_n 0, 1), (44, .iconst 1, 1), (45, .bipush 60, 2), (47, .invokevirtual 177, 3), (50, .istore_n 3, 1), (51, .aload_n 0, 1), (52, .invokevirtual 147, 3), (55, .ifCond .ne 4, 3), (58, .return_, 1), (59, .aload_n 0, 1), (60, .getfield 31, 3), (63, .iload_n 1, 1), (64, .bipush 7, 2), (66, .iadd, 1), (67, .iload_n 2, 1), (68, .iadd, 1), (69, .iload_n 3, 1), (70, .iastore, 1), (71, .iinc 2 1, 3), (74, .aload_n 0, 1), (75, .getfield 124, 3), (78, .iconst 3, 1), (79, .if_icmp .eq 12, 3), (82, .aload_n 0, 1), (83, .ldc 182, 2), (85, .invokevirtual 159, 3), (88, .ifCond .eq (-86), 3), (91, .aload_n 0, 1), (92, .getfield 31, 3), (95, .iload_n 1, 1), (96, .iconst 3, 1), (97, .iadd, 1), (98, .iload_n 2, 1), (99, .iastore, 1), (100, .return_, 1)]
set_option maxRecDepth 1000000 in
theorem eX11_readMonths : ∀ q ∈ kX11_readMonths, decode cX11_readMonths q.1 = .ok q.2 := by decide +kernel
def kX11_readLand : Ci_t := [(0, .bipush 6, 2), (2, .bipush 15, 2), (4, .aload_n 0, 1), (5, .getfield 31, 3), (8, .iconst 1, 1), (9, .iaload, 1), (10, .imul, 1), (11, .iadd, 1), (12, .istore_n 1, 1), (13, .aload_n 0, 1), (14, .getfield 31, 3), (17, .iload_n 1, 1), (18, .iconst 0, 1), (19, .iadd, 1), (20, .aload_n 0, 1), (21, .ldc 184, 2), (23, .iconst 0, 1), (24, .sipush 999, 3), (27, .invokevirtual 185, 3), (30, .iastore, 1), (31, .aload_n 0, 1), (32, .getfield 31, 3), (35, .iload_n 1, 1), (36, .iconst 1, 1), (37, .iadd, 1), (38, .aload_n 0, 1), (39, .ldc 189, 2), (41, .iconst 2, 1), (42, .bipush 10, 2), (44, .invokevirtual 185, 3), (47, .iastore, 1), (48, .aload_n 0, 1), (49, .getfield 31, 3), (52, .iload_n 1, 1), (53, .iconst 2, 1), (54, .iadd, 1), (55, .aload_n 0, 1), (56, .ldc 191, 2), (58, .iconst 0, 1), (59, .iconst 1, 1), (60, .aload_n 0, 1), (61, .getfield 31, 3), (64, .iload_n 1, 1), (65, .iconst 1, 1), (66, .iadd, 1), (67, .iaload, 1), (68, .ishl, 1), (69, .iconst 2, 1), (70, .isub, 1), (71, .invokevirtual 185, 3), (74, .iastore, 1), (75, .aload_n 0, 1), (76, .ldc 193, 2), (78, .invokevirtual 173, 3), (81, .aload_n 0, 1), (82, .iload_n 1, 1), (83, .invokevirtual 195, 3), (86, .aload_n 0, 1), (87, .getfield 31, 3), (90, .iload_n 1, 1), (91, .iconst 4, 1), (92, .iadd, 1), (93, .iconst 0, 1), (94, .iastore, 1), (95, .aload_n 0, 1), (96, .getfield 31, 3), (99, .iload_n 1, 1), (100, .iconst 5, 1), (101, .iadd, 1), (102, .iconst (-1), 1), (103, .iastore, 1), (104, .aload_n 0, 1), (105, .getfield 31, 3), (108, .iload_n 1, 1), (109, .bipush 6, 2), (111, .iadd, 1), (112, .iconst 0, 1), (113, .iastore, 1), (114, .aload_n 0, 1), (115, .ldc 182, 2), (117, .invokevirtual 166, 3), (120, .ifCond .eq 61, 3), (123, .aload_n 0, 1), (124, .getfield 31, 3), (127, .iload_n 1, 1), (128, .iconst 4, 1), (129, .iadd, 1), (130, .aload_n 0, 1), (131, .iconst 2, 1), (132, .bipush 9, 2), (134, .invokevirtual 177, 3), (137, .iastore, 1), (138, .aload_n 0, 1), (139, .getfield 31, 3), (142, .iload_n 1, 1), (143, .iconst 5, 1), (144, .iadd, 1), (145, .aload_n 0, 1), (146, .ldc 198, 2), (148, .iconst 0, 1), (149, .aload_n 0, 1), (150, .getfield 31, 3), (153, .iload_n 1, 1), (154, .iconst 3, 1), (155, .iadd, 1), (156, .iaload, 1), (157, .iconst 1, 1), (158, .isub, 1), (159, .invokevirtual 185, 3), (162, .iastore, 1), (163, .aload_n 0, 1), (164, .getfield 31, 3), (167, .iload_n 1, 1), (168, .bipush 6, 2), (170, .iadd, 1), (171, .aload_n 0, 1), (172, .ldc 199, 2), (174, .iconst 1, 1), (175, .bipush 9, 2), (177, .invokevirtual 185, 3), (180, .iastore, 1), (181, .aload_n 0, 1), (182, .getfield 31, 3), (185, .iconst 1, 1), (186, .dup2, 1), (187, .iaload, 1), (188, .iconst 1, 1), (189, .iadd, 1), (190, .iastore, 1), (191, .return_, 1)]
set_option maxRecDepth 1000000 in
theorem eX11_readLand : ∀ q ∈ kX11_readLand, decode cX11_readLand q.1 = .ok q.2 := by decide +kernel
def kX11_freshLand : Ci_t := [(0, .aload_n 0, 1), (1, .iconst 0, 1), (2, .aload_n 0, 1), (3, .getfield 31, 3), (6, .iconst 1, 1), (7, .iaload, 1), (8, .iconst 1, 1), (9, .isub, 1), (10, .invokevirtual 177, 3), (13, .ireturn, 1)]
set_option maxRecDepth 1000000 in
theorem eX11_freshLand : ∀ q ∈ kX11_freshLand, decode cX11_freshLand q.1 = .ok q.2 := by decide +kernel
def kX11_readFeast : Ci_t := [(0, .bipush 51, 2), (2, .iconst 4, 1), (3, .aload_n 0, 1), (4, .getfield 31, 3), (7, .iconst 2, 1), (8, .iaload, 1), (9, .imul, 1), (10, .iadd, 1), (11, .istore_n 1, 1), (12, .aload_n 0, 1), (13, .getfield 31, 3), (16, .iload_n 1, 1), (17, .aload_n 0, 1), (18, .invokevirtual 201, 3), (21, .iastore, 1), (22, .bipush 6, 2), (24, .bipush 15, 2), (26, .aload_n 0, 1), (27, .getfield 31, 3), (30, .iload_n 1, 1), (31, .iaload, 1), (32, .imul, 1), (33, .iadd, 1), (34, .istore_n 2, 1), (35, .aload_n 0, 1), (36, .getfield 31, 3), (39, .iload_n 1, 1), (40, .iconst 1, 1), (41, .iadd, 1), (42, .aload_n 0, 1), (43, .iconst 0, 1), (44, .aload_n 0, 1), (45, .getfield 31, 3), (48, .iload_n 2, 1), (49, .iconst 3, 1), (50, .iadd, 1), (51, .iaload, 1), (52, .iconst 1, 1), (53, .isub, 1), (54, .invokevirtual 177, 3), (57, .iastore, 1), (58, .aload_n 0, 1), (59, .getfield 31, 3), (62, .iload_n 1, 1), (63, .iconst 2, 1), (64, .iadd, 1), (65, .aload_n 0, 1), (66, .iconst 0, 1), (67, .aload_n 0, 1), (68, .getfield 31, 3), (71, .iload_n 2, 1), (72, .bipush 7, 2), (74, .iadd, 1), (75, .aload_n 0, 1), (76, .getfield 31, 3), (79, .iload_n 1, 1), (80, .iconst 1, 1), (81, .iadd, 1), (82, .iaload, 1), (83, .iadd, 1), (84, .iaload, 1), (85, .iconst 1, 1), (86, .isub, 1), (87, .invokevirtual 177, 3), (90, .iastore, 1), (91, .aload_n 0, 1), (92, .getfield 31, 3), (95, .iload_n 1, 1), (96, .iconst 3, 1), (97, .iadd, 1), (98, .aload_n 0, 1), (99, .ldc 204, 2), (101, .iconst 1, 1), (102, .bipush 9, 2), (104, .invokevirtual 185, 3), (107, .iastore, 1), (108, .aload_n 0, 1), (109, .getfield 31, 3), (112, .iconst 2, 1), (113, .dup2, 1), (114, .iaload, 1), (115, .iconst 1, 1), (116, .iadd, 1), (117, .iastore, 1), (118, .return_, 1)]
set_option maxRecDepth 1000000 in
theorem eX11_readFeast : ∀ q ∈ kX11_readFeast, decode cX11_readFeast q.1 = .ok q.2 := by decide +kernel
def kX11_readTruce : Ci_t := [(0, .bipush 99, 2), (2, .iconst 3, 1), (3, .aload_n 0, 1), (4, .getfield 31, 3), (7, .iconst 3, 1), (8, .iaload, 1), (9, .imul, 1), (10, .iadd, 1), (11, .istore_n 1, 1), (12, .aload_n 0, 1), (13, .getfield 31, 3), (16, .iload_n 1, 1), (17, .aload_n 0, 1), (18, .invokevirtual 201, 3), (21, .iastore, 1), (22, .aload_n 0, 1), (23, .getfield 31, 3), (26, .iload_n 1, 1), (27, .iconst 1, 1), (28, .iadd, 1), (29, .aload_n 0, 1), (30, .ldc 184, 2), (32, .iconst 0, 1), (33, .sipush 1999, 3), (36, .invokevirtual 185, 3), (39, .iastore, 1), (40, .aload_n 0, 1), (41, .getfield 31, 3), (44, .iload_n 1, 1), (45, .iconst 2, 1), (46, .iadd, 1), (47, .aload_n 0, 1), (48, .ldc 206, 2), (50, .aload_n 0, 1), (51, .getfield 31, 3), (54, .iload_n 1, 1), (55, .iconst 1, 1), (56, .iadd, 1), (57, .iaload, 1), (58, .sipush 1999, 3), (61, .invokevirtual 185, 3), (64, .iastore, 1), (65, .aload_n 0, 1), (66, .getfield 31, 3), (69, .iconst 3, 1), (70, .dup2, 1), (71, .iaload, 1), (72, .iconst 1, 1), (73, .iadd, 1), (74, .iastore, 1), (75, .return_, 1)]
set_option maxRecDepth 1000000 in
theorem eX11_readTruce : ∀ q ∈ kX11_readTruce, decode cX11_readTruce q.1 = .ok q.2 := by decide +kernel
def kX11_readNext : Ci_t := [(0, .aload_n 0, 1), (1, .ldc 208, 2), (3, .invokevirtual 159, 3), (6, .ifCond .ne 21, 3), (9, .aload_n 0, 1), (10, .ldc 210, 2), (12, .invokevirtual 159, 3), (15, .ifCond .ne 12, 3), (18, .aload_n 0, 1), (19, .ldc 212, 2), (21, .invokevirtual 159, 3), (24, .ifCond .eq 7, 3), (27, .iconst 1, 1), (28, .goto 4, 3), (31, .iconst 0, 1), (32, .istore_n 1, 1), (33, .iload_n 1, 1), (34, .ifCond .ne 8, 3), (37, .aload_n 0, 1), (38, .iconst 1, 1), (39, .invokevirtual 169, 3), (42, .aload_n 0, 1), (43, .ldc 208, 2), (45, .invokevirtual 159, 3), (48, .ifCond .eq 13, 3), (51, .aload_n 0, 1), (52, .getfield 31, 3), (55, .iconst 1, 1), (56, .iaload, 1), (57, .iconst 3, 1), (58, .if_icmp .eq 43, 3), (61, .aload_n 0, 1), (62, .ldc 210, 2), (64, .invokevirtual 159, 3), (67, .ifCond .eq 14, 3), (70, .aload_n 0, 1), (71, .getfield 31, 3), (74, .iconst 2, 1), (75, .iaload, 1), (76, .bipush 12, 2), (78, .if_icmp .eq 23, 3), (81, .aload_n 0, 1), (82, .ldc 212, 2), (84, .invokevirtual 159, 3), (87, .ifCond .eq 19, 3), (90, .aload_n 0, 1), (91, .getfield 31, 3), (94, .iconst 3, 1), (95, .iaload, 1), (96, .bipush 12, 2), (98, .if_icmp .ne 8, 3), (101, .aload_n 0, 1), (102, .iconst 3, 1), (103, .invokevirtual 169, 3), (106, .aload_n 0, 1), (107, .invokevirtual 147, 3), (110, .ifCond .ne 4, 3), (113, .return_, 1), (114, .aload_n 0, 1), (115, .ldc 208, 2), (117, .invokevirtual 166, 3), (120, .ifCond .eq 10, 3), (123, .aload_n 0, 1), (124, .invokevirtual 214, 3), (127, .goto 27, 3), (130, .aload_n 0, 1), (131, .ldc 210, 2), (133, .invokevirtual 166, 3), (136, .ifCond .eq 10, 3), (139, .aload_n 0, 1), (140, .invokevirtual 217, 3), (143, .goto 11, 3), (146, .aload_n 0, 1), (147, .invokevirtual 163, 3), (150, .aload_n 0, 1), (151, .invokevirtual 220, 3), (154, .return_, 1)]
set_option maxRecDepth 1000000 in
theorem eX11_readNext : ∀ q ∈ kX11_readNext, decode cX11_readNext q.1 = .ok q.2 := by decide +kernel
def kX11_readLine : Ci_t := [(0, .aload_n 0, 1), (1, .getfield 31, 3), (4, .iconst 4, 1), (5, .iaload, 1), (6, .ifCond .ne 27, 3), (9, .aload_n 0, 1), (10, .ldc 223, 2), (12, .invokevirtual 173, 3), (15, .aload_n 0, 1), (16, .getfield 31, 3), (19, .iconst 0, 1), (20, .aload_n 0, 1), (21, .ldc 225, 2), (23, .iconst 0, 1), (24, .bipush 100, 2), (26, .invokevirtual 185, 3), (29, .iastore, 1), (30, .goto 7, 3), (33, .aload_n 0, 1), (34, .invokevirtual 227, 3), (37, .aload_n 0, 1), (38, .invokevirtual 147, 3), (41, .ifCond .eq 16, 3), (44, .aload_n 0, 1), (45, .getfield 124, 3), (48, .iconst 3, 1), (49, .if_icmp .eq 8, 3), (52, .aload_n 0, 1), (53, .iconst 1, 1), (54, .invokevirtual 169, 3), (57, .aload_n 0, 1), (58, .invokevirtual 147, 3), (61, .ifCond .eq 7, 3), (64, .aload_n 0, 1), (65, .invokevirtual 163, 3), (68, .aload_n 0, 1), (69, .getfield 31, 3), (72, .iconst 4, 1), (73, .dup2, 1), (74, .iaload, 1), (75, .iconst 1, 1), (76, .iadd, 1), (77, .iastore, 1), (78, .return_, 1)]
set_option maxRecDepth 1000000 in
theorem eX11_readLine : ∀ q ∈ kX11_readLine, decode cX11_readLine q.1 = .ok q.2 := by decide +kernel
def kX11_war : Ci_t := [(0, .aload_n 0, 1), (1, .aload_n 0, 1), (2, .getfield 108, 3), (5, .putfield 111, 3), (8, .aload_n 0, 1), (9, .iconst 0, 1), (10, .putfield 108, 3), (13, .aload_n 0, 1), (14, .iconst 0, 1), (15, .putfield 114, 3), (18, .aload_n 0, 1), (19, .iconst 0, 1), (20, .putfield 144, 3), (23, .aload_n 0, 1), (24, .iconst (-1), 1), (25, .putfield 27, 3), (28, .iconst 0, 1), (29, .istore_n 1, 1), (30, .iload_n 1, 1), (31, .sipush 495, 3), (34, .if_icmp .ge 16, 3), (37, .aload_n 0, 1), (38, .getfield 31, 3), (41, .iload_n 1, 1), (42, .iconst 0, 1), (43, .iastore, 1), (44, .iinc 1 1, 3), (47, .goto (-17), 3), (50, .aload_n 0, 1), (51, .invokevirtual 163, 3), (54, .aload_n 0, 1), (55, .invokevirtual 147, 3), (58, .ifCond .eq 17, 3), (61, .aload_n 0, 1), (62, .getfield 124, 3), (65, .ifCond .eq 10, 3), (68, .aload_n 0, 1), (69, .invokevirtual 230, 3), (72, .goto (-18), 3), (75, .aload_n 0, 1), (76, .invokevirtual 147, 3), (79, .ifCond .ne 6, 3), (82, .bipush (-4), 2), (84, .ireturn, 1), (85, .iconst 0, 1), (86, .istore_n 1, 1), (87, .iload_n 1, 1), (88, .sipush 495, 3), (91, .if_icmp .ge 21, 3), (94, .aload_n 0, 1), (95, .getfield 9, 3), (98, .iload_n 1, 1), (99, .aload_n 0, 1), (100, .getfield 31, 3), (103, .iload_n 1, 1), (104, .iaload, 1), (105, .iastore, 1), (106, .iinc 1 1, 3), (109, .goto (-22), 3), (112, .aload_n 0, 1), (113, .getfield 9, 3), (116, .iconst 4, 1), (117, .iaload, 1), (118, .ireturn, 1)]
set_option maxRecDepth 1000000 in
theorem eX11_war : ∀ q ∈ kX11_war, decode cX11_war q.1 = .ok q.2 := by decide +kernel
def kX11_spot : Ci_t := [(0, .sipush 2000, 3), (3, .iload_n 0, 1), (4, .imul, 1), (5, .iload_n 1, 1), (6, .iadd, 1), (7, .ireturn, 1)]
set_option maxRecDepth 1000000 in
theorem eX11_spot : ∀ q ∈ kX11_spot, decode cX11_spot q.1 = .ok q.2 := by decide +kernel
def kX11_layDates : Ci_t := [(0, .iconst 0, 1), (1, .istore_n 2, 1), (2, .iconst 0, 1), (3, .istore_n 3, 1), (4, .iconst 0, 1), (5, .istore 4, 2), (7, .iconst 0, 1), (8, .istore 5, 2), (10, .iload 5, 2), (12, .sipush 2000, 3), (15, .if_icmp .ge 141, 3), (18, .iload 5, 2), (20, .aload_n 0, 1), (21, .iload_n 1, 1), (22, .iconst 0, 1), (23, .invokevirtual 100, 3), (26, .if_icmp .lt 7, 3), (29, .iconst 1, 1), (30, .goto 4, 3), (33, .iconst 0, 1), (34, .istore 6, 2), (36, .aload_n 0, 1), (37, .getfield 34, 3), (40, .iload_n 1, 1), (41, .iload 5, 2), (43, .invokestatic 233, 3), (46, .iload 6, 2), (48, .ifCond .eq 7, 3), (51, .iload_n 2, 1), (52, .goto 4, 3), (55, .iconst (-1), 1), (56, .iastore, 1), (57, .aload_n 0, 1), (58, .getfield 37, 3), (61, .iload_n 1, 1), (62, .iload 5, 2), (64, .invokestatic 233, 3), (67, .iload 6, 2), (69, .ifCond .eq 7, 3), (72, .iload_n 3, 1), (73, .goto 4, 3), (76, .iconst (-1), 1), (77, .iastore, 1), (78, .aload_n 0, 1), (79, .getfield 40, 3), (82, .iload_n 1, 1), (83, .iload 5, 2), (85, .invokestatic 233, 3), (88, .iload 6, 2), (90, .ifCond .eq 8, 3), (93, .iload 4, 2), (95, .goto 4, 3), (98, .iconst (-1), 1), (99, .iastore, 1), (100, .iload 6, 2), (102, .ifCond .ne 6, 3), (105, .goto 45, 3), (108, .iinc 4 1, 3), (111, .iload 4, 2), (113, .aload_n 0, 1), (114, .iload_n 1, 1), (115, .iload_n 3, 1), (116, .iload_n 2, 1), (117, .invokevirtual 104, 3), (120, .if_icmp .ge 6, 3), (123, .goto 27, 3), (126, .iconst 0, 1), (127, .istore 4, 2), (129, .iinc 3 1, 3), (132, .iload_n 3, 1), (133, .aload_n 0, 1), (134, .iload_n 1, 1), (135, .iconst 3, 1), (136, .invokevirtual 100, 3), (139, .if_icmp .ge 6, 3), (142, .goto 8, 3), (145, .iconst 0, 1), (146, .istore_n 3, 1), (147, .iinc 2 1, 3), (150, .iinc 5 1, 3), (153, .goto (-143), 3), (156, .return_, 1)]
set_option maxRecDepth 1000000 in
theorem eX11_layDates : ∀ q ∈ kX11_layDates, decode cX11_layDates q.1 = .ok q.2 := by decide +kernel
def kX11_weekday : Ci_t := [(0, .iload_n 2, 1), (1, .aload_n 0, 1), (2, .iload_n 1, 1), (3, .iconst 0, 1), (4, .invokevirtual 100, 3), (7, .if_icmp .ge 7, 3), (10, .iconst (-1), 1), (11, .goto 18, 3), (14, .iload_n 2, 1), (15, .aload_n 0, 1), (16, .iload_n 1, 1), (17, .iconst 0, 1), (18, .invokevirtual 100, 3), (21, .isub, 1), (22, .aload_n 0, 1), (23, .iload_n 1, 1), (24, .iconst 1, 1), (25, .invokevirtual 100, 3), (28, .irem, 1), (29, .ireturn, 1)]
set_option maxRecDepth 1000000 in
theorem eX11_weekday : ∀ q ∈ kX11_weekday, decode cX11_weekday q.1 = .ok q.2 := by decide +kernel
def kX11_layWhy : Ci_t := [(0, .iconst 0, 1), (1, .istore_n 2, 1), (2, .iload_n 2, 1), (3, .sipush 2000, 3), (6, .if_icmp .ge 57, 3), (9, .aload_n 0, 1), (10, .getfield 43, 3), (13, .iload_n 1, 1), (14, .iload_n 2, 1), (15, .invokestatic 233, 3), (18, .iload_n 2, 1), (19, .aload_n 0, 1), (20, .iload_n 1, 1), (21, .iconst 0, 1), (22, .invokevirtual 100, 3), (25, .if_icmp .ge 7, 3), (28, .iconst 1, 1), (29, .goto 27, 3), (32, .aload_n 0, 1), (33, .iload_n 1, 1), (34, .iconst 2, 1), (35, .invokevirtual 100, 3), (38, .aload_n 0, 1), (39, .iload_n 1, 1), (40, .iload_n 2, 1), (41, .invokevirtual 236, 3), (44, .invokestatic 239, 3), (47, .iconst 1, 1), (48, .if_icmp .ne 7, 3), (51, .iconst 2, 1), (52, .goto 4, 3), (55, .iconst 0, 1), (56, .iastore, 1), (57, .iinc 2 1, 3), (60, .goto (-58), 3), (63, .iconst 0, 1), (64, .istore_n 2, 1), (65, .iload_n 2, 1), (66, .aload_n 0, 1), (67, .getfield 9, 3), (70, .iconst 2, 1), (71, .iaload, 1), (72, .if_icmp .ge 153, 3), (75, .aload_n 0, 1), (76, .iload_n 2, 1), (77, .iconst 0, 1), (78, .invokevirtual 242, 3), (81, .iload_n 1, 1), (82, .if_icmp .eq 6, 3), (85, .goto 134, 3), (88, .aload_n 0, 1), (89, .iload_n 1, 1), (90, .iconst 0, 1), (91, .invokevirtual 100, 3), (94, .istore_n 3, 1), (95, .iload_n 3, 1), (96, .sipush 2000, 3), (99, .if_icmp .ge 120, 3), (102, .aload_n 0, 1), (103, .getfield 37, 3), (106, .iload_n 1, 1), (107, .iload_n 3, 1), (108, .invokestatic 233, 3), (111, .iaload, 1), (112, .aload_n 0, 1), (113, .iload_n 2, 1), (114, .iconst 1, 1), (115, .invokevirtual 242, 3), (118, .if_icmp .ne 95, 3), (121, .aload_n 0, 1), (122, .getfield 40, 3), (125, .iload_n 1, 1), (126, .iload_n 3, 1), (127, .invokestatic 233, 3), (130, .iaload, 1), (131, .aload_n 0, 1), (132, .iload_n 2, 1), (133, .iconst 2, 1), (134, .invokevirtual 242, 3), (137, .if_icmp .eq 6, 3), (140, .goto 73, 3), (143, .iload_n 3, 1), (144, .istore 4, 2), (146, .iload 4, 2), (148, .iload_n 3, 1), (149, .aload_n 0, 1), (150, .iload_n 2, 1), (151, .iconst 3, 1), (152, .invokevirtual 242, 3), (155, .iadd, 1), (156, .if_icmp .ge 57, 3), (159, .iload 4, 2), (161, .sipush 2000, 3), (164, .if_icmp .ge 49, 3), (167, .aload_n 0, 1), (168, .getfield 43, 3), (171, .iload_n 1, 1), (172, .iload 4, 2), (174, .invokestatic 233, 3), (177, .aload_n 0, 1), (178, .getfield 43, 3), (181, .iload_n 1, 1), (182, .iload 4, 2), (184, .invokestatic 233, 3), (187, .iaload, 1), (188, .ifCond .ne 7, 3), (191, .iconst 3, 1), (192, .goto 14, 3), (195, .aload_n 0, 1), (196, .getfield 43, 3), (199, .iload_n 1, 1), (200, .iload 4, 2), (202, .invokestatic 233, 3), (205, .iaload, 1), (206, .iastore, 1), (207, .iinc 4 1, 3), (210, .goto (-64), 3), (213, .iinc 3 1, 3), (216, .goto (-121), 3), (219, .iinc 2 1, 3), (222, .goto (-157), 3), (225, .iconst 0, 1), (226, .istore_n 2, 1), (227, .iload_n 2, 1), (228, .aload_n 0, 1), (229, .getfield 9, 3), (232, .iconst 3, 1), (233, .iaload, 1), (234, .if_icmp .ge 82, 3), (237, .aload_n 0, 1), (238, .iload_n 2, 1), (239, .iconst 0, 1), (240, .invokevirtual 245, 3), (243, .iload_n 1, 1), (244, .if_icmp .eq 6, 3), (247, .goto 63, 3), (250, .aload_n 0, 1), (251, .iload_n 2, 1), (252, .iconst 1, 1), (253, .invokevirtual 245, 3), (256, .istore_n 3, 1), (257, .iload_n 3, 1), (258, .aload_n 0, 1), (259, .iload_n 2, 1), (260, .iconst 2, 1), (261, .invokevirtual 245, 3), (264, .if_icmp .gt 46, 3), (267, .aload_n 0, 1), (268, .getfield 43, 3), (271, .iload_n 1, 1), (272, .iload_n 3, 1), (273, .invokestatic 233, 3), (276, .aload_n 0, 1), (277, .getfield 43, 3), (280, .iload_n 1, 1), (281, .iload_n 3, 1), (282, .invokestatic 233, 3), (285, .iaload, 1), (286, .ifCond .ne 7, 3), (289, .iconst 4, 1), (290, .goto 13, 3), (293, .aload_n 0, 1), (294, .getfield 43, 3), (297, .iload_n 1, 1), (298, .iload_n 3, 1), (299, .invokestatic 233, 3), (302, .iaload, 1), (303, .iastore, 1), (304, .iinc 3 1, 3), (307, .goto (-50), 3), (310, .iinc 2 1, 3), (313, .goto (-86), 3), (316, .return_, 1)]
set_option maxRecDepth 1000000 in
theorem eX11_layWhy : ∀ q ∈ kX11_layWhy, decode cX11_layWhy q.1 = .ok q.2 := by decide +kernel
def kX11_lay : Ci_t := [(0, .iconst 0, 1), (1, .istore_n 1, 1), (2, .iload_n 1, 1), (3, .aload_n 0, 1), (4, .getfield 9, 3), (7, .iconst 1, 1), (8, .iaload, 1), (9, .if_icmp .ge 19, 3), (12, .aload_n 0, 1), (13, .iload_n 1, 1), (14, .invokevirtual 248, 3), (17, .aload_n 0, 1), (18, .iload_n 1, 1), (19, .invokevirtual 251, 3), (22, .iinc 1 1, 3), (25, .goto (-23), 3), (28, .return_, 1)]
set_option maxRecDepth 1000000 in
theorem eX11_lay : ∀ q ∈ kX11_lay, decode cX11_lay q.1 = .ok q.2 := by decide +kernel
def kX11_mayOn : Ci_t := [(0, .aload_n 0, 1), (1, .getfield 43, 3), (4, .iload_n 1, 1), (5, .iload_n 2, 1), (6, .invokestatic 233, 3), (9, .iaload, 1), (10, .ifCond .ne 7, 3), (13, .iconst 1, 1), (14, .goto 4, 3), (17, .iconst 0, 1), (18, .ireturn, 1)]
set_option maxRecDepth 1000000 in
theorem eX11_mayOn : ∀ q ∈ kX11_mayOn, decode cX11_mayOn q.1 = .ok q.2 := by decide +kernel
def kX11_whoOn : Ci_t := [(0, .iconst 0, 1), (1, .istore_n 2, 1), (2, .iconst 0, 1), (3, .istore_n 3, 1), (4, .iload_n 3, 1), (5, .aload_n 0, 1), (6, .getfield 9, 3), (9, .iconst 1, 1), (10, .iaload, 1), (11, .if_icmp .ge 28, 3), (14, .iload_n 2, 1), (15, .aload_n 0, 1), (16, .iload_n 3, 1), (17, .iload_n 1, 1), (18, .invokevirtual 254, 3), (21, .ifCond .eq 9, 3), (24, .iconst 1, 1), (25, .iload_n 3, 1), (26, .ishl, 1), (27, .goto 4, 3), (30, .iconst 0, 1), (31, .ior, 1), (32, .istore_n 2, 1), (33, .iinc 3 1, 3), (36, .goto (-32), 3), (39, .iload_n 2, 1), (40, .ireturn, 1)]
set_option maxRecDepth 1000000 in
theorem eX11_whoOn : ∀ q ∈ kX11_whoOn, decode cX11_whoOn q.1 = .ok q.2 := by decide +kernel
def kX11_land : Ci_t := [(0, .aload_n 0, 1), (1, .iload_n 1, 1), (2, .i2l, 1), (3, .invokevirtual 83, 3), (6, .ifCond .eq 24, 3), (9, .iload_n 2, 1), (10, .i2l, 1), (11, .lconst 0, 1), (12, .ldc2_w 258, 3), (15, .invokestatic 79, 3), (18, .ifCond .eq 12, 3), (21, .aload_n 0, 1), (22, .iload_n 1, 1), (23, .iload_n 2, 1), (24, .invokevirtual 100, 3), (27, .goto 5, 3), (30, .bipush (-2), 2), (32, .ireturn, 1)]
set_option maxRecDepth 1000000 in
theorem eX11_land : ∀ q ∈ kX11_land, decode cX11_land q.1 = .ok q.2 := by decide +kernel
def kX11_month : Ci_t := [(0, .aload_n 0, 1), (1, .iload_n 1, 1), (2, .i2l, 1), (3, .invokevirtual 83, 3), (6, .ifCond .eq 31, 3), (9, .aload_n 0, 1), (10, .iload_n 1, 1), (11, .iload_n 2, 1), (12, .i2l, 1), (13, .invokevirtual 260, 3), (16, .ifCond .eq 21, 3), (19, .iload_n 3, 1), (20, .i2l, 1), (21, .invokestatic 264, 3), (24, .ifCond .eq 13, 3), (27, .aload_n 0, 1), (28, .iload_n 1, 1), (29, .iload_n 2, 1), (30, .iload_n 3, 1), (31, .invokevirtual 104, 3), (34, .goto 5, 3), (37, .bipush (-2), 2), (39, .ireturn, 1)]
set_option maxRecDepth 1000000 in
theorem eX11_month : ∀ q ∈ kX11_month, decode cX11_month q.1 = .ok q.2 := by decide +kernel
def kX11_feast : Ci_t := [(0, .iload_n 1, 1), (1, .i2l, 1), (2, .lconst 0, 1), (3, .aload_n 0, 1), (4, .getfield 9, 3), (7, .iconst 2, 1), (8, .iaload, 1), (9, .iconst 1, 1), (10, .isub, 1), (11, .i2l, 1), (12, .invokestatic 79, 3), (15, .ifCond .eq 24, 3), (18, .iload_n 2, 1), (19, .i2l, 1), (20, .lconst 0, 1), (21, .ldc2_w 267, 3), (24, .invokestatic 79, 3), (27, .ifCond .eq 12, 3), (30, .aload_n 0, 1), (31, .iload_n 1, 1), (32, .iload_n 2, 1), (33, .invokevirtual 242, 3), (36, .goto 5, 3), (39, .bipush (-2), 2), (41, .ireturn, 1)]
set_option maxRecDepth 1000000 in
theorem eX11_feast : ∀ q ∈ kX11_feast, decode cX11_feast q.1 = .ok q.2 := by decide +kernel
def kX11_truce : Ci_t := [(0, .iload_n 1, 1), (1, .i2l, 1), (2, .lconst 0, 1), (3, .aload_n 0, 1), (4, .getfield 9, 3), (7, .iconst 3, 1), (8, .iaload, 1), (9, .iconst 1, 1), (10, .isub, 1), (11, .i2l, 1), (12, .invokestatic 79, 3), (15, .ifCond .eq 24, 3), (18, .iload_n 2, 1), (19, .i2l, 1), (20, .lconst 0, 1), (21, .ldc2_w 77, 3), (24, .invokestatic 79, 3), (27, .ifCond .eq 12, 3), (30, .aload_n 0, 1), (31, .iload_n 1, 1), (32, .iload_n 2, 1), (33, .invokevirtual 245, 3), (36, .goto 5, 3), (39, .bipush (-2), 2), (41, .ireturn, 1)]
set_option maxRecDepth 1000000 in
theorem eX11_truce : ∀ q ∈ kX11_truce, decode cX11_truce q.1 = .ok q.2 := by decide +kernel
def kX11_dateOf : Ci_t := [(0, .iload_n 3, 1), (1, .ifCond .ne 16, 3), (4, .aload_n 0, 1), (5, .getfield 34, 3), (8, .iload_n 1, 1), (9, .iload_n 2, 1), (10, .invokestatic 233, 3), (13, .iaload, 1), (14, .goto 45, 3), (17, .iload_n 3, 1), (18, .iconst 1, 1), (19, .if_icmp .ne 16, 3), (22, .aload_n 0, 1), (23, .getfield 37, 3), (26, .iload_n 1, 1), (27, .iload_n 2, 1), (28, .invokestatic 233, 3), (31, .iaload, 1), (32, .goto 27, 3), (35, .iload_n 3, 1), (36, .iconst 2, 1), (37, .if_icmp .ne 16, 3), (40, .aload_n 0, 1), (41, .getfield 40, 3), (44, .iload_n 1, 1), (45, .iload_n 2, 1), (46, .invokestatic 233, 3), (49, .iaload, 1), (50, .goto 9, 3), (53, .aload_n 0, 1), (54, .iload_n 1, 1), (55, .iload_n 2, 1), (56, .invokevirtual 236, 3), (59, .ireturn, 1)]
set_option maxRecDepth 1000000 in
theorem eX11_dateOf : ∀ q ∈ kX11_dateOf, decode cX11_dateOf q.1 = .ok q.2 := by decide +kernel
def kX11_date : Ci_t := [(0, .aload_n 0, 1), (1, .iload_n 1, 1), (2, .i2l, 1), (3, .invokevirtual 83, 3), (6, .ifCond .eq 23, 3), (9, .iload_n 2, 1), (10, .i2l, 1), (11, .invokestatic 89, 3), (14, .ifCond .eq 15, 3), (17, .iload_n 3, 1), (18, .i2l, 1), (19, .lconst 0, 1), (20, .ldc2_w 267, 3), (23, .invokestatic 79, 3), (26, .ifCond .ne 6, 3), (29, .bipush (-2), 2), (31, .ireturn, 1), (32, .aload_n 0, 1), (33, .invokevirtual 269, 3), (36, .aload_n 0, 1), (37, .iload_n 1, 1), (38, .iload_n 2, 1), (39, .iload_n 3, 1), (40, .invokevirtual 272, 3), (43, .ireturn, 1)]
set_option maxRecDepth 1000000 in
theorem eX11_date : ∀ q ∈ kX11_date, decode cX11_date q.1 = .ok q.2 := by decide +kernel
def kX11_isDate : Ci_t := [(0, .lload_n 2, 1), (1, .invokestatic 264, 3), (4, .ifCond .eq 39, 3), (7, .aload_n 0, 1), (8, .iload_n 1, 1), (9, .lload 4, 2), (11, .invokevirtual 260, 3), (14, .ifCond .eq 29, 3), (17, .lload 6, 2), (19, .lconst 0, 1), (20, .aload_n 0, 1), (21, .iload_n 1, 1), (22, .lload 4, 2), (24, .l2i, 1), (25, .lload_n 2, 1), (26, .l2i, 1), (27, .invokevirtual 104, 3), (30, .iconst 1, 1), (31, .isub, 1), (32, .i2l, 1), (33, .invokestatic 79, 3), (36, .ifCond .eq 7, 3), (39, .iconst 1, 1), (40, .goto 4, 3), (43, .iconst 0, 1), (44, .ireturn, 1)]
set_option maxRecDepth 1000000 in
theorem eX11_isDate : ∀ q ∈ kX11_isDate, decode cX11_isDate q.1 = .ok q.2 := by decide +kernel
def kX11_dayBy : Ci_t := [(0, .aload_n 0, 1), (1, .iload_n 1, 1), (2, .iconst 0, 1), (3, .invokevirtual 100, 3), (6, .iload 4, 2), (8, .iadd, 1), (9, .istore 5, 2), (11, .iconst 0, 1), (12, .istore 6, 2), (14, .iload 6, 2), (16, .iload_n 2, 1), (17, .if_icmp .ge 29, 3), (20, .iload 5, 2), (22, .sipush 2000, 3), (25, .if_icmp .ge 21, 3), (28, .iload 5, 2), (30, .aload_n 0, 1), (31, .iload_n 1, 1), (32, .iload 6, 2), (34, .invokevirtual 275, 3), (37, .iadd, 1), (38, .istore 5, 2), (40, .iinc 6 1, 3), (43, .goto (-29), 3), (46, .iconst 0, 1), (47, .istore 6, 2), (49, .iload 6, 2), (51, .iload_n 3, 1), (52, .if_icmp .ge 22, 3), (55, .iload 5, 2), (57, .aload_n 0, 1), (58, .iload_n 1, 1), (59, .iload 6, 2), (61, .iload_n 2, 1), (62, .invokevirtual 104, 3), (65, .iadd, 1), (66, .istore 5, 2), (68, .iinc 6 1, 3), (71, .goto (-22), 3), (74, .iload 5, 2), (76, .ireturn, 1)]
set_option maxRecDepth 1000000 in
theorem eX11_dayBy : ∀ q ∈ kX11_dayBy, decode cX11_dayBy q.1 = .ok q.2 := by decide +kernel
def kX11_day : Ci_t := [(0, .aload_n 0, 1), (1, .iload_n 1, 1), (2, .i2l, 1), (3, .invokevirtual 83, 3), (6, .ifCond .eq 18, 3), (9, .aload_n 0, 1), (10, .iload_n 1, 1), (11, .iload_n 2, 1), (12, .i2l, 1), (13, .iload_n 3, 1), (14, .i2l, 1), (15, .iload 4, 2), (17, .i2l, 1), (18, .invokevirtual 278, 3), (21, .ifCond .ne 6, 3), (24, .bipush (-2), 2), (26, .ireturn, 1), (27, .aload_n 0, 1), (28, .iload_n 1, 1), (29, .iload_n 2, 1), (30, .iload_n 3, 1), (31, .iload 4, 2), (33, .invokevirtual 282, 3), (36, .istore 5, 2), (38, .iload 5, 2), (40, .sipush 2000, 3), (43, .if_icmp .ge 8, 3), (46, .iload 5, 2), (48, .goto 4, 3), (51, .iconst (-1), 1), (52, .ireturn, 1)]
set_option maxRecDepth 1000000 in
theorem eX11_day : ∀ q ∈ kX11_day, decode cX11_day q.1 = .ok q.2 := by decide +kernel
def kX11_may : Ci_t := [(0, .aload_n 0, 1), (1, .iload_n 1, 1), (2, .i2l, 1), (3, .invokevirtual 83, 3), (6, .ifCond .eq 11, 3), (9, .iload_n 2, 1), (10, .i2l, 1), (11, .invokestatic 89, 3), (14, .ifCond .ne 6, 3), (17, .bipush (-2), 2), (19, .ireturn, 1), (20, .aload_n 0, 1), (21, .invokevirtual 269, 3), (24, .aload_n 0, 1), (25, .iload_n 1, 1), (26, .iload_n 2, 1), (27, .invokevirtual 254, 3), (30, .ifCond .eq 7, 3), (33, .iconst 1, 1), (34, .goto 4, 3), (37, .iconst 0, 1), (38, .ireturn, 1)]
set_option maxRecDepth 1000000 in
theorem eX11_may : ∀ q ∈ kX11_may, decode cX11_may q.1 = .ok q.2 := by decide +kernel
def kX11_why : Ci_t := [(0, .aload_n 0, 1), (1, .iload_n 1, 1), (2, .i2l, 1), (3, .invokevirtual 83, 3), (6, .ifCond .eq 11, 3), (9, .iload_n 2, 1), (10, .i2l, 1), (11, .invokestatic 89, 3), (14, .ifCond .ne 6, 3), (17, .bipush (-2), 2), (19, .ireturn, 1), (20, .aload_n 0, 1), (21, .invokevirtual 269, 3), (24, .aload_n 0, 1), (25, .getfield 43, 3), (28, .iload_n 1, 1), (29, .iload_n 2, 1), (30, .invokestatic 233, 3), (33, .iaload, 1), (34, .ireturn, 1)]
set_option maxRecDepth 1000000 in
theorem eX11_why : ∀ q ∈ kX11_why, decode cX11_why q.1 = .ok q.2 := by decide +kernel
def kX11_who : Ci_t := [(0, .aload_n 0, 1), (1, .invokevirtual 92, 3), (4, .ifCond .eq 11, 3), (7, .iload_n 1, 1), (8, .i2l, 1), (9, .invokestatic 89, 3), (12, .ifCond .ne 6, 3), (15, .bipush (-2), 2), (17, .ireturn, 1), (18, .aload_n 0, 1), (19, .invokevirtual 269, 3), (22, .aload_n 0, 1), (23, .iload_n 1, 1), (24, .invokevirtual 286, 3), (27, .ireturn, 1)]
set_option maxRecDepth 1000000 in
theorem eX11_who : ∀ q ∈ kX11_who, decode cX11_who q.1 = .ok q.2 := by decide +kernel
def kX11_mayAll : Ci_t := [(0, .iload_n 1, 1), (1, .aload_n 0, 1), (2, .iload_n 2, 1), (3, .invokevirtual 286, 3), (6, .iconst (-1), 1), (7, .ixor, 1), (8, .iand, 1), (9, .ifCond .ne 7, 3), (12, .iconst 1, 1), (13, .goto 4, 3), (16, .iconst 0, 1), (17, .ireturn, 1)]
set_option maxRecDepth 1000000 in
theorem eX11_mayAll : ∀ q ∈ kX11_mayAll, decode cX11_mayAll q.1 = .ok q.2 := by decide +kernel
def kX11_next : Ci_t := [(0, .aload_n 0, 1), (1, .iload_n 1, 1), (2, .invokevirtual 289, 3), (5, .ifCond .eq 11, 3), (8, .iload_n 2, 1), (9, .i2l, 1), (10, .invokestatic 89, 3), (13, .ifCond .ne 6, 3), (16, .bipush (-2), 2), (18, .ireturn, 1), (19, .aload_n 0, 1), (20, .invokevirtual 269, 3), (23, .iload_n 2, 1), (24, .istore_n 3, 1), (25, .iload_n 3, 1), (26, .sipush 2000, 3), (29, .if_icmp .ge 20, 3), (32, .aload_n 0, 1), (33, .iload_n 1, 1), (34, .iload_n 3, 1), (35, .invokevirtual 293, 3), (38, .ifCond .eq 5, 3), (41, .iload_n 3, 1), (42, .ireturn, 1), (43, .iinc 3 1, 3), (46, .goto (-21), 3), (49, .iconst (-1), 1), (50, .ireturn, 1)]
set_option maxRecDepth 1000000 in
theorem eX11_next : ∀ q ∈ kX11_next, decode cX11_next q.1 = .ok q.2 := by decide +kernel
def kX11_manyOf : Ci_t := [(0, .iconst 0, 1), (1, .istore 4, 2), (3, .iload_n 2, 1), (4, .istore 5, 2), (6, .iload 5, 2), (8, .iload_n 3, 1), (9, .if_icmp .gt 29, 3), (12, .iload 4, 2), (14, .aload_n 0, 1), (15, .iload_n 1, 1), (16, .iload 5, 2), (18, .invokevirtual 293, 3), (21, .ifCond .eq 7, 3), (24, .iconst 1, 1), (25, .goto 4, 3), (28, .iconst 0, 1), (29, .iadd, 1), (30, .istore 4, 2), (32, .iinc 5 1, 3), (35, .goto (-29), 3), (38, .iload 4, 2), (40, .ireturn, 1)]
set_option maxRecDepth 1000000 in
theorem eX11_manyOf : ∀ q ∈ kX11_manyOf, decode cX11_manyOf q.1 = .ok q.2 := by decide +kernel
def kX11_many : Ci_t := [(0, .aload_n 0, 1), (1, .iload_n 1, 1), (2, .invokevirtual 289, 3), (5, .ifCond .eq 11, 3), (8, .iload_n 2, 1), (9, .iload_n 3, 1), (10, .invokestatic 296, 3), (13, .ifCond .ne 6, 3), (16, .bipush (-2), 2), (18, .ireturn, 1), (19, .aload_n 0, 1), (20, .invokevirtual 269, 3), (23, .aload_n 0, 1), (24, .iload_n 1, 1), (25, .iload_n 2, 1), (26, .iload_n 3, 1), (27, .invokevirtual 299, 3), (30, .ireturn, 1)]
set_option maxRecDepth 1000000 in
theorem eX11_many : ∀ q ∈ kX11_many, decode cX11_many q.1 = .ok q.2 := by decide +kernel
def kX11_findWait : Ci_t := [(0, .aload_n 0, 1), (1, .iconst 0, 1), (2, .putfield 302, 3), (5, .aload_n 0, 1), (6, .iconst (-1), 1), (7, .putfield 305, 3), (10, .iconst 0, 1), (11, .istore 4, 2), (13, .iload_n 2, 1), (14, .istore 5, 2), (16, .iload 5, 2), (18, .iload_n 3, 1), (19, .if_icmp .gt 58, 3), (22, .aload_n 0, 1), (23, .iload_n 1, 1), (24, .iload 5, 2), (26, .invokevirtual 293, 3), (29, .ifCond .eq 7, 3), (32, .iconst 0, 1), (33, .goto 7, 3), (36, .iload 4, 2), (38, .iconst 1, 1), (39, .iadd, 1), (40, .istore 4, 2), (42, .iload 4, 2), (44, .aload_n 0, 1), (45, .getfield 302, 3), (48, .if_icmp .gt 6, 3), (51, .goto 20, 3), (54, .aload_n 0, 1), (55, .iload 4, 2), (57, .putfield 302, 3), (60, .aload_n 0, 1), (61, .iload 5, 2), (63, .iload 4, 2), (65, .isub, 1), (66, .iconst 1, 1), (67, .iadd, 1), (68, .putfield 305, 3), (71, .iinc 5 1, 3), (74, .goto (-58), 3), (77, .return_, 1)]
set_option maxRecDepth 1000000 in
theorem eX11_findWait : ∀ q ∈ kX11_findWait, decode cX11_findWait q.1 = .ok q.2 := by decide +kernel
def kX11_waits : Ci_t := [(0, .aload_n 0, 1), (1, .iload_n 1, 1), (2, .invokevirtual 289, 3), (5, .ifCond .eq 11, 3), (8, .iload_n 2, 1), (9, .iload_n 3, 1), (10, .invokestatic 296, 3), (13, .ifCond .ne 6, 3), (16, .bipush (-2), 2), (18, .ireturn, 1), (19, .aload_n 0, 1), (20, .invokevirtual 269, 3), (23, .aload_n 0, 1), (24, .iload_n 1, 1), (25, .iload_n 2, 1), (26, .iload_n 3, 1), (27, .invokevirtual 308, 3), (30, .aload_n 0, 1), (31, .getfield 302, 3), (34, .ireturn, 1)]
set_option maxRecDepth 1000000 in
theorem eX11_waits : ∀ q ∈ kX11_waits, decode cX11_waits q.1 = .ok q.2 := by decide +kernel
def kX11_waiting : Ci_t := [(0, .aload_n 0, 1), (1, .iload_n 1, 1), (2, .invokevirtual 289, 3), (5, .ifCond .eq 11, 3), (8, .iload_n 2, 1), (9, .iload_n 3, 1), (10, .invokestatic 296, 3), (13, .ifCond .ne 6, 3), (16, .bipush (-2), 2), (18, .ireturn, 1), (19, .aload_n 0, 1), (20, .invokevirtual 269, 3), (23, .aload_n 0, 1), (24, .iload_n 1, 1), (25, .iload_n 2, 1), (26, .iload_n 3, 1), (27, .invokevirtual 308, 3), (30, .aload_n 0, 1), (31, .getfield 305, 3), (34, .ireturn, 1)]
set_option maxRecDepth 1000000 in
theorem eX11_waiting : ∀ q ∈ kX11_waiting, decode cX11_waiting q.1 = .ok q.2 := by decide +kernel
def kX11_divisor : Ci_t := [(0, .iload_n 0, 1), (1, .istore_n 2, 1), (2, .iload_n 1, 1), (3, .istore_n 3, 1), (4, .iload_n 3, 1), (5, .ifCond .eq 16, 3), (8, .iload_n 2, 1), (9, .iload_n 3, 1), (10, .irem, 1), (11, .istore 4, 2), (13, .iload_n 3, 1), (14, .istore_n 2, 1), (15, .iload 4, 2), (17, .istore_n 3, 1), (18, .goto (-14), 3), (21, .iload_n 2, 1), (22, .ireturn, 1)]
set_option maxRecDepth 1000000 in
theorem eX11_divisor : ∀ q ∈ kX11_divisor, decode cX11_divisor q.1 = .ok q.2 := by decide +kernel
def kX11_share : Ci_t := [(0, .aload_n 0, 1), (1, .iload_n 1, 1), (2, .invokevirtual 289, 3), (5, .ifCond .eq 22, 3), (8, .iload_n 2, 1), (9, .iload_n 3, 1), (10, .invokestatic 296, 3), (13, .ifCond .eq 14, 3), (16, .iload 4, 2), (18, .i2l, 1), (19, .lconst 0, 1), (20, .lconst 1, 1), (21, .invokestatic 79, 3), (24, .ifCond .ne 6, 3), (27, .bipush (-2), 2), (29, .ireturn, 1), (30, .aload_n 0, 1), (31, .invokevirtual 269, 3), (34, .aload_n 0, 1), (35, .iload_n 1, 1), (36, .iload_n 2, 1), (37, .iload_n 3, 1), (38, .invokevirtual 299, 3), (41, .istore 5, 2), (43, .iload_n 3, 1), (44, .iload_n 2, 1), (45, .isub, 1), (46, .iconst 1, 1), (47, .iadd, 1), (48, .istore 6, 2), (50, .iload 4, 2), (52, .ifCond .ne 8, 3), (55, .iload 5, 2), (57, .goto 5, 3), (60, .iload 6, 2), (62, .iload 5, 2), (64, .iload 6, 2), (66, .invokestatic 312, 3), (69, .idiv, 1), (70, .ireturn, 1)]
set_option maxRecDepth 1000000 in
theorem eX11_share : ∀ q ∈ kX11_share, decode cX11_share q.1 = .ok q.2 := by decide +kernel
def kX11_isWeekday : Ci_t := [(0, .iload_n 2, 1), (1, .i2l, 1), (2, .lconst 0, 1), (3, .aload_n 0, 1), (4, .iload_n 1, 1), (5, .iconst 1, 1), (6, .invokevirtual 100, 3), (9, .iconst 1, 1), (10, .isub, 1), (11, .i2l, 1), (12, .invokestatic 79, 3), (15, .ireturn, 1)]
set_option maxRecDepth 1000000 in
theorem eX11_isWeekday : ∀ q ∈ kX11_isWeekday, decode cX11_isWeekday q.1 = .ok q.2 := by decide +kernel
def kX11_meets : Ci_t := [(0, .aload_n 0, 1), (1, .iload_n 1, 1), (2, .iload_n 3, 1), (3, .invokevirtual 315, 3), (6, .ifCond .eq 31, 3), (9, .aload_n 0, 1), (10, .iload_n 1, 1), (11, .iload_n 2, 1), (12, .invokevirtual 318, 3), (15, .ifCond .eq 22, 3), (18, .aload_n 0, 1), (19, .iload_n 3, 1), (20, .iload 4, 2), (22, .invokevirtual 318, 3), (25, .ifCond .eq 12, 3), (28, .iload 5, 2), (30, .i2l, 1), (31, .invokestatic 89, 3), (34, .ifCond .ne 6, 3), (37, .bipush (-2), 2), (39, .ireturn, 1), (40, .iload 5, 2), (42, .aload_n 0, 1), (43, .iload_n 1, 1), (44, .iconst 0, 1), (45, .invokevirtual 100, 3), (48, .aload_n 0, 1), (49, .iload_n 3, 1), (50, .iconst 0, 1), (51, .invokevirtual 100, 3), (54, .invokestatic 321, 3), (57, .invokestatic 321, 3), (60, .istore 6, 2), (62, .iload 6, 2), (64, .istore 7, 2), (66, .iload 7, 2), (68, .iload 6, 2), (70, .aload_n 0, 1), (71, .iload_n 1, 1), (72, .iconst 1, 1), (73, .invokevirtual 100, 3), (76, .aload_n 0, 1), (77, .iload_n 3, 1), (78, .iconst 1, 1), (79, .invokevirtual 100, 3), (82, .imul, 1), (83, .iadd, 1), (84, .if_icmp .ge 35, 3), (87, .aload_n 0, 1), (88, .iload_n 1, 1), (89, .iload 7, 2), (91, .invokevirtual 236, 3), (94, .iload_n 2, 1), (95, .if_icmp .ne 18, 3), (98, .aload_n 0, 1), (99, .iload_n 3, 1), (100, .iload 7, 2), (102, .invokevirtual 236, 3), (105, .iload 4, 2), (107, .if_icmp .ne 6, 3), (110, .iload 7, 2), (112, .ireturn, 1), (113, .iinc 7 1, 3), (116, .goto (-50), 3), (119, .iconst (-1), 1), (120, .ireturn, 1)]
set_option maxRecDepth 1000000 in
theorem eX11_meets : ∀ q ∈ kX11_meets, decode cX11_meets q.1 = .ok q.2 := by decide +kernel
def kX11_period : Ci_t := [(0, .aload_n 0, 1), (1, .iload_n 1, 1), (2, .i2l, 1), (3, .invokevirtual 83, 3), (6, .ifCond .ne 6, 3), (9, .bipush (-2), 2), (11, .ireturn, 1), (12, .iconst 0, 1), (13, .istore_n 2, 1), (14, .iconst 0, 1), (15, .istore_n 3, 1), (16, .iload_n 3, 1), (17, .iconst 1, 1), (18, .aload_n 0, 1), (19, .iload_n 1, 1), (20, .iconst 4, 1), (21, .invokevirtual 100, 3), (24, .invokestatic 321, 3), (27, .if_icmp .ge 18, 3), (30, .iload_n 2, 1), (31, .aload_n 0, 1), (32, .iload_n 1, 1), (33, .iload_n 3, 1), (34, .invokevirtual 275, 3), (37, .iadd, 1), (38, .istore_n 2, 1), (39, .iinc 3 1, 3), (42, .goto (-26), 3), (45, .iload_n 2, 1), (46, .iload_n 2, 1), (47, .aload_n 0, 1), (48, .iload_n 1, 1), (49, .iconst 1, 1), (50, .invokevirtual 100, 3), (53, .invokestatic 312, 3), (56, .idiv, 1), (57, .aload_n 0, 1), (58, .iload_n 1, 1), (59, .iconst 1, 1), (60, .invokevirtual 100, 3), (63, .imul, 1), (64, .ireturn, 1)]
set_option maxRecDepth 1000000 in
theorem eX11_period : ∀ q ∈ kX11_period, decode cX11_period q.1 = .ok q.2 := by decide +kernel
def kX11_isCounted : Ci_t := [(0, .iload_n 2, 1), (1, .aload_n 0, 1), (2, .iload_n 1, 1), (3, .iconst 0, 1), (4, .invokevirtual 100, 3), (7, .if_icmp .lt 7, 3), (10, .iconst 1, 1), (11, .goto 4, 3), (14, .iconst 0, 1), (15, .ireturn, 1)]
set_option maxRecDepth 1000000 in
theorem eX11_isCounted : ∀ q ∈ kX11_isCounted, decode cX11_isCounted q.1 = .ok q.2 := by decide +kernel
def kX11_alike : Ci_t := [(0, .aload_n 0, 1), (1, .iload_n 1, 1), (2, .iload_n 2, 1), (3, .invokevirtual 315, 3), (6, .ifCond .eq 11, 3), (9, .iload_n 3, 1), (10, .i2l, 1), (11, .invokestatic 89, 3), (14, .ifCond .ne 6, 3), (17, .bipush (-2), 2), (19, .ireturn, 1), (20, .aload_n 0, 1), (21, .invokevirtual 269, 3), (24, .iload_n 3, 1), (25, .istore 4, 2), (27, .iload 4, 2), (29, .sipush 2000, 3), (32, .if_icmp .ge 70, 3), (35, .aload_n 0, 1), (36, .iload_n 1, 1), (37, .iload 4, 2), (39, .invokevirtual 324, 3), (42, .ifCond .eq 54, 3), (45, .aload_n 0, 1), (46, .iload_n 2, 1), (47, .iload 4, 2), (49, .invokevirtual 324, 3), (52, .ifCond .eq 44, 3), (55, .aload_n 0, 1), (56, .iload_n 1, 1), (57, .iload 4, 2), (59, .iconst 1, 1), (60, .invokevirtual 272, 3), (63, .aload_n 0, 1), (64, .iload_n 2, 1), (65, .iload 4, 2), (67, .iconst 1, 1), (68, .invokevirtual 272, 3), (71, .if_icmp .ne 25, 3), (74, .aload_n 0, 1), (75, .iload_n 1, 1), (76, .iload 4, 2), (78, .iconst 2, 1), (79, .invokevirtual 272, 3), (82, .aload_n 0, 1), (83, .iload_n 2, 1), (84, .iload 4, 2), (86, .iconst 2, 1), (87, .invokevirtual 272, 3), (90, .if_icmp .ne 6, 3), (93, .iload 4, 2), (95, .ireturn, 1), (96, .iinc 4 1, 3), (99, .goto (-72), 3), (102, .iconst (-1), 1), (103, .ireturn, 1)]
set_option maxRecDepth 1000000 in
theorem eX11_alike : ∀ q ∈ kX11_alike, decode cX11_alike q.1 = .ok q.2 := by decide +kernel
def kX11_years : Ci_t := [(0, .aload_n 0, 1), (1, .invokevirtual 92, 3), (4, .ifCond .eq 11, 3), (7, .iload_n 1, 1), (8, .i2l, 1), (9, .invokestatic 89, 3), (12, .ifCond .ne 6, 3), (15, .bipush (-2), 2), (17, .ireturn, 1), (18, .aload_n 0, 1), (19, .invokevirtual 269, 3), (22, .iconst 0, 1), (23, .istore_n 2, 1), (24, .iconst 0, 1), (25, .istore_n 3, 1), (26, .iload_n 3, 1), (27, .aload_n 0, 1), (28, .getfield 9, 3), (31, .iconst 1, 1), (32, .iaload, 1), (33, .if_icmp .ge 39, 3), (36, .iload_n 2, 1), (37, .aload_n 0, 1), (38, .iload_n 3, 1), (39, .iload_n 1, 1), (40, .iconst 1, 1), (41, .invokevirtual 272, 3), (44, .ifCond .ne 19, 3), (47, .aload_n 0, 1), (48, .iload_n 3, 1), (49, .iload_n 1, 1), (50, .iconst 2, 1), (51, .invokevirtual 272, 3), (54, .ifCond .ne 9, 3), (57, .iconst 1, 1), (58, .iload_n 3, 1), (59, .ishl, 1), (60, .goto 4, 3), (63, .iconst 0, 1), (64, .ior, 1), (65, .istore_n 2, 1), (66, .iinc 3 1, 3), (69, .goto (-43), 3), (72, .iload_n 2, 1), (73, .ireturn, 1)]
set_option maxRecDepth 1000000 in
theorem eX11_years : ∀ q ∈ kX11_years, decode cX11_years q.1 = .ok q.2 := by decide +kernel
def kX11_comes : Ci_t := [(0, .aload_n 0, 1), (1, .iload_n 1, 1), (2, .i2l, 1), (3, .invokevirtual 83, 3), (6, .ifCond .eq 11, 3), (9, .iload_n 2, 1), (10, .i2l, 1), (11, .invokestatic 89, 3), (14, .ifCond .ne 6, 3), (17, .bipush (-2), 2), (19, .ireturn, 1), (20, .aload_n 0, 1), (21, .invokevirtual 269, 3), (24, .iload_n 2, 1), (25, .iconst 1, 1), (26, .iadd, 1), (27, .istore_n 3, 1), (28, .iload_n 3, 1), (29, .sipush 2000, 3), (32, .if_icmp .ge 69, 3), (35, .aload_n 0, 1), (36, .iload_n 1, 1), (37, .iload_n 2, 1), (38, .invokevirtual 324, 3), (41, .ifCond .eq 60, 3), (44, .aload_n 0, 1), (45, .iload_n 1, 1), (46, .iload_n 3, 1), (47, .iconst 1, 1), (48, .invokevirtual 272, 3), (51, .aload_n 0, 1), (52, .iload_n 1, 1), (53, .iload_n 2, 1), (54, .iconst 1, 1), (55, .invokevirtual 272, 3), (58, .if_icmp .ne 37, 3), (61, .aload_n 0, 1), (62, .iload_n 1, 1), (63, .iload_n 3, 1), (64, .iconst 2, 1), (65, .invokevirtual 272, 3), (68, .aload_n 0, 1), (69, .iload_n 1, 1), (70, .iload_n 2, 1), (71, .iconst 2, 1), (72, .invokevirtual 272, 3), (75, .if_icmp .ne 20, 3), (78, .aload_n 0, 1), (79, .iload_n 1, 1), (80, .iload_n 3, 1), (81, .invokevirtual 236, 3), (84, .aload_n 0, 1), (85, .iload_n 1, 1), (86, .iload_n 2, 1), (87, .invokevirtual 236, 3), (90, .if_icmp .ne 5, 3), (93, .iload_n 3, 1), (94, .ireturn, 1), (95, .iinc 3 1, 3), (98, .goto (-70), 3), (101, .iconst (-1), 1), (102, .ireturn, 1)]
set_option maxRecDepth 1000000 in
theorem eX11_comes : ∀ q ∈ kX11_comes, decode cX11_comes q.1 = .ok q.2 := by decide +kernel
def kX11_findSaints : Ci_t := [(0, .aload_n 0, 1), (1, .invokevirtual 269, 3), (4, .iconst 0, 1), (5, .istore 6, 2), (7, .iload 6, 2), (9, .aload_n 0, 1), (10, .getfield 46, 3), (13, .arraylength, 1), (14, .if_icmp .ge 17, 3), (17, .aload_n 0, 1), (18, .getfield 46, 3), (21, .iload 6, 2), (23, .iconst 0, 1), (24, .bastore, 1), (25, .iinc 6 1, 3), (28, .goto (-21), 3), (31, .aload_n 0, 1), (32, .iload_n 1, 1), (33, .iconst 0, 1), (34, .invokevirtual 100, 3), (37, .istore 6, 2), (39, .iload 6, 2), (41, .sipush 2000, 3), (44, .if_icmp .ge 78, 3), (47, .aload_n 0, 1), (48, .getfield 37, 3), (51, .iload_n 1, 1), (52, .iload 6, 2), (54, .invokestatic 233, 3), (57, .iaload, 1), (58, .iload_n 2, 1), (59, .if_icmp .ne 57, 3), (62, .aload_n 0, 1), (63, .getfield 34, 3), (66, .iload_n 1, 1), (67, .iload 6, 2), (69, .invokestatic 233, 3), (72, .iaload, 1), (73, .i2l, 1), (74, .iload_n 3, 1), (75, .i2l, 1), (76, .iload_n 3, 1), (77, .iload 4, 2), (79, .iadd, 1), (80, .iconst 1, 1), (81, .isub, 1), (82, .i2l, 1), (83, .invokestatic 79, 3), (86, .ifCond .eq 30, 3), (89, .aload_n 0, 1), (90, .iload_n 1, 1), (91, .iload 6, 2), (93, .invokevirtual 254, 3), (96, .ifCond .eq 20, 3), (99, .aload_n 0, 1), (100, .getfield 46, 3), (103, .aload_n 0, 1), (104, .getfield 40, 3), (107, .iload_n 1, 1), (108, .iload 6, 2), (110, .invokestatic 233, 3), (113, .iaload, 1), (114, .iconst 1, 1), (115, .bastore, 1), (116, .iinc 6 1, 3), (119, .goto (-80), 3), (122, .aload_n 0, 1), (123, .iconst 0, 1), (124, .putfield 327, 3), (127, .aload_n 0, 1), (128, .lconst 0, 1), (129, .putfield 330, 3), (132, .aload_n 0, 1), (133, .iload_n 1, 1), (134, .bipush 7, 2), (136, .iload_n 2, 1), (137, .iadd, 1), (138, .invokevirtual 100, 3), (141, .iconst 1, 1), (142, .isub, 1), (143, .istore 6, 2), (145, .iconst 0, 1), (146, .istore 7, 2), (148, .iload 7, 2), (150, .aload_n 0, 1), (151, .getfield 46, 3), (154, .arraylength, 1), (155, .if_icmp .ge 86, 3), (158, .aload_n 0, 1), (159, .getfield 46, 3), (162, .iload 7, 2), (164, .baload, 1), (165, .ifCond .ne 9, 3), (168, .iinc 7 1, 3), (171, .goto (-23), 3), (174, .iload 7, 2), (176, .iload 6, 2), (178, .invokestatic 139, 3), (181, .istore 8, 2), (183, .iload 8, 2), (185, .iload 5, 2), (187, .iadd, 1), (188, .iconst 1, 1), (189, .isub, 1), (190, .iload 7, 2), (192, .if_icmp .ge 16, 3), (195, .aload_n 0, 1), (196, .iconst (-1), 1), (197, .putfield 327, 3), (200, .aload_n 0, 1), (201, .ldc2_w 334, 3), (204, .putfield 330, 3), (207, .return_, 1), (208, .aload_n 0, 1), (209, .dup, 1), (210, .getfield 327, 3), (213, .iconst 1, 1), (214, .iadd, 1), (215, .putfield 327, 3), (218, .aload_n 0, 1), (219, .dup, 1), (220, .getfield 330, 3), (223, .lconst 1, 1), (224, .iload 8, 2), (226, .lshl, 1), (227, .lor, 1), (228, .putfield 330, 3), (231, .iload 8, 2), (233, .iload 5, 2), (235, .iadd, 1), (236, .istore 7, 2), (238, .goto (-90), 3), (241, .return_, 1)]
set_option maxRecDepth 1000000 in
theorem eX11_findSaints : ∀ q ∈ kX11_findSaints, decode cX11_findSaints q.1 = .ok q.2 := by decide +kernel
def kX11_areSaints : Ci_t := [(0, .aload_n 0, 1), (1, .iload_n 1, 1), (2, .i2l, 1), (3, .invokevirtual 83, 3), (6, .ifCond .eq 51, 3), (9, .aload_n 0, 1), (10, .iload_n 1, 1), (11, .iload_n 2, 1), (12, .i2l, 1), (13, .invokevirtual 260, 3), (16, .ifCond .eq 41, 3), (19, .iload_n 3, 1), (20, .i2l, 1), (21, .invokestatic 264, 3), (24, .ifCond .eq 33, 3), (27, .iload 4, 2), (29, .i2l, 1), (30, .lconst 1, 1), (31, .ldc2_w 336, 3), (34, .invokestatic 79, 3), (37, .ifCond .eq 20, 3), (40, .iload 5, 2), (42, .i2l, 1), (43, .lconst 1, 1), (44, .ldc2_w 338, 3), (47, .invokestatic 79, 3), (50, .ifCond .eq 7, 3), (53, .iconst 1, 1), (54, .goto 4, 3), (57, .iconst 0, 1), (58, .ireturn, 1)]
set_option maxRecDepth 1000000 in
theorem eX11_areSaints : ∀ q ∈ kX11_areSaints, decode cX11_areSaints q.1 = .ok q.2 := by decide +kernel
def kX11_saints : Ci_t := [(0, .aload_n 0, 1), (1, .iload_n 1, 1), (2, .iload_n 2, 1), (3, .iload_n 3, 1), (4, .iload 4, 2), (6, .iload 5, 2), (8, .invokevirtual 340, 3), (11, .ifCond .ne 6, 3), (14, .bipush (-2), 2), (16, .ireturn, 1), (17, .aload_n 0, 1), (18, .iload_n 1, 1), (19, .iload_n 2, 1), (20, .iload_n 3, 1), (21, .iload 4, 2), (23, .iload 5, 2), (25, .invokevirtual 344, 3), (28, .aload_n 0, 1), (29, .getfield 327, 3), (32, .ireturn, 1)]
set_option maxRecDepth 1000000 in
theorem eX11_saints : ∀ q ∈ kX11_saints, decode cX11_saints q.1 = .ok q.2 := by decide +kernel
def kX11_founded : Ci_t := [(0, .aload_n 0, 1), (1, .iload_n 1, 1), (2, .iload_n 2, 1), (3, .iload_n 3, 1), (4, .iload 4, 2), (6, .iload 5, 2), (8, .invokevirtual 340, 3), (11, .ifCond .ne 7, 3), (14, .ldc2_w 348, 3), (17, .lreturn, 1), (18, .aload_n 0, 1), (19, .iload_n 1, 1), (20, .iload_n 2, 1), (21, .iload_n 3, 1), (22, .iload 4, 2), (24, .iload 5, 2), (26, .invokevirtual 344, 3), (29, .aload_n 0, 1), (30, .getfield 330, 3), (33, .lreturn, 1)]
set_option maxRecDepth 1000000 in
theorem eX11_founded : ∀ q ∈ kX11_founded, decode cX11_founded q.1 = .ok q.2 := by decide +kernel
def kX11_findBridge : Ci_t := [(0, .aload_n 0, 1), (1, .iconst 0, 1), (2, .putfield 302, 3), (5, .aload_n 0, 1), (6, .iconst (-1), 1), (7, .putfield 305, 3), (10, .iload_n 2, 1), (11, .istore 5, 2), (13, .iconst 0, 1), (14, .istore 6, 2), (16, .iload_n 2, 1), (17, .istore 7, 2), (19, .iload 7, 2), (21, .iload_n 3, 1), (22, .if_icmp .gt 96, 3), (25, .iload 6, 2), (27, .aload_n 0, 1), (28, .iload_n 1, 1), (29, .iload 7, 2), (31, .invokevirtual 254, 3), (34, .ifCond .eq 7, 3), (37, .iconst 1, 1), (38, .goto 4, 3), (41, .iconst 0, 1), (42, .iadd, 1), (43, .istore 6, 2), (45, .iload 6, 2), (47, .iload 4, 2), (49, .if_icmp .le 29, 3), (52, .iload 6, 2), (54, .aload_n 0, 1), (55, .iload_n 1, 1), (56, .iload 5, 2), (58, .invokevirtual 254, 3), (61, .ifCond .eq 7, 3), (64, .iconst 1, 1), (65, .goto 4, 3), (68, .iconst 0, 1), (69, .isub, 1), (70, .istore 6, 2), (72, .iinc 5 1, 3), (75, .goto (-30), 3), (78, .iload 7, 2), (80, .iload 5, 2), (82, .isub, 1), (83, .iconst 1, 1), (84, .iadd, 1), (85, .aload_n 0, 1), (86, .getfield 302, 3), (89, .if_icmp .gt 6, 3), (92, .goto 20, 3), (95, .aload_n 0, 1), (96, .iload 7, 2), (98, .iload 5, 2), (100, .isub, 1), (101, .iconst 1, 1), (102, .iadd, 1), (103, .putfield 302, 3), (106, .aload_n 0, 1), (107, .iload 5, 2), (109, .putfield 305, 3), (112, .iinc 7 1, 3), (115, .goto (-96), 3), (118, .return_, 1)]
set_option maxRecDepth 1000000 in
theorem eX11_findBridge : ∀ q ∈ kX11_findBridge, decode cX11_findBridge q.1 = .ok q.2 := by decide +kernel
def kX11_bridge : Ci_t := [(0, .aload_n 0, 1), (1, .iload_n 1, 1), (2, .i2l, 1), (3, .invokevirtual 83, 3), (6, .ifCond .eq 24, 3), (9, .iload_n 2, 1), (10, .iload_n 3, 1), (11, .invokestatic 296, 3), (14, .ifCond .eq 16, 3), (17, .iload 4, 2), (19, .i2l, 1), (20, .lconst 0, 1), (21, .ldc2_w 338, 3), (24, .invokestatic 79, 3), (27, .ifCond .ne 6, 3), (30, .bipush (-2), 2), (32, .ireturn, 1), (33, .aload_n 0, 1), (34, .invokevirtual 269, 3), (37, .aload_n 0, 1), (38, .iload_n 1, 1), (39, .iload_n 2, 1), (40, .iload_n 3, 1), (41, .iload 4, 2), (43, .invokevirtual 350, 3), (46, .aload_n 0, 1), (47, .getfield 302, 3), (50, .ireturn, 1)]
set_option maxRecDepth 1000000 in
theorem eX11_bridge : ∀ q ∈ kX11_bridge, decode cX11_bridge q.1 = .ok q.2 := by decide +kernel
def kX11_bridged : Ci_t := [(0, .aload_n 0, 1), (1, .iload_n 1, 1), (2, .i2l, 1), (3, .invokevirtual 83, 3), (6, .ifCond .eq 24, 3), (9, .iload_n 2, 1), (10, .iload_n 3, 1), (11, .invokestatic 296, 3), (14, .ifCond .eq 16, 3), (17, .iload 4, 2), (19, .i2l, 1), (20, .lconst 0, 1), (21, .ldc2_w 338, 3), (24, .invokestatic 79, 3), (27, .ifCond .ne 6, 3), (30, .bipush (-2), 2), (32, .ireturn, 1), (33, .aload_n 0, 1), (34, .invokevirtual 269, 3), (37, .aload_n 0, 1), (38, .iload_n 1, 1), (39, .iload_n 2, 1), (40, .iload_n 3, 1), (41, .iload 4, 2), (43, .invokevirtual 350, 3), (46, .aload_n 0, 1), (47, .getfield 305, 3), (50, .ireturn, 1)]
set_option maxRecDepth 1000000 in
theorem eX11_bridged : ∀ q ∈ kX11_bridged, decode cX11_bridged q.1 = .ok q.2 := by decide +kernel
def kX11_numberAt : Ci_t := [(0, .aload_n 0, 1), (1, .getfield 67, 3), (4, .bipush 60, 2), (6, .iload_n 1, 1), (7, .imul, 1), (8, .iload_n 2, 1), (9, .iadd, 1), (10, .laload, 1), (11, .lreturn, 1)]
set_option maxRecDepth 1000000 in
theorem eX11_numberAt : ∀ q ∈ kX11_numberAt, decode cX11_numberAt q.1 = .ok q.2 := by decide +kernel
def kX11_intAt : Ci_t := [(0, .aload_n 0, 1), (1, .iload_n 1, 1), (2, .iload_n 2, 1), (3, .invokevirtual 354, 3), (6, .l2i, 1), (7, .ireturn, 1)]
set_option maxRecDepth 1000000 in
theorem eX11_intAt : ∀ q ∈ kX11_intAt, decode cX11_intAt q.1 = .ok q.2 := by decide +kernel
def kX11_dayAt : Ci_t := [(0, .aload_n 0, 1), (1, .aload_n 0, 1), (2, .iload_n 1, 1), (3, .iconst 4, 1), (4, .iload_n 2, 1), (5, .imul, 1), (6, .invokevirtual 358, 3), (9, .aload_n 0, 1), (10, .iload_n 1, 1), (11, .iconst 4, 1), (12, .iload_n 2, 1), (13, .imul, 1), (14, .iconst 1, 1), (15, .iadd, 1), (16, .invokevirtual 358, 3), (19, .aload_n 0, 1), (20, .iload_n 1, 1), (21, .iconst 4, 1), (22, .iload_n 2, 1), (23, .imul, 1), (24, .iconst 2, 1), (25, .iadd, 1), (26, .invokevirtual 358, 3), (29, .aload_n 0, 1), (30, .iload_n 1, 1), (31, .iconst 4, 1), (32, .iload_n 2, 1), (33, .imul, 1), (34, .iconst 3, 1), (35, .iadd, 1), (36, .invokevirtual 358, 3), (39, .invokevirtual 282, 3), (42, .ireturn, 1)]
set_option maxRecDepth 1000000 in
theorem eX11_dayAt : ∀ q ∈ kX11_dayAt, decode cX11_dayAt q.1 = .ok q.2 := by decide +kernel
def kX11_asksOrders : Ci_t := [(0, .iload_n 1, 1), (1, .invokestatic 361, 3), (4, .ifCond .eq 10, 3), (7, .aload_n 0, 1), (8, .invokevirtual 92, 3), (11, .ifCond .ne 6, 3), (14, .bipush (-2), 2), (16, .ireturn, 1), (17, .aload_n 0, 1), (18, .getfield 61, 3), (21, .iload_n 1, 1), (22, .iaload, 1), (23, .iconst (-1), 1), (24, .if_icmp .ne 6, 3), (27, .bipush (-6), 2), (29, .ireturn, 1), (30, .aload_n 0, 1), (31, .getfield 61, 3), (34, .iload_n 1, 1), (35, .iaload, 1), (36, .iconst 4, 1), (37, .irem, 1), (38, .ifCond .eq 6, 3), (41, .bipush (-2), 2), (43, .ireturn, 1), (44, .iconst 0, 1), (45, .istore_n 2, 1), (46, .iload_n 2, 1), (47, .aload_n 0, 1), (48, .getfield 61, 3), (51, .iload_n 1, 1), (52, .iaload, 1), (53, .if_icmp .ge 79, 3), (56, .aload_n 0, 1), (57, .aload_n 0, 1), (58, .iload_n 1, 1), (59, .iload_n 2, 1), (60, .invokevirtual 354, 3), (63, .invokevirtual 83, 3), (66, .ifCond .eq 40, 3), (69, .aload_n 0, 1), (70, .aload_n 0, 1), (71, .iload_n 1, 1), (72, .iload_n 2, 1), (73, .invokevirtual 358, 3), (76, .aload_n 0, 1), (77, .iload_n 1, 1), (78, .iload_n 2, 1), (79, .iconst 1, 1), (80, .iadd, 1), (81, .invokevirtual 354, 3), (84, .aload_n 0, 1), (85, .iload_n 1, 1), (86, .iload_n 2, 1), (87, .iconst 2, 1), (88, .iadd, 1), (89, .invokevirtual 354, 3), (92, .aload_n 0, 1), (93, .iload_n 1, 1), (94, .iload_n 2, 1), (95, .iconst 3, 1), (96, .iadd, 1), (97, .invokevirtual 354, 3), (100, .invokevirtual 278, 3), (103, .ifCond .ne 6, 3), (106, .bipush (-2), 2), (108, .ireturn, 1), (109, .aload_n 0, 1), (110, .iload_n 1, 1), (111, .iload_n 2, 1), (112, .iconst 4, 1), (113, .idiv, 1), (114, .invokevirtual 364, 3), (117, .sipush 2000, 3), (120, .if_icmp .lt 6, 3), (123, .bipush (-2), 2), (125, .ireturn, 1), (126, .iinc 2 4, 3), (129, .goto (-83), 3), (132, .iconst 0, 1), (133, .ireturn, 1)]
set_option maxRecDepth 1000000 in
theorem eX11_asksOrders : ∀ q ∈ kX11_asksOrders, decode cX11_asksOrders q.1 = .ok q.2 := by decide +kernel
def kX11_oldest : Ci_t := [(0, .aload_n 0, 1), (1, .iload_n 1, 1), (2, .invokevirtual 367, 3), (5, .istore_n 2, 1), (6, .iload_n 2, 1), (7, .ifCond .ge 5, 3), (10, .iload_n 2, 1), (11, .ireturn, 1), (12, .iconst (-1), 1), (13, .istore_n 3, 1), (14, .iconst 0, 1), (15, .istore 4, 2), (17, .iconst 4, 1), (18, .iload 4, 2), (20, .imul, 1), (21, .aload_n 0, 1), (22, .getfield 61, 3), (25, .iload_n 1, 1), (26, .iaload, 1), (27, .if_icmp .ge 33, 3), (30, .iload_n 3, 1), (31, .iconst (-1), 1), (32, .if_icmp .eq 19, 3), (35, .aload_n 0, 1), (36, .iload_n 1, 1), (37, .iload 4, 2), (39, .invokevirtual 364, 3), (42, .aload_n 0, 1), (43, .iload_n 1, 1), (44, .iload_n 3, 1), (45, .invokevirtual 364, 3), (48, .if_icmp .ge 6, 3), (51, .iload 4, 2), (53, .istore_n 3, 1), (54, .iinc 4 1, 3), (57, .goto (-40), 3), (60, .iload_n 3, 1), (61, .ireturn, 1)]
set_option maxRecDepth 1000000 in
theorem eX11_oldest : ∀ q ∈ kX11_oldest, decode cX11_oldest q.1 = .ok q.2 := by decide +kernel
def kX11_older : Ci_t := [(0, .aload_n 0, 1), (1, .iload_n 1, 1), (2, .invokevirtual 367, 3), (5, .istore_n 3, 1), (6, .iload_n 3, 1), (7, .ifCond .ge 5, 3), (10, .iload_n 3, 1), (11, .ireturn, 1), (12, .iload_n 2, 1), (13, .i2l, 1), (14, .lconst 0, 1), (15, .aload_n 0, 1), (16, .getfield 61, 3), (19, .iload_n 1, 1), (20, .iaload, 1), (21, .iconst 4, 1), (22, .idiv, 1), (23, .iconst 1, 1), (24, .isub, 1), (25, .i2l, 1), (26, .invokestatic 79, 3), (29, .ifCond .ne 5, 3), (32, .iconst (-1), 1), (33, .ireturn, 1), (34, .iconst 0, 1), (35, .istore 4, 2), (37, .iconst 0, 1), (38, .istore 5, 2), (40, .iconst 4, 1), (41, .iload 5, 2), (43, .imul, 1), (44, .aload_n 0, 1), (45, .getfield 61, 3), (48, .iload_n 1, 1), (49, .iaload, 1), (50, .if_icmp .ge 35, 3), (53, .iload 4, 2), (55, .aload_n 0, 1), (56, .iload_n 1, 1), (57, .iload 5, 2), (59, .invokevirtual 364, 3), (62, .aload_n 0, 1), (63, .iload_n 1, 1), (64, .iload_n 2, 1), (65, .invokevirtual 364, 3), (68, .if_icmp .ge 7, 3), (71, .iconst 1, 1), (72, .goto 4, 3), (75, .iconst 0, 1), (76, .iadd, 1), (77, .istore 4, 2), (79, .iinc 5 1, 3), (82, .goto (-42), 3), (85, .iload 4, 2), (87, .ireturn, 1)]
set_option maxRecDepth 1000000 in
theorem eX11_older : ∀ q ∈ kX11_older, decode cX11_older q.1 = .ok q.2 := by decide +kernel
def kX11_apart : Ci_t := [(0, .aload_n 0, 1), (1, .iload_n 1, 1), (2, .invokevirtual 367, 3), (5, .istore_n 2, 1), (6, .iload_n 2, 1), (7, .ifCond .ge 5, 3), (10, .iload_n 2, 1), (11, .ireturn, 1), (12, .aload_n 0, 1), (13, .getfield 61, 3), (16, .iload_n 1, 1), (17, .iaload, 1), (18, .ifCond .ne 5, 3), (21, .iconst (-1), 1), (22, .ireturn, 1), (23, .ldc_w 370, 3), (26, .istore_n 3, 1), (27, .iconst 0, 1), (28, .istore 4, 2), (30, .iconst 0, 1), (31, .istore 5, 2), (33, .iconst 4, 1), (34, .iload 5, 2), (36, .imul, 1), (37, .aload_n 0, 1), (38, .getfield 61, 3), (41, .iload_n 1, 1), (42, .iaload, 1), (43, .if_icmp .ge 35, 3), (46, .iload_n 3, 1), (47, .aload_n 0, 1), (48, .iload_n 1, 1), (49, .iload 5, 2), (51, .invokevirtual 364, 3), (54, .invokestatic 139, 3), (57, .istore_n 3, 1), (58, .iload 4, 2), (60, .aload_n 0, 1), (61, .iload_n 1, 1), (62, .iload 5, 2), (64, .invokevirtual 364, 3), (67, .invokestatic 321, 3), (70, .istore 4, 2), (72, .iinc 5 1, 3), (75, .goto (-42), 3), (78, .iload 4, 2), (80, .iload_n 3, 1), (81, .isub, 1), (82, .ireturn, 1)]
set_option maxRecDepth 1000000 in
theorem eX11_apart : ∀ q ∈ kX11_apart, decode cX11_apart q.1 = .ok q.2 := by decide +kernel
def kX11_idle : Ci_t := [(0, .aload_n 0, 1), (1, .iload_n 1, 1), (2, .invokevirtual 367, 3), (5, .istore_n 2, 1), (6, .iload_n 2, 1), (7, .ifCond .ge 5, 3), (10, .iload_n 2, 1), (11, .ireturn, 1), (12, .aload_n 0, 1), (13, .invokevirtual 269, 3), (16, .iconst 0, 1), (17, .istore_n 3, 1), (18, .iconst 0, 1), (19, .istore 4, 2), (21, .iconst 4, 1), (22, .iload 4, 2), (24, .imul, 1), (25, .aload_n 0, 1), (26, .getfield 61, 3), (29, .iload_n 1, 1), (30, .iaload, 1), (31, .if_icmp .ge 40, 3), (34, .iload_n 3, 1), (35, .aload_n 0, 1), (36, .aload_n 0, 1), (37, .iload_n 1, 1), (38, .iconst 4, 1), (39, .iload 4, 2), (41, .imul, 1), (42, .invokevirtual 358, 3), (45, .aload_n 0, 1), (46, .iload_n 1, 1), (47, .iload 4, 2), (49, .invokevirtual 364, 3), (52, .invokevirtual 254, 3), (55, .ifCond .eq 7, 3), (58, .iconst 0, 1), (59, .goto 4, 3), (62, .iconst 1, 1), (63, .iadd, 1), (64, .istore_n 3, 1), (65, .iinc 4 1, 3), (68, .goto (-47), 3), (71, .iload_n 3, 1), (72, .ireturn, 1)]
set_option maxRecDepth 1000000 in
theorem eX11_idle : ∀ q ∈ kX11_idle, decode cX11_idle q.1 = .ok q.2 := by decide +kernel
def kX11_asksSeen : Ci_t := [(0, .iload_n 1, 1), (1, .invokestatic 361, 3), (4, .ifCond .eq 23, 3), (7, .iload_n 2, 1), (8, .iload_n 3, 1), (9, .invokestatic 296, 3), (12, .ifCond .eq 15, 3), (15, .aload_n 0, 1), (16, .invokevirtual 92, 3), (19, .ifCond .eq 8, 3), (22, .iload 4, 2), (24, .ifCond .ne 6, 3), (27, .bipush (-2), 2), (29, .ireturn, 1), (30, .aload_n 0, 1), (31, .getfield 61, 3), (34, .iload_n 1, 1), (35, .iaload, 1), (36, .iconst (-1), 1), (37, .if_icmp .ne 6, 3), (40, .bipush (-6), 2), (42, .ireturn, 1), (43, .aload_n 0, 1), (44, .getfield 61, 3), (47, .iload_n 1, 1), (48, .iaload, 1), (49, .iconst 3, 1), (50, .irem, 1), (51, .ifCond .eq 6, 3), (54, .bipush (-2), 2), (56, .ireturn, 1), (57, .iconst 0, 1), (58, .istore 5, 2), (60, .iload 5, 2), (62, .aload_n 0, 1), (63, .getfield 61, 3), (66, .iload_n 1, 1), (67, .iaload, 1), (68, .if_icmp .ge 45, 3), (71, .aload_n 0, 1), (72, .aload_n 0, 1), (73, .iload_n 1, 1), (74, .iload 5, 2), (76, .invokevirtual 354, 3), (79, .invokevirtual 83, 3), (82, .ifCond .eq 22, 3), (85, .aload_n 0, 1), (86, .iload_n 1, 1), (87, .iload 5, 2), (89, .iconst 1, 1), (90, .iadd, 1), (91, .invokevirtual 354, 3), (94, .lconst 0, 1), (95, .ldc2_w 371, 3), (98, .invokestatic 79, 3), (101, .ifCond .ne 6, 3), (104, .bipush (-2), 2), (106, .ireturn, 1), (107, .iinc 5 3, 3), (110, .goto (-50), 3), (113, .aload_n 0, 1), (114, .invokevirtual 269, 3), (117, .iconst 0, 1), (118, .ireturn, 1)]
set_option maxRecDepth 1000000 in
theorem eX11_asksSeen : ∀ q ∈ kX11_asksSeen, decode cX11_asksSeen q.1 = .ok q.2 := by decide +kernel
def kX11_seen : Ci_t := [(0, .iload_n 2, 1), (1, .iconst 4, 1), (2, .if_icmp .ne 20, 3), (5, .aload_n 0, 1), (6, .iload_n 1, 1), (7, .iload_n 3, 1), (8, .invokevirtual 254, 3), (11, .ifCond .eq 7, 3), (14, .iconst 1, 1), (15, .goto 14, 3), (18, .iconst 0, 1), (19, .goto 10, 3), (22, .aload_n 0, 1), (23, .iload_n 1, 1), (24, .iload_n 3, 1), (25, .iload_n 2, 1), (26, .invokevirtual 272, 3), (29, .ireturn, 1)]
set_option maxRecDepth 1000000 in
theorem eX11_seen : ∀ q ∈ kX11_seen, decode cX11_seen q.1 = .ok q.2 := by decide +kernel
def kX11_isSeen : Ci_t := [(0, .iconst 0, 1), (1, .istore_n 3, 1), (2, .iload_n 3, 1), (3, .aload_n 0, 1), (4, .getfield 61, 3), (7, .iload_n 1, 1), (8, .iaload, 1), (9, .if_icmp .ge 53, 3), (12, .aload_n 0, 1), (13, .aload_n 0, 1), (14, .iload_n 1, 1), (15, .iload_n 3, 1), (16, .invokevirtual 358, 3), (19, .aload_n 0, 1), (20, .iload_n 1, 1), (21, .iload_n 3, 1), (22, .iconst 1, 1), (23, .iadd, 1), (24, .invokevirtual 358, 3), (27, .iload_n 2, 1), (28, .invokevirtual 373, 3), (31, .istore 4, 2), (33, .iload 4, 2), (35, .iconst (-1), 1), (36, .if_icmp .eq 18, 3), (39, .iload 4, 2), (41, .i2l, 1), (42, .aload_n 0, 1), (43, .iload_n 1, 1), (44, .iload_n 3, 1), (45, .iconst 2, 1), (46, .iadd, 1), (47, .invokevirtual 354, 3), (50, .lcmp, 1), (51, .ifCond .eq 5, 3), (54, .iconst 0, 1), (55, .ireturn, 1), (56, .iinc 3 3, 3), (59, .goto (-57), 3), (62, .iconst 1, 1), (63, .ireturn, 1)]
set_option maxRecDepth 1000000 in
theorem eX11_isSeen : ∀ q ∈ kX11_isSeen, decode cX11_isSeen q.1 = .ok q.2 := by decide +kernel
def kX11_fitsOf : Ci_t := [(0, .iconst 0, 1), (1, .istore 4, 2), (3, .iload_n 2, 1), (4, .istore 5, 2), (6, .iload 5, 2), (8, .iload_n 3, 1), (9, .if_icmp .gt 29, 3), (12, .iload 4, 2), (14, .aload_n 0, 1), (15, .iload_n 1, 1), (16, .iload 5, 2), (18, .invokevirtual 376, 3), (21, .ifCond .eq 7, 3), (24, .iconst 1, 1), (25, .goto 4, 3), (28, .iconst 0, 1), (29, .iadd, 1), (30, .istore 4, 2), (32, .iinc 5 1, 3), (35, .goto (-29), 3), (38, .iload 4, 2), (40, .ireturn, 1)]
set_option maxRecDepth 1000000 in
theorem eX11_fitsOf : ∀ q ∈ kX11_fitsOf, decode cX11_fitsOf q.1 = .ok q.2 := by decide +kernel
def kX11_fits : Ci_t := [(0, .aload_n 0, 1), (1, .iload_n 1, 1), (2, .iload_n 2, 1), (3, .iload_n 3, 1), (4, .iconst 1, 1), (5, .invokevirtual 379, 3), (8, .istore 4, 2), (10, .iload 4, 2), (12, .ifCond .ge 8, 3), (15, .iload 4, 2), (17, .goto 10, 3), (20, .aload_n 0, 1), (21, .iload_n 1, 1), (22, .iload_n 2, 1), (23, .iload_n 3, 1), (24, .invokevirtual 383, 3), (27, .ireturn, 1)]
set_option maxRecDepth 1000000 in
theorem eX11_fits : ∀ q ∈ kX11_fits, decode cX11_fits q.1 = .ok q.2 := by decide +kernel
def kX11_fit : Ci_t := [(0, .aload_n 0, 1), (1, .iload_n 1, 1), (2, .iload_n 2, 1), (3, .iload_n 3, 1), (4, .iconst 1, 1), (5, .invokevirtual 379, 3), (8, .istore 5, 2), (10, .iload 5, 2), (12, .ifCond .ge 6, 3), (15, .iload 5, 2), (17, .ireturn, 1), (18, .iconst 0, 1), (19, .istore 6, 2), (21, .iload_n 2, 1), (22, .istore 7, 2), (24, .iload 7, 2), (26, .iload_n 3, 1), (27, .if_icmp .gt 35, 3), (30, .aload_n 0, 1), (31, .iload_n 1, 1), (32, .iload 7, 2), (34, .invokevirtual 376, 3), (37, .ifCond .ne 6, 3), (40, .goto 16, 3), (43, .iload 6, 2), (45, .iload 4, 2), (47, .if_icmp .ne 6, 3), (50, .iload 7, 2), (52, .ireturn, 1), (53, .iinc 6 1, 3), (56, .iinc 7 1, 3), (59, .goto (-35), 3), (62, .iconst (-1), 1), (63, .ireturn, 1)]
set_option maxRecDepth 1000000 in
theorem eX11_fit : ∀ q ∈ kX11_fit, decode cX11_fit q.1 = .ok q.2 := by decide +kernel
def kX11_sure : Ci_t := [(0, .aload_n 0, 1), (1, .iload_n 1, 1), (2, .iload_n 2, 1), (3, .iload_n 3, 1), (4, .iload 4, 2), (6, .i2l, 1), (7, .lconst 0, 1), (8, .lconst 1, 1), (9, .invokestatic 79, 3), (12, .invokevirtual 379, 3), (15, .istore 5, 2), (17, .iload 5, 2), (19, .ifCond .ge 6, 3), (22, .iload 5, 2), (24, .ireturn, 1), (25, .aload_n 0, 1), (26, .invokevirtual 96, 3), (29, .istore 6, 2), (31, .iconst 0, 1), (32, .istore 7, 2), (34, .iconst 0, 1), (35, .istore 8, 2), (37, .iload_n 2, 1), (38, .istore 9, 2), (40, .iload 9, 2), (42, .iload_n 3, 1), (43, .if_icmp .gt 47, 3), (46, .aload_n 0, 1), (47, .iload_n 1, 1), (48, .iload 9, 2), (50, .invokevirtual 376, 3), (53, .ifCond .ne 6, 3), (56, .goto 28, 3), (59, .iconst 1, 1), (60, .istore 8, 2), (62, .iload 6, 2), (64, .aload_n 0, 1), (65, .iload 9, 2), (67, .invokevirtual 286, 3), (70, .iand, 1), (71, .istore 6, 2), (73, .iload 7, 2), (75, .aload_n 0, 1), (76, .iload 9, 2), (78, .invokevirtual 286, 3), (81, .ior, 1), (82, .istore 7, 2), (84, .iinc 9 1, 3), (87, .goto (-47), 3), (90, .iload 8, 2), (92, .ifCond .ne 7, 3), (95, .iconst 0, 1), (96, .goto 15, 3), (99, .iload 4, 2), (101, .ifCond .ne 8, 3), (104, .iload 6, 2), (106, .goto 5, 3), (109, .iload 7, 2), (111, .ireturn, 1)]
set_option maxRecDepth 1000000 in
theorem eX11_sure : ∀ q ∈ kX11_sure, decode cX11_sure q.1 = .ok q.2 := by decide +kernel
def kX11_worstOf : Ci_t := [(0, .iconst 0, 1), (1, .istore 6, 2), (3, .iconst 0, 1), (4, .istore 7, 2), (6, .iload 7, 2), (8, .aload_n 0, 1), (9, .getfield 49, 3), (12, .arraylength, 1), (13, .if_icmp .ge 17, 3), (16, .aload_n 0, 1), (17, .getfield 49, 3), (20, .iload 7, 2), (22, .iconst 0, 1), (23, .iastore, 1), (24, .iinc 7 1, 3), (27, .goto (-21), 3), (30, .iload_n 2, 1), (31, .istore 7, 2), (33, .iload 7, 2), (35, .iload_n 3, 1), (36, .if_icmp .gt 61, 3), (39, .aload_n 0, 1), (40, .iload_n 1, 1), (41, .iload 7, 2), (43, .invokevirtual 376, 3), (46, .ifCond .ne 6, 3), (49, .goto 42, 3), (52, .aload_n 0, 1), (53, .iload 4, 2), (55, .iload 5, 2), (57, .iload 7, 2), (59, .invokevirtual 373, 3), (62, .iconst 1, 1), (63, .iadd, 1), (64, .istore 8, 2), (66, .aload_n 0, 1), (67, .getfield 49, 3), (70, .iload 8, 2), (72, .dup2, 1), (73, .iaload, 1), (74, .iconst 1, 1), (75, .iadd, 1), (76, .iastore, 1), (77, .iload 6, 2), (79, .aload_n 0, 1), (80, .getfield 49, 3), (83, .iload 8, 2), (85, .iaload, 1), (86, .invokestatic 321, 3), (89, .istore 6, 2), (91, .iinc 7 1, 3), (94, .goto (-61), 3), (97, .iload 6, 2), (99, .ireturn, 1)]
set_option maxRecDepth 1000000 in
theorem eX11_worstOf : ∀ q ∈ kX11_worstOf, decode cX11_worstOf q.1 = .ok q.2 := by decide +kernel
def kX11_askOf : Ci_t := [(0, .aload_n 0, 1), (1, .aload_n 0, 1), (2, .iload_n 1, 1), (3, .iload_n 2, 1), (4, .iload_n 3, 1), (5, .invokevirtual 383, 3), (8, .putfield 386, 3), (11, .iconst (-1), 1), (12, .istore 4, 2), (14, .iconst 0, 1), (15, .istore 5, 2), (17, .iload 5, 2), (19, .aload_n 0, 1), (20, .getfield 9, 3), (23, .iconst 1, 1), (24, .iaload, 1), (25, .if_icmp .ge 77, 3), (28, .iconst 1, 1), (29, .istore 6, 2), (31, .iload 6, 2), (33, .iconst 4, 1), (34, .if_icmp .gt 62, 3), (37, .iload 6, 2), (39, .iconst 2, 1), (40, .if_icmp .ne 9, 3), (43, .ldc_w 370, 3), (46, .goto 14, 3), (49, .aload_n 0, 1), (50, .iload_n 1, 1), (51, .iload_n 2, 1), (52, .iload_n 3, 1), (53, .iload 5, 2), (55, .iload 6, 2), (57, .invokevirtual 389, 3), (60, .istore 7, 2), (62, .iload 7, 2), (64, .aload_n 0, 1), (65, .getfield 386, 3), (68, .if_icmp .lt 6, 3), (71, .goto 19, 3), (74, .aload_n 0, 1), (75, .iload 7, 2), (77, .putfield 386, 3), (80, .bipush 10, 2), (82, .iload 5, 2), (84, .imul, 1), (85, .iload 6, 2), (87, .iadd, 1), (88, .istore 4, 2), (90, .iinc 6 1, 3), (93, .goto (-62), 3), (96, .iinc 5 1, 3), (99, .goto (-82), 3), (102, .iload 4, 2), (104, .ireturn, 1)]
set_option maxRecDepth 1000000 in
theorem eX11_askOf : ∀ q ∈ kX11_askOf, decode cX11_askOf q.1 = .ok q.2 := by decide +kernel
def kX11_ask : Ci_t := [(0, .aload_n 0, 1), (1, .iload_n 1, 1), (2, .iload_n 2, 1), (3, .iload_n 3, 1), (4, .iconst 1, 1), (5, .invokevirtual 379, 3), (8, .istore 4, 2), (10, .iload 4, 2), (12, .ifCond .ge 8, 3), (15, .iload 4, 2), (17, .goto 10, 3), (20, .aload_n 0, 1), (21, .iload_n 1, 1), (22, .iload_n 2, 1), (23, .iload_n 3, 1), (24, .invokevirtual 393, 3), (27, .ireturn, 1)]
set_option maxRecDepth 1000000 in
theorem eX11_ask : ∀ q ∈ kX11_ask, decode cX11_ask q.1 = .ok q.2 := by decide +kernel
def kX11_leaves : Ci_t := [(0, .aload_n 0, 1), (1, .iload_n 1, 1), (2, .iload_n 2, 1), (3, .iload_n 3, 1), (4, .iconst 1, 1), (5, .invokevirtual 379, 3), (8, .istore 4, 2), (10, .iload 4, 2), (12, .ifCond .ge 6, 3), (15, .iload 4, 2), (17, .ireturn, 1), (18, .aload_n 0, 1), (19, .iload_n 1, 1), (20, .iload_n 2, 1), (21, .iload_n 3, 1), (22, .invokevirtual 393, 3), (25, .pop, 1), (26, .aload_n 0, 1), (27, .getfield 386, 3), (30, .ireturn, 1)]
set_option maxRecDepth 1000000 in
theorem eX11_leaves : ∀ q ∈ kX11_leaves, decode cX11_leaves q.1 = .ok q.2 := by decide +kernel
def kX11_holdOn : Ci_t := [(0, .iconst 0, 1), (1, .istore_n 2, 1), (2, .iconst 0, 1), (3, .istore_n 3, 1), (4, .iload_n 3, 1), (5, .aload_n 0, 1), (6, .getfield 9, 3), (9, .iconst 3, 1), (10, .iaload, 1), (11, .if_icmp .ge 39, 3), (14, .iload_n 2, 1), (15, .iload_n 1, 1), (16, .i2l, 1), (17, .aload_n 0, 1), (18, .iload_n 3, 1), (19, .iconst 1, 1), (20, .invokevirtual 245, 3), (23, .i2l, 1), (24, .aload_n 0, 1), (25, .iload_n 3, 1), (26, .iconst 2, 1), (27, .invokevirtual 245, 3), (30, .i2l, 1), (31, .invokestatic 79, 3), (34, .ifCond .eq 7, 3), (37, .iconst 1, 1), (38, .goto 4, 3), (41, .iconst 0, 1), (42, .iadd, 1), (43, .istore_n 2, 1), (44, .iinc 3 1, 3), (47, .goto (-43), 3), (50, .iload_n 2, 1), (51, .ireturn, 1)]
set_option maxRecDepth 1000000 in
theorem eX11_holdOn : ∀ q ∈ kX11_holdOn, decode cX11_holdOn q.1 = .ok q.2 := by decide +kernel
def kX11_holds : Ci_t := [(0, .aload_n 0, 1), (1, .invokevirtual 92, 3), (4, .ifCond .eq 19, 3), (7, .iload_n 1, 1), (8, .i2l, 1), (9, .invokestatic 89, 3), (12, .ifCond .eq 11, 3), (15, .aload_n 0, 1), (16, .iload_n 1, 1), (17, .invokevirtual 396, 3), (20, .goto 5, 3), (23, .bipush (-2), 2), (25, .ireturn, 1)]
set_option maxRecDepth 1000000 in
theorem eX11_holds : ∀ q ∈ kX11_holds, decode cX11_holds q.1 = .ok q.2 := by decide +kernel
def kX11_overlap : Ci_t := [(0, .aload_n 0, 1), (1, .invokevirtual 92, 3), (4, .ifCond .eq 16, 3), (7, .iload_n 1, 1), (8, .iconst 1, 1), (9, .if_icmp .lt 11, 3), (12, .iload_n 2, 1), (13, .i2l, 1), (14, .invokestatic 89, 3), (17, .ifCond .ne 6, 3), (20, .bipush (-2), 2), (22, .ireturn, 1), (23, .iload_n 2, 1), (24, .istore_n 3, 1), (25, .iload_n 3, 1), (26, .sipush 2000, 3), (29, .if_icmp .ge 20, 3), (32, .aload_n 0, 1), (33, .iload_n 3, 1), (34, .invokevirtual 396, 3), (37, .iload_n 1, 1), (38, .if_icmp .lt 5, 3), (41, .iload_n 3, 1), (42, .ireturn, 1), (43, .iinc 3 1, 3), (46, .goto (-21), 3), (49, .iconst (-1), 1), (50, .ireturn, 1)]
set_option maxRecDepth 1000000 in
theorem eX11_overlap : ∀ q ∈ kX11_overlap, decode cX11_overlap q.1 = .ok q.2 := by decide +kernel
def kX11_most : Ci_t := [(0, .aload_n 0, 1), (1, .invokevirtual 92, 3), (4, .ifCond .ne 6, 3), (7, .bipush (-2), 2), (9, .ireturn, 1), (10, .iconst 0, 1), (11, .istore_n 1, 1), (12, .iconst 0, 1), (13, .istore_n 2, 1), (14, .iload_n 2, 1), (15, .sipush 2000, 3), (18, .if_icmp .ge 19, 3), (21, .iload_n 1, 1), (22, .aload_n 0, 1), (23, .iload_n 2, 1), (24, .invokevirtual 396, 3), (27, .invokestatic 321, 3), (30, .istore_n 1, 1), (31, .iinc 2 1, 3), (34, .goto (-20), 3), (37, .iload_n 1, 1), (38, .ireturn, 1)]
set_option maxRecDepth 1000000 in
theorem eX11_most : ∀ q ∈ kX11_most, decode cX11_most q.1 = .ok q.2 := by decide +kernel
def kX11_ageOf : Ci_t := [(0, .iload_n 2, 1), (1, .iload_n 3, 1), (2, .if_icmp .gt 12, 3), (5, .aload_n 0, 1), (6, .iload_n 1, 1), (7, .iload_n 2, 1), (8, .invokevirtual 324, 3), (11, .ifCond .ne 5, 3), (14, .iconst (-1), 1), (15, .ireturn, 1), (16, .aload_n 0, 1), (17, .iload_n 1, 1), (18, .iload_n 3, 1), (19, .iconst 0, 1), (20, .invokevirtual 272, 3), (23, .aload_n 0, 1), (24, .iload_n 1, 1), (25, .iload_n 2, 1), (26, .iconst 0, 1), (27, .invokevirtual 272, 3), (30, .isub, 1), (31, .istore 4, 2), (33, .aload_n 0, 1), (34, .iload_n 1, 1), (35, .iload_n 3, 1), (36, .iconst 1, 1), (37, .invokevirtual 272, 3), (40, .aload_n 0, 1), (41, .iload_n 1, 1), (42, .iload_n 2, 1), (43, .iconst 1, 1), (44, .invokevirtual 272, 3), (47, .isub, 1), (48, .istore 5, 2), (50, .iload 5, 2), (52, .ifCond .lt 25, 3), (55, .iload 5, 2), (57, .ifCond .ne 24, 3), (60, .aload_n 0, 1), (61, .iload_n 1, 1), (62, .iload_n 3, 1), (63, .iconst 2, 1), (64, .invokevirtual 272, 3), (67, .aload_n 0, 1), (68, .iload_n 1, 1), (69, .iload_n 2, 1), (70, .iconst 2, 1), (71, .invokevirtual 272, 3), (74, .if_icmp .ge 7, 3), (77, .iconst 1, 1), (78, .goto 4, 3), (81, .iconst 0, 1), (82, .istore 6, 2), (84, .iload 6, 2), (86, .ifCond .eq 10, 3), (89, .iload 4, 2), (91, .iconst 1, 1), (92, .isub, 1), (93, .goto 5, 3), (96, .iload 4, 2), (98, .ireturn, 1)]
set_option maxRecDepth 1000000 in
theorem eX11_ageOf : ∀ q ∈ kX11_ageOf, decode cX11_ageOf q.1 = .ok q.2 := by decide +kernel
def kX11_age : Ci_t := [(0, .aload_n 0, 1), (1, .iload_n 1, 1), (2, .i2l, 1), (3, .invokevirtual 83, 3), (6, .ifCond .eq 19, 3), (9, .iload_n 2, 1), (10, .i2l, 1), (11, .invokestatic 89, 3), (14, .ifCond .eq 11, 3), (17, .iload_n 3, 1), (18, .i2l, 1), (19, .invokestatic 89, 3), (22, .ifCond .ne 6, 3), (25, .bipush (-2), 2), (27, .ireturn, 1), (28, .aload_n 0, 1), (29, .invokevirtual 269, 3), (32, .aload_n 0, 1), (33, .iload_n 1, 1), (34, .iload_n 2, 1), (35, .iload_n 3, 1), (36, .invokevirtual 399, 3), (39, .ireturn, 1)]
set_option maxRecDepth 1000000 in
theorem eX11_age : ∀ q ∈ kX11_age, decode cX11_age q.1 = .ok q.2 := by decide +kernel
def kX11_gains : Ci_t := [(0, .aload_n 0, 1), (1, .iload_n 1, 1), (2, .iload_n 2, 1), (3, .invokevirtual 315, 3), (6, .ifCond .eq 20, 3), (9, .iload_n 3, 1), (10, .i2l, 1), (11, .invokestatic 89, 3), (14, .ifCond .eq 12, 3), (17, .iload 4, 2), (19, .i2l, 1), (20, .invokestatic 89, 3), (23, .ifCond .ne 7, 3), (26, .sipush (-2000), 3), (29, .ireturn, 1), (30, .aload_n 0, 1), (31, .invokevirtual 269, 3), (34, .aload_n 0, 1), (35, .iload_n 1, 1), (36, .iload_n 3, 1), (37, .iload 4, 2), (39, .invokevirtual 399, 3), (42, .istore 5, 2), (44, .aload_n 0, 1), (45, .iload_n 2, 1), (46, .iload_n 3, 1), (47, .iload 4, 2), (49, .invokevirtual 399, 3), (52, .istore 6, 2), (54, .iload 5, 2), (56, .iconst (-1), 1), (57, .if_icmp .eq 9, 3), (60, .iload 6, 2), (62, .iconst (-1), 1), (63, .if_icmp .ne 9, 3), (66, .sipush (-1000), 3), (69, .goto 8, 3), (72, .iload 5, 2), (74, .iload 6, 2), (76, .isub, 1), (77, .ireturn, 1)]
set_option maxRecDepth 1000000 in
theorem eX11_gains : ∀ q ∈ kX11_gains, decode cX11_gains q.1 = .ok q.2 := by decide +kernel
def kX11_march : Ci_t := [(0, .aload_n 0, 1), (1, .iload_n 1, 1), (2, .i2l, 1), (3, .invokevirtual 83, 3), (6, .ifCond .eq 16, 3), (9, .iload_n 2, 1), (10, .i2l, 1), (11, .invokestatic 89, 3), (14, .ifCond .eq 8, 3), (17, .iload_n 3, 1), (18, .iconst 1, 1), (19, .if_icmp .ge 6, 3), (22, .bipush (-2), 2), (24, .ireturn, 1), (25, .aload_n 0, 1), (26, .invokevirtual 269, 3), (29, .iconst 0, 1), (30, .istore 4, 2), (32, .iload_n 2, 1), (33, .istore 5, 2), (35, .iload 5, 2), (37, .sipush 2000, 3), (40, .if_icmp .ge 38, 3), (43, .iload 4, 2), (45, .aload_n 0, 1), (46, .iload_n 1, 1), (47, .iload 5, 2), (49, .invokevirtual 254, 3), (52, .ifCond .eq 7, 3), (55, .iconst 1, 1), (56, .goto 4, 3), (59, .iconst 0, 1), (60, .iadd, 1), (61, .istore 4, 2), (63, .iload 4, 2), (65, .iload_n 3, 1), (66, .if_icmp .ne 6, 3), (69, .iload 5, 2), (71, .ireturn, 1), (72, .iinc 5 1, 3), (75, .goto (-40), 3), (78, .iconst (-1), 1), (79, .ireturn, 1)]
set_option maxRecDepth 1000000 in
theorem eX11_march : ∀ q ∈ kX11_march, decode cX11_march q.1 = .ok q.2 := by decide +kernel
def kX11_findClash : Ci_t := [(0, .aload_n 0, 1), (1, .invokevirtual 269, 3), (4, .aload_n 0, 1), (5, .iconst (-1), 1), (6, .putfield 402, 3), (9, .aload_n 0, 1), (10, .iconst (-1), 1), (11, .putfield 405, 3), (14, .iconst 0, 1), (15, .istore 5, 2), (17, .iconst 0, 1), (18, .istore 6, 2), (20, .iload_n 3, 1), (21, .istore 7, 2), (23, .iload 7, 2), (25, .sipush 2000, 3), (28, .if_icmp .ge 92, 3), (31, .iconst 0, 1), (32, .istore 8, 2), (34, .iload 8, 2), (36, .iconst 3, 1), (37, .if_icmp .ge 77, 3), (40, .iload 8, 2), (42, .iload_n 1, 1), (43, .if_icmp .eq 9, 3), (46, .iload 8, 2), (48, .iload_n 2, 1), (49, .if_icmp .ne 59, 3), (52, .aload_n 0, 1), (53, .iload 8, 2), (55, .iload 7, 2), (57, .invokevirtual 254, 3), (60, .ifCond .ne 6, 3), (63, .goto 45, 3), (66, .iinc 5 1, 3), (69, .iload 6, 2), (71, .iload 8, 2), (73, .iload_n 1, 1), (74, .if_icmp .ne 7, 3), (77, .iconst 1, 1), (78, .goto 4, 3), (81, .iconst 0, 1), (82, .iadd, 1), (83, .istore 6, 2), (85, .iload 5, 2), (87, .iload 4, 2), (89, .if_icmp .ge 6, 3), (92, .goto 16, 3), (95, .aload_n 0, 1), (96, .iload 7, 2), (98, .putfield 402, 3), (101, .aload_n 0, 1), (102, .iload 6, 2), (104, .putfield 405, 3), (107, .return_, 1), (108, .iinc 8 1, 3), (111, .goto (-77), 3), (114, .iinc 7 1, 3), (117, .goto (-94), 3), (120, .return_, 1)]
set_option maxRecDepth 1000000 in
theorem eX11_findClash : ∀ q ∈ kX11_findClash, decode cX11_findClash q.1 = .ok q.2 := by decide +kernel
def kX11_isClash : Ci_t := [(0, .aload_n 0, 1), (1, .iload_n 1, 1), (2, .iload_n 2, 1), (3, .invokevirtual 315, 3), (6, .ifCond .eq 21, 3), (9, .iload_n 3, 1), (10, .i2l, 1), (11, .invokestatic 89, 3), (14, .ifCond .eq 13, 3), (17, .iload 4, 2), (19, .iconst 1, 1), (20, .if_icmp .lt 7, 3), (23, .iconst 1, 1), (24, .goto 4, 3), (27, .iconst 0, 1), (28, .ireturn, 1)]
set_option maxRecDepth 1000000 in
theorem eX11_isClash : ∀ q ∈ kX11_isClash, decode cX11_isClash q.1 = .ok q.2 := by decide +kernel
def kX11_clash : Ci_t := [(0, .aload_n 0, 1), (1, .iload_n 1, 1), (2, .iload_n 2, 1), (3, .iload_n 3, 1), (4, .iload 4, 2), (6, .invokevirtual 408, 3), (9, .ifCond .ne 6, 3), (12, .bipush (-2), 2), (14, .ireturn, 1), (15, .aload_n 0, 1), (16, .iload_n 1, 1), (17, .iload_n 2, 1), (18, .iload_n 3, 1), (19, .iload 4, 2), (21, .invokevirtual 412, 3), (24, .aload_n 0, 1), (25, .getfield 402, 3), (28, .ireturn, 1)]
set_option maxRecDepth 1000000 in
theorem eX11_clash : ∀ q ∈ kX11_clash, decode cX11_clash q.1 = .ok q.2 := by decide +kernel
def kX11_place : Ci_t := [(0, .aload_n 0, 1), (1, .iload_n 1, 1), (2, .iload_n 2, 1), (3, .iload_n 3, 1), (4, .iload 4, 2), (6, .invokevirtual 408, 3), (9, .ifCond .ne 6, 3), (12, .bipush (-2), 2), (14, .ireturn, 1), (15, .aload_n 0, 1), (16, .iload_n 1, 1), (17, .iload_n 2, 1), (18, .iload_n 3, 1), (19, .iload 4, 2), (21, .invokevirtual 412, 3), (24, .aload_n 0, 1), (25, .getfield 405, 3), (28, .ireturn, 1)]
set_option maxRecDepth 1000000 in
theorem eX11_place : ∀ q ∈ kX11_place, decode cX11_place q.1 = .ok q.2 := by decide +kernel
def kX11_aloneOf : Ci_t := [(0, .iconst 0, 1), (1, .istore 5, 2), (3, .iload_n 3, 1), (4, .istore 6, 2), (6, .iload 6, 2), (8, .iload 4, 2), (10, .if_icmp .gt 47, 3), (13, .iload 6, 2), (15, .sipush 2000, 3), (18, .if_icmp .ge 39, 3), (21, .iload 5, 2), (23, .aload_n 0, 1), (24, .iload_n 1, 1), (25, .iload 6, 2), (27, .invokevirtual 254, 3), (30, .ifCond .eq 17, 3), (33, .aload_n 0, 1), (34, .iload_n 2, 1), (35, .iload 6, 2), (37, .invokevirtual 254, 3), (40, .ifCond .ne 7, 3), (43, .iconst 1, 1), (44, .goto 4, 3), (47, .iconst 0, 1), (48, .iadd, 1), (49, .istore 5, 2), (51, .iinc 6 1, 3), (54, .goto (-48), 3), (57, .iload 5, 2), (59, .ireturn, 1)]
set_option maxRecDepth 1000000 in
theorem eX11_aloneOf : ∀ q ∈ kX11_aloneOf, decode cX11_aloneOf q.1 = .ok q.2 := by decide +kernel
def kX11_alone : Ci_t := [(0, .aload_n 0, 1), (1, .iload_n 1, 1), (2, .iload_n 2, 1), (3, .invokevirtual 315, 3), (6, .ifCond .eq 12, 3), (9, .iload_n 3, 1), (10, .iload 4, 2), (12, .invokestatic 296, 3), (15, .ifCond .ne 6, 3), (18, .bipush (-2), 2), (20, .ireturn, 1), (21, .aload_n 0, 1), (22, .invokevirtual 269, 3), (25, .aload_n 0, 1), (26, .iload_n 1, 1), (27, .iload_n 2, 1), (28, .iload_n 3, 1), (29, .iload 4, 2), (31, .invokevirtual 415, 3), (34, .ireturn, 1)]
set_option maxRecDepth 1000000 in
theorem eX11_alone : ∀ q ∈ kX11_alone, decode cX11_alone q.1 = .ok q.2 := by decide +kernel
def kX11_beginOf : Ci_t := [(0, .aload_n 0, 1), (1, .invokevirtual 269, 3), (4, .iload_n 3, 1), (5, .istore 6, 2), (7, .aload_n 0, 1), (8, .aload_n 0, 1), (9, .iload_n 1, 1), (10, .iload_n 2, 1), (11, .iload_n 3, 1), (12, .iload_n 3, 1), (13, .iload 5, 2), (15, .iadd, 1), (16, .iconst 1, 1), (17, .isub, 1), (18, .invokevirtual 415, 3), (21, .putfield 418, 3), (24, .aload_n 0, 1), (25, .getfield 418, 3), (28, .istore 7, 2), (30, .iload_n 3, 1), (31, .iconst 1, 1), (32, .iadd, 1), (33, .istore 8, 2), (35, .iload 8, 2), (37, .iload 4, 2), (39, .if_icmp .gt 71, 3), (42, .iload 7, 2), (44, .aload_n 0, 1), (45, .iload_n 1, 1), (46, .iload_n 2, 1), (47, .iload 8, 2), (49, .iload 5, 2), (51, .iadd, 1), (52, .iconst 1, 1), (53, .isub, 1), (54, .iload 8, 2), (56, .iload 5, 2), (58, .iadd, 1), (59, .iconst 1, 1), (60, .isub, 1), (61, .invokevirtual 415, 3), (64, .aload_n 0, 1), (65, .iload_n 1, 1), (66, .iload_n 2, 1), (67, .iload 8, 2), (69, .iconst 1, 1), (70, .isub, 1), (71, .iload 8, 2), (73, .iconst 1, 1), (74, .isub, 1), (75, .invokevirtual 415, 3), (78, .isub, 1), (79, .iadd, 1), (80, .istore 7, 2), (82, .iload 7, 2), (84, .aload_n 0, 1), (85, .getfield 418, 3), (88, .if_icmp .gt 6, 3), (91, .goto 13, 3), (94, .aload_n 0, 1), (95, .iload 7, 2), (97, .putfield 418, 3), (100, .iload 8, 2), (102, .istore 6, 2), (104, .iinc 8 1, 3), (107, .goto (-72), 3), (110, .iload 6, 2), (112, .ireturn, 1)]
set_option maxRecDepth 1000000 in
theorem eX11_beginOf : ∀ q ∈ kX11_beginOf, decode cX11_beginOf q.1 = .ok q.2 := by decide +kernel
def kX11_isBegin : Ci_t := [(0, .aload_n 0, 1), (1, .iload_n 1, 1), (2, .iload_n 2, 1), (3, .invokevirtual 315, 3), (6, .ifCond .eq 29, 3), (9, .iload_n 3, 1), (10, .iload 4, 2), (12, .invokestatic 296, 3), (15, .ifCond .eq 20, 3), (18, .iload 5, 2), (20, .i2l, 1), (21, .lconst 1, 1), (22, .ldc2_w 421, 3), (25, .invokestatic 79, 3), (28, .ifCond .eq 7, 3), (31, .iconst 1, 1), (32, .goto 4, 3), (35, .iconst 0, 1), (36, .ireturn, 1)]
set_option maxRecDepth 1000000 in
theorem eX11_isBegin : ∀ q ∈ kX11_isBegin, decode cX11_isBegin q.1 = .ok q.2 := by decide +kernel
def kX11_begin : Ci_t := [(0, .aload_n 0, 1), (1, .iload_n 1, 1), (2, .iload_n 2, 1), (3, .iload_n 3, 1), (4, .iload 4, 2), (6, .iload 5, 2), (8, .invokevirtual 423, 3), (11, .ifCond .eq 17, 3), (14, .aload_n 0, 1), (15, .iload_n 1, 1), (16, .iload_n 2, 1), (17, .iload_n 3, 1), (18, .iload 4, 2), (20, .iload 5, 2), (22, .invokevirtual 426, 3), (25, .goto 5, 3), (28, .bipush (-2), 2), (30, .ireturn, 1)]
set_option maxRecDepth 1000000 in
theorem eX11_begin : ∀ q ∈ kX11_begin, decode cX11_begin q.1 = .ok q.2 := by decide +kernel
def kX11_begins : Ci_t := [(0, .aload_n 0, 1), (1, .iload_n 1, 1), (2, .iload_n 2, 1), (3, .iload_n 3, 1), (4, .iload 4, 2), (6, .iload 5, 2), (8, .invokevirtual 423, 3), (11, .ifCond .ne 6, 3), (14, .bipush (-2), 2), (16, .ireturn, 1), (17, .aload_n 0, 1), (18, .iload_n 1, 1), (19, .iload_n 2, 1), (20, .iload_n 3, 1), (21, .iload 4, 2), (23, .iload 5, 2), (25, .invokevirtual 426, 3), (28, .pop, 1), (29, .aload_n 0, 1), (30, .getfield 418, 3), (33, .ireturn, 1)]
set_option maxRecDepth 1000000 in
theorem eX11_begins : ∀ q ∈ kX11_begins, decode cX11_begins q.1 = .ok q.2 := by decide +kernel
def kX11_rank : Ci_t := [(0, .iload_n 1, 1), (1, .iload_n 0, 1), (2, .if_icmp .ne 7, 3), (5, .iconst 2, 1), (6, .goto 13, 3), (9, .iload_n 1, 1), (10, .iconst (-1), 1), (11, .if_icmp .ne 7, 3), (14, .iconst 1, 1), (15, .goto 4, 3), (18, .iconst 0, 1), (19, .ireturn, 1)]
set_option maxRecDepth 1000000 in
theorem eX11_rank : ∀ q ∈ kX11_rank, decode cX11_rank q.1 = .ok q.2 := by decide +kernel
def kX11_behind : Ci_t := [(0, .iload_n 2, 1), (1, .iload_n 1, 1), (2, .if_icmp .ne 7, 3), (5, .iload_n 0, 1), (6, .goto 8, 3), (9, .aload_n 3, 1), (10, .iload_n 1, 1), (11, .iload_n 2, 1), (12, .isub, 1), (13, .iaload, 1), (14, .ireturn, 1)]
set_option maxRecDepth 1000000 in
theorem eX11_behind : ∀ q ∈ kX11_behind, decode cX11_behind q.1 = .ok q.2 := by decide +kernel
def kX11_bestTake : Ci_t := [(0, .iload_n 1, 1), (1, .iconst 1, 1), (2, .if_icmp .ne 5, 3), (5, .iconst 1, 1), (6, .ireturn, 1), (7, .iload_n 0, 1), (8, .iload_n 0, 1), (9, .iload_n 1, 1), (10, .iconst 2, 1), (11, .aload_n 2, 1), (12, .invokestatic 429, 3), (15, .invokestatic 433, 3), (18, .iload_n 0, 1), (19, .iload_n 0, 1), (20, .iload_n 1, 1), (21, .iconst 1, 1), (22, .aload_n 2, 1), (23, .invokestatic 429, 3), (26, .invokestatic 433, 3), (29, .if_icmp .le 7, 3), (32, .iconst 2, 1), (33, .goto 4, 3), (36, .iconst 1, 1), (37, .ireturn, 1)]
set_option maxRecDepth 1000000 in
theorem eX11_bestTake : ∀ q ∈ kX11_bestTake, decode cX11_bestTake q.1 = .ok q.2 := by decide +kernel
def kX11_turn : Ci_t := [(0, .iconst 1, 1), (1, .istore_n 3, 1), (2, .iload_n 3, 1), (3, .bipush 40, 2), (5, .if_icmp .gt 24, 3), (8, .aload_n 2, 1), (9, .iload_n 3, 1), (10, .iload_n 0, 1), (11, .iload_n 3, 1), (12, .iload_n 0, 1), (13, .iload_n 3, 1), (14, .aload_n 1, 1), (15, .invokestatic 436, 3), (18, .aload_n 1, 1), (19, .invokestatic 429, 3), (22, .iastore, 1), (23, .iinc 3 1, 3), (26, .goto (-24), 3), (29, .return_, 1)]
set_option maxRecDepth 1000000 in
theorem eX11_turn : ∀ q ∈ kX11_turn, decode cX11_turn q.1 = .ok q.2 := by decide +kernel
def kX11_copy : Ci_t := [(0, .iconst 1, 1), (1, .istore_n 3, 1), (2, .iload_n 3, 1), (3, .bipush 40, 2), (5, .if_icmp .gt 15, 3), (8, .aload_n 2, 1), (9, .iload_n 3, 1), (10, .aload_n 1, 1), (11, .iload_n 3, 1), (12, .iaload, 1), (13, .iastore, 1), (14, .iinc 3 1, 3), (17, .goto (-15), 3), (20, .return_, 1)]
set_option maxRecDepth 1000000 in
theorem eX11_copy : ∀ q ∈ kX11_copy, decode cX11_copy q.1 = .ok q.2 := by decide +kernel
def kX11_play : Ci_t := [(0, .iload_n 1, 1), (1, .iload_n 2, 1), (2, .invokestatic 139, 3), (5, .istore 4, 2), (7, .iload_n 1, 1), (8, .iload_n 2, 1), (9, .invokestatic 321, 3), (12, .istore 5, 2), (14, .iconst 1, 1), (15, .istore 6, 2), (17, .iload 6, 2), (19, .bipush 40, 2), (21, .if_icmp .gt 17, 3), (24, .aload_n 0, 1), (25, .getfield 52, 3), (28, .iload 6, 2), (30, .iconst (-1), 1), (31, .iastore, 1), (32, .iinc 6 1, 3), (35, .goto (-18), 3), (38, .sipush 1999, 3), (41, .istore 6, 2), (43, .iload 6, 2), (45, .iload_n 3, 1), (46, .if_icmp .lt 93, 3), (49, .aload_n 0, 1), (50, .aload_n 0, 1), (51, .getfield 52, 3), (54, .aload_n 0, 1), (55, .getfield 55, 3), (58, .invokevirtual 440, 3), (61, .aload_n 0, 1), (62, .iload 5, 2), (64, .iload 6, 2), (66, .invokevirtual 254, 3), (69, .ifCond .eq 16, 3), (72, .iload 5, 2), (74, .aload_n 0, 1), (75, .getfield 52, 3), (78, .aload_n 0, 1), (79, .getfield 55, 3), (82, .invokestatic 444, 3), (85, .aload_n 0, 1), (86, .aload_n 0, 1), (87, .getfield 55, 3), (90, .aload_n 0, 1), (91, .getfield 58, 3), (94, .invokevirtual 440, 3), (97, .aload_n 0, 1), (98, .iload 4, 2), (100, .iload 6, 2), (102, .invokevirtual 254, 3), (105, .ifCond .eq 16, 3), (108, .iload 4, 2), (110, .aload_n 0, 1), (111, .getfield 55, 3), (114, .aload_n 0, 1), (115, .getfield 58, 3), (118, .invokestatic 444, 3), (121, .aload_n 0, 1), (122, .aload_n 0, 1), (123, .getfield 58, 3), (126, .aload_n 0, 1), (127, .getfield 52, 3), (130, .invokevirtual 440, 3), (133, .iinc 6 (-1), 3), (136, .goto (-93), 3), (139, .return_, 1)]
set_option maxRecDepth 1000000 in
theorem eX11_play : ∀ q ∈ kX11_play, decode cX11_play q.1 = .ok q.2 := by decide +kernel
def kX11_isGame : Ci_t := [(0, .aload_n 0, 1), (1, .iload_n 1, 1), (2, .iload_n 2, 1), (3, .invokevirtual 315, 3), (6, .ifCond .eq 28, 3), (9, .iload_n 3, 1), (10, .i2l, 1), (11, .invokestatic 89, 3), (14, .ifCond .eq 20, 3), (17, .iload 4, 2), (19, .i2l, 1), (20, .lconst 1, 1), (21, .ldc2_w 448, 3), (24, .invokestatic 79, 3), (27, .ifCond .eq 7, 3), (30, .iconst 1, 1), (31, .goto 4, 3), (34, .iconst 0, 1), (35, .ireturn, 1)]
set_option maxRecDepth 1000000 in
theorem eX11_isGame : ∀ q ∈ kX11_isGame, decode cX11_isGame q.1 = .ok q.2 := by decide +kernel
def kX11_game : Ci_t := [(0, .aload_n 0, 1), (1, .iload_n 1, 1), (2, .iload_n 2, 1), (3, .iload_n 3, 1), (4, .iload 4, 2), (6, .invokevirtual 450, 3), (9, .ifCond .ne 6, 3), (12, .bipush (-2), 2), (14, .ireturn, 1), (15, .aload_n 0, 1), (16, .invokevirtual 269, 3), (19, .aload_n 0, 1), (20, .iload_n 1, 1), (21, .iload_n 2, 1), (22, .iload_n 3, 1), (23, .invokevirtual 453, 3), (26, .aload_n 0, 1), (27, .getfield 52, 3), (30, .iload 4, 2), (32, .iaload, 1), (33, .ireturn, 1)]
set_option maxRecDepth 1000000 in
theorem eX11_game : ∀ q ∈ kX11_game, decode cX11_game q.1 = .ok q.2 := by decide +kernel
def kX11_takes_ : Ci_t := [(0, .aload_n 0, 1), (1, .iload_n 1, 1), (2, .iload_n 2, 1), (3, .iload_n 3, 1), (4, .iload 4, 2), (6, .invokevirtual 450, 3), (9, .ifCond .ne 6, 3), (12, .bipush (-2), 2), (14, .ireturn, 1), (15, .aload_n 0, 1), (16, .invokevirtual 269, 3), (19, .iload_n 3, 1), (20, .istore 5, 2), (22, .iload 5, 2), (24, .sipush 2000, 3), (27, .if_icmp .ge 29, 3), (30, .aload_n 0, 1), (31, .iload_n 1, 1), (32, .iload 5, 2), (34, .invokevirtual 254, 3), (37, .ifCond .ne 19, 3), (40, .aload_n 0, 1), (41, .iload_n 2, 1), (42, .iload 5, 2), (44, .invokevirtual 254, 3), (47, .ifCond .ne 9, 3), (50, .iinc 5 1, 3), (53, .goto (-31), 3), (56, .iload 5, 2), (58, .sipush 2000, 3), (61, .if_icmp .ne 5, 3), (64, .iconst 0, 1), (65, .ireturn, 1), (66, .aload_n 0, 1), (67, .iload_n 1, 1), (68, .iload_n 2, 1), (69, .iload 5, 2), (71, .iconst 1, 1), (72, .iadd, 1), (73, .invokevirtual 453, 3), (76, .iload_n 1, 1), (77, .iload_n 2, 1), (78, .invokestatic 139, 3), (81, .istore 6, 2), (83, .iload_n 1, 1), (84, .iload_n 2, 1), (85, .invokestatic 321, 3), (88, .istore 7, 2), (90, .aload_n 0, 1), (91, .iload 6, 2), (93, .iload 5, 2), (95, .invokevirtual 254, 3), (98, .ifCond .ne 15, 3), (101, .iload 7, 2), (103, .iload 4, 2), (105, .aload_n 0, 1), (106, .getfield 52, 3), (109, .invokestatic 436, 3), (112, .ireturn, 1), (113, .aload_n 0, 1), (114, .aload_n 0, 1), (115, .getfield 52, 3), (118, .aload_n 0, 1), (119, .getfield 55, 3), (122, .invokevirtual 440, 3), (125, .aload_n 0, 1), (126, .iload 7, 2), (128, .iload 5, 2), (130, .invokevirtual 254, 3), (133, .ifCond .eq 16, 3), (136, .iload 7, 2), (138, .aload_n 0, 1), (139, .getfield 52, 3), (142, .aload_n 0, 1), (143, .getfield 55, 3), (146, .invokestatic 444, 3), (149, .iload 6, 2), (151, .iload 4, 2), (153, .aload_n 0, 1), (154, .getfield 55, 3), (157, .invokestatic 436, 3), (160, .ireturn, 1)]
set_option maxRecDepth 1000000 in
theorem eX11_takes_ : ∀ q ∈ kX11_takes_, decode cX11_takes_ q.1 = .ok q.2 := by decide +kernel
def kX11_keepChange : Ci_t := [(0, .sipush 135, 3), (3, .bipush 6, 2), (5, .aload_n 0, 1), (6, .getfield 9, 3), (9, .iconst 5, 1), (10, .iaload, 1), (11, .imul, 1), (12, .iadd, 1), (13, .istore_n 3, 1), (14, .aload_n 0, 1), (15, .getfield 9, 3), (18, .iload_n 3, 1), (19, .iload_n 1, 1), (20, .iastore, 1), (21, .aload_n 0, 1), (22, .getfield 9, 3), (25, .iload_n 3, 1), (26, .iconst 1, 1), (27, .iadd, 1), (28, .iload_n 2, 1), (29, .iastore, 1), (30, .iconst 0, 1), (31, .istore 4, 2), (33, .iload 4, 2), (35, .iconst 4, 1), (36, .if_icmp .ge 36, 3), (39, .aload_n 0, 1), (40, .getfield 9, 3), (43, .iload_n 3, 1), (44, .iconst 2, 1), (45, .iadd, 1), (46, .iload 4, 2), (48, .iadd, 1), (49, .iload_n 1, 1), (50, .iconst 2, 1), (51, .if_icmp .ne 13, 3), (54, .aload_n 0, 1), (55, .iload_n 2, 1), (56, .iload 4, 2), (58, .invokevirtual 242, 3), (61, .goto 4, 3), (64, .iconst 0, 1), (65, .iastore, 1), (66, .iinc 4 1, 3), (69, .goto (-36), 3), (72, .aload_n 0, 1), (73, .getfield 9, 3), (76, .iconst 5, 1), (77, .dup2, 1), (78, .iaload, 1), (79, .iconst 1, 1), (80, .iadd, 1), (81, .iastore, 1), (82, .return_, 1)]
set_option maxRecDepth 1000000 in
theorem eX11_keepChange : ∀ q ∈ kX11_keepChange, decode cX11_keepChange q.1 = .ok q.2 := by decide +kernel
def kX11_found : Ci_t := [(0, .aload_n 0, 1), (1, .iload_n 1, 1), (2, .i2l, 1), (3, .invokevirtual 83, 3), (6, .ifCond .eq 47, 3), (9, .aload_n 0, 1), (10, .iload_n 1, 1), (11, .iload_n 2, 1), (12, .i2l, 1), (13, .invokevirtual 260, 3), (16, .ifCond .eq 37, 3), (19, .iload_n 3, 1), (20, .i2l, 1), (21, .lconst 0, 1), (22, .aload_n 0, 1), (23, .iload_n 1, 1), (24, .bipush 7, 2), (26, .iload_n 2, 1), (27, .iadd, 1), (28, .invokevirtual 100, 3), (31, .iconst 1, 1), (32, .isub, 1), (33, .i2l, 1), (34, .invokestatic 79, 3), (37, .ifCond .eq 16, 3), (40, .iload 4, 2), (42, .i2l, 1), (43, .lconst 1, 1), (44, .ldc2_w 338, 3), (47, .invokestatic 79, 3), (50, .ifCond .ne 6, 3), (53, .bipush (-2), 2), (55, .ireturn, 1), (56, .aload_n 0, 1), (57, .getfield 9, 3), (60, .iconst 2, 1), (61, .iaload, 1), (62, .bipush 12, 2), (64, .if_icmp .eq 14, 3), (67, .aload_n 0, 1), (68, .getfield 9, 3), (71, .iconst 5, 1), (72, .iaload, 1), (73, .bipush 60, 2), (75, .if_icmp .ne 6, 3), (78, .bipush (-3), 2), (80, .ireturn, 1), (81, .bipush 51, 2), (83, .iconst 4, 1), (84, .aload_n 0, 1), (85, .getfield 9, 3), (88, .iconst 2, 1), (89, .iaload, 1), (90, .imul, 1), (91, .iadd, 1), (92, .istore 5, 2), (94, .aload_n 0, 1), (95, .iconst 0, 1), (96, .aload_n 0, 1), (97, .getfield 9, 3), (100, .iconst 2, 1), (101, .iaload, 1), (102, .invokevirtual 456, 3), (105, .aload_n 0, 1), (106, .getfield 9, 3), (109, .iload 5, 2), (111, .iload_n 1, 1), (112, .iastore, 1), (113, .aload_n 0, 1), (114, .getfield 9, 3), (117, .iload 5, 2), (119, .iconst 1, 1), (120, .iadd, 1), (121, .iload_n 2, 1), (122, .iastore, 1), (123, .aload_n 0, 1), (124, .getfield 9, 3), (127, .iload 5, 2), (129, .iconst 2, 1), (130, .iadd, 1), (131, .iload_n 3, 1), (132, .iastore, 1), (133, .aload_n 0, 1), (134, .getfield 9, 3), (137, .iload 5, 2), (139, .iconst 3, 1), (140, .iadd, 1), (141, .iload 4, 2), (143, .iastore, 1), (144, .aload_n 0, 1), (145, .getfield 9, 3), (148, .iconst 2, 1), (149, .dup2, 1), (150, .iaload, 1), (151, .iconst 1, 1), (152, .iadd, 1), (153, .iastore, 1), (154, .aload_n 0, 1), (155, .getfield 9, 3), (158, .iconst 2, 1), (159, .iaload, 1), (160, .iconst 1, 1), (161, .isub, 1), (162, .ireturn, 1)]
set_option maxRecDepth 1000000 in
theorem eX11_found : ∀ q ∈ kX11_found, decode cX11_found q.1 = .ok q.2 := by decide +kernel
def kX11_grant : Ci_t := [(0, .aload_n 0, 1), (1, .iload_n 1, 1), (2, .i2l, 1), (3, .invokevirtual 83, 3), (6, .ifCond .eq 11, 3), (9, .iload_n 2, 1), (10, .iload_n 3, 1), (11, .invokestatic 296, 3), (14, .ifCond .ne 6, 3), (17, .bipush (-2), 2), (19, .ireturn, 1), (20, .aload_n 0, 1), (21, .getfield 9, 3), (24, .iconst 3, 1), (25, .iaload, 1), (26, .bipush 12, 2), (28, .if_icmp .eq 14, 3), (31, .aload_n 0, 1), (32, .getfield 9, 3), (35, .iconst 5, 1), (36, .iaload, 1), (37, .bipush 60, 2), (39, .if_icmp .ne 6, 3), (42, .bipush (-3), 2), (44, .ireturn, 1), (45, .bipush 99, 2), (47, .iconst 3, 1), (48, .aload_n 0, 1), (49, .getfield 9, 3), (52, .iconst 3, 1), (53, .iaload, 1), (54, .imul, 1), (55, .iadd, 1), (56, .istore 4, 2), (58, .aload_n 0, 1), (59, .iconst 1, 1), (60, .aload_n 0, 1), (61, .getfield 9, 3), (64, .iconst 3, 1), (65, .iaload, 1), (66, .invokevirtual 456, 3), (69, .aload_n 0, 1), (70, .getfield 9, 3), (73, .iload 4, 2), (75, .iload_n 1, 1), (76, .iastore, 1), (77, .aload_n 0, 1), (78, .getfield 9, 3), (81, .iload 4, 2), (83, .iconst 1, 1), (84, .iadd, 1), (85, .iload_n 2, 1), (86, .iastore, 1), (87, .aload_n 0, 1), (88, .getfield 9, 3), (91, .iload 4, 2), (93, .iconst 2, 1), (94, .iadd, 1), (95, .iload_n 3, 1), (96, .iastore, 1), (97, .aload_n 0, 1), (98, .getfield 9, 3), (101, .iconst 3, 1), (102, .dup2, 1), (103, .iaload, 1), (104, .iconst 1, 1), (105, .iadd, 1), (106, .iastore, 1), (107, .aload_n 0, 1), (108, .getfield 9, 3), (111, .iconst 3, 1), (112, .iaload, 1), (113, .iconst 1, 1), (114, .isub, 1), (115, .ireturn, 1)]
set_option maxRecDepth 1000000 in
theorem eX11_grant : ∀ q ∈ kX11_grant, decode cX11_grant q.1 = .ok q.2 := by decide +kernel
def kX11_ends : Ci_t := [(0, .aload_n 0, 1), (1, .iload_n 1, 1), (2, .i2l, 1), (3, .invokevirtual 83, 3), (6, .ifCond .ne 6, 3), (9, .bipush (-2), 2), (11, .ireturn, 1), (12, .aload_n 0, 1), (13, .getfield 9, 3), (16, .iconst 2, 1), (17, .iaload, 1), (18, .iconst 1, 1), (19, .isub, 1), (20, .istore_n 2, 1), (21, .iload_n 2, 1), (22, .ifCond .lt 19, 3), (25, .aload_n 0, 1), (26, .iload_n 2, 1), (27, .iconst 0, 1), (28, .invokevirtual 242, 3), (31, .iload_n 1, 1), (32, .if_icmp .eq 9, 3), (35, .iinc 2 (-1), 3), (38, .goto (-17), 3), (41, .iload_n 2, 1), (42, .ifCond .ge 6, 3), (45, .bipush (-5), 2), (47, .ireturn, 1), (48, .aload_n 0, 1), (49, .getfield 9, 3), (52, .iconst 5, 1), (53, .iaload, 1), (54, .bipush 60, 2), (56, .if_icmp .ne 6, 3), (59, .bipush (-3), 2), (61, .ireturn, 1), (62, .aload_n 0, 1), (63, .iconst 2, 1), (64, .iload_n 2, 1), (65, .invokevirtual 456, 3), (68, .aload_n 0, 1), (69, .getfield 9, 3), (72, .iconst 2, 1), (73, .dup2, 1), (74, .iaload, 1), (75, .iconst 1, 1), (76, .isub, 1), (77, .iastore, 1), (78, .iconst 4, 1), (79, .iload_n 2, 1), (80, .imul, 1), (81, .istore_n 3, 1), (82, .iload_n 3, 1), (83, .iconst 4, 1), (84, .aload_n 0, 1), (85, .getfield 9, 3), (88, .iconst 2, 1), (89, .iaload, 1), (90, .imul, 1), (91, .if_icmp .ge 29, 3), (94, .aload_n 0, 1), (95, .getfield 9, 3), (98, .bipush 51, 2), (100, .iload_n 3, 1), (101, .iadd, 1), (102, .aload_n 0, 1), (103, .getfield 9, 3), (106, .bipush 51, 2), (108, .iload_n 3, 1), (109, .iadd, 1), (110, .iconst 4, 1), (111, .iadd, 1), (112, .iaload, 1), (113, .iastore, 1), (114, .iinc 3 1, 3), (117, .goto (-35), 3), (120, .iload_n 2, 1), (121, .ireturn, 1)]
set_option maxRecDepth 1000000 in
theorem eX11_ends : ∀ q ∈ kX11_ends, decode cX11_ends q.1 = .ok q.2 := by decide +kernel
def kX11_undo : Ci_t := [(0, .aload_n 0, 1), (1, .invokevirtual 92, 3), (4, .ifCond .ne 6, 3), (7, .bipush (-2), 2), (9, .ireturn, 1), (10, .aload_n 0, 1), (11, .getfield 9, 3), (14, .iconst 5, 1), (15, .iaload, 1), (16, .ifCond .ne 6, 3), (19, .bipush (-5), 2), (21, .ireturn, 1), (22, .aload_n 0, 1), (23, .getfield 9, 3), (26, .iconst 5, 1), (27, .dup2, 1), (28, .iaload, 1), (29, .iconst 1, 1), (30, .isub, 1), (31, .iastore, 1), (32, .sipush 135, 3), (35, .bipush 6, 2), (37, .aload_n 0, 1), (38, .getfield 9, 3), (41, .iconst 5, 1), (42, .iaload, 1), (43, .imul, 1), (44, .iadd, 1), (45, .istore_n 1, 1), (46, .aload_n 0, 1), (47, .getfield 9, 3), (50, .iload_n 1, 1), (51, .iaload, 1), (52, .ifCond .ne 16, 3), (55, .aload_n 0, 1), (56, .getfield 9, 3), (59, .iconst 2, 1), (60, .dup2, 1), (61, .iaload, 1), (62, .iconst 1, 1), (63, .isub, 1), (64, .iastore, 1), (65, .goto 125, 3), (68, .aload_n 0, 1), (69, .getfield 9, 3), (72, .iload_n 1, 1), (73, .iaload, 1), (74, .iconst 1, 1), (75, .if_icmp .ne 16, 3), (78, .aload_n 0, 1), (79, .getfield 9, 3), (82, .iconst 3, 1), (83, .dup2, 1), (84, .iaload, 1), (85, .iconst 1, 1), (86, .isub, 1), (87, .iastore, 1), (88, .goto 102, 3), (91, .aload_n 0, 1), (92, .getfield 9, 3), (95, .iload_n 1, 1), (96, .iconst 1, 1), (97, .iadd, 1), (98, .iaload, 1), (99, .istore_n 2, 1), (100, .iconst 4, 1), (101, .aload_n 0, 1), (102, .getfield 9, 3), (105, .iconst 2, 1), (106, .iaload, 1), (107, .imul, 1), (108, .iconst 1, 1), (109, .isub, 1), (110, .istore_n 3, 1), (111, .iload_n 3, 1), (112, .iconst 4, 1), (113, .iload_n 2, 1), (114, .imul, 1), (115, .if_icmp .lt 29, 3), (118, .aload_n 0, 1), (119, .getfield 9, 3), (122, .bipush 51, 2), (124, .iload_n 3, 1), (125, .iadd, 1), (126, .iconst 4, 1), (127, .iadd, 1), (128, .aload_n 0, 1), (129, .getfield 9, 3), (132, .bipush 51, 2), (134, .iload_n 3, 1), (135, .iadd, 1), (136, .iaload, 1), (137, .iastore, 1), (138, .iinc 3 (-1), 3), (141, .goto (-30), 3), (144, .iconst 0, 1), (145, .istore_n 3, 1), (146, .iload_n 3, 1), (147, .iconst 4, 1), (148, .if_icmp .ge 32, 3), (151, .aload_n 0, 1), (152, .getfield 9, 3), (155, .bipush 51, 2), (157, .iconst 4, 1), (158, .iload_n 2, 1), (159, .imul, 1), (160, .iadd, 1), (161, .iload_n 3, 1), (162, .iadd, 1), (163, .aload_n 0, 1), (164, .getfield 9, 3), (167, .iload_n 1, 1), (168, .iconst 2, 1), (169, .iadd, 1), (170, .iload_n 3, 1), (171, .iadd, 1), (172, .iaload, 1), (173, .iastore, 1), (174, .iinc 3 1, 3), (177, .goto (-31), 3), (180, .aload_n 0, 1), (181, .getfield 9, 3), (184, .iconst 2, 1), (185, .dup2, 1), (186, .iaload, 1), (187, .iconst 1, 1), (188, .iadd, 1), (189, .iastore, 1), (190, .aload_n 0, 1), (191, .getfield 9, 3), (194, .iconst 5, 1), (195, .iaload, 1), (196, .ireturn, 1)]
set_option maxRecDepth 1000000 in
theorem eX11_undo : ∀ q ∈ kX11_undo, decode cX11_undo q.1 = .ok q.2 := by decide +kernel
def kX11_goRain : Ci_t := [(0, .lload_n 1, 1), (1, .lstore 6, 2), (3, .aload_n 0, 1), (4, .iconst 0, 1), (5, .putfield 460, 3), (8, .aload_n 0, 1), (9, .iconst 0, 1), (10, .putfield 463, 3), (13, .aload_n 0, 1), (14, .iconst 0, 1), (15, .putfield 466, 3), (18, .iload 4, 2), (20, .istore 8, 2), (22, .iload 8, 2), (24, .iload 4, 2), (26, .iload 5, 2), (28, .iadd, 1), (29, .if_icmp .ge 146, 3), (32, .iload 8, 2), (34, .sipush 2000, 3), (37, .if_icmp .ge 138, 3), (40, .ldc2_w 469, 3), (43, .lload 6, 2), (45, .lmul, 1), (46, .ldc2_w 471, 3), (49, .ladd, 1), (50, .ldc2_w 473, 3), (53, .lrem, 1), (54, .lstore 6, 2), (56, .lload 6, 2), (58, .ldc2_w 475, 3), (61, .ldiv, 1), (62, .ldc2_w 477, 3), (65, .lrem, 1), (66, .aload_n 0, 1), (67, .getfield 9, 3), (70, .iconst 0, 1), (71, .iaload, 1), (72, .i2l, 1), (73, .lcmp, 1), (74, .ifCond .ge 7, 3), (77, .iconst 1, 1), (78, .goto 4, 3), (81, .iconst 0, 1), (82, .istore 9, 2), (84, .aload_n 0, 1), (85, .dup, 1), (86, .getfield 460, 3), (89, .iload 9, 2), (91, .ifCond .eq 7, 3), (94, .iconst 1, 1), (95, .goto 4, 3), (98, .iconst 0, 1), (99, .iadd, 1), (100, .putfield 460, 3), (103, .aload_n 0, 1), (104, .dup, 1), (105, .getfield 463, 3), (108, .iload 9, 2), (110, .ifCond .ne 20, 3), (113, .aload_n 0, 1), (114, .iload 8, 2), (116, .invokevirtual 286, 3), (119, .aload_n 0, 1), (120, .invokevirtual 96, 3), (123, .if_icmp .ne 7, 3), (126, .iconst 1, 1), (127, .goto 4, 3), (130, .iconst 0, 1), (131, .iadd, 1), (132, .putfield 463, 3), (135, .aload_n 0, 1), (136, .dup, 1), (137, .getfield 466, 3), (140, .iload 9, 2), (142, .ifCond .ne 22, 3), (145, .iload_n 3, 1), (146, .iconst (-1), 1), (147, .if_icmp .eq 17, 3), (150, .aload_n 0, 1), (151, .iload_n 3, 1), (152, .iload 8, 2), (154, .invokevirtual 254, 3), (157, .ifCond .eq 7, 3), (160, .iconst 1, 1), (161, .goto 4, 3), (164, .iconst 0, 1), (165, .iadd, 1), (166, .putfield 466, 3), (169, .iinc 8 1, 3), (172, .goto (-150), 3), (175, .return_, 1)]
set_option maxRecDepth 1000000 in
theorem eX11_goRain : ∀ q ∈ kX11_goRain, decode cX11_goRain q.1 = .ok q.2 := by decide +kernel
def kX11_isSeed : Ci_t := [(0, .iload_n 0, 1), (1, .i2l, 1), (2, .lconst 0, 1), (3, .ldc2_w 479, 3), (6, .invokestatic 79, 3), (9, .ireturn, 1)]
set_option maxRecDepth 1000000 in
theorem eX11_isSeed : ∀ q ∈ kX11_isSeed, decode cX11_isSeed q.1 = .ok q.2 := by decide +kernel
def kX11_drawn : Ci_t := [(0, .aload_n 0, 1), (1, .invokevirtual 92, 3), (4, .ifCond .eq 41, 3), (7, .iload_n 1, 1), (8, .invokestatic 481, 3), (11, .ifCond .eq 34, 3), (14, .iload_n 2, 1), (15, .i2l, 1), (16, .invokestatic 89, 3), (19, .ifCond .eq 26, 3), (22, .iload_n 3, 1), (23, .i2l, 1), (24, .lconst 1, 1), (25, .ldc2_w 477, 3), (28, .invokestatic 79, 3), (31, .ifCond .eq 14, 3), (34, .iload 4, 2), (36, .i2l, 1), (37, .lconst 0, 1), (38, .lconst 1, 1), (39, .invokestatic 79, 3), (42, .ifCond .ne 6, 3), (45, .bipush (-2), 2), (47, .ireturn, 1), (48, .aload_n 0, 1), (49, .invokevirtual 269, 3), (52, .aload_n 0, 1), (53, .iload_n 1, 1), (54, .i2l, 1), (55, .iconst (-1), 1), (56, .iload_n 2, 1), (57, .iload_n 3, 1), (58, .invokevirtual 484, 3), (61, .iload 4, 2), (63, .ifCond .ne 10, 3), (66, .aload_n 0, 1), (67, .getfield 460, 3), (70, .goto 7, 3), (73, .aload_n 0, 1), (74, .getfield 463, 3), (77, .ireturn, 1)]
set_option maxRecDepth 1000000 in
theorem eX11_drawn : ∀ q ∈ kX11_drawn, decode cX11_drawn q.1 = .ok q.2 := by decide +kernel
def kX11_luck : Ci_t := [(0, .iload_n 1, 1), (1, .invokestatic 481, 3), (4, .ifCond .eq 46, 3), (7, .iload_n 2, 1), (8, .i2l, 1), (9, .lconst 1, 1), (10, .ldc2_w 336, 3), (13, .invokestatic 79, 3), (16, .ifCond .eq 34, 3), (19, .aload_n 0, 1), (20, .iload_n 3, 1), (21, .i2l, 1), (22, .invokevirtual 83, 3), (25, .ifCond .eq 25, 3), (28, .iload 4, 2), (30, .i2l, 1), (31, .invokestatic 89, 3), (34, .ifCond .eq 16, 3), (37, .iload 5, 2), (39, .i2l, 1), (40, .lconst 1, 1), (41, .ldc2_w 477, 3), (44, .invokestatic 79, 3), (47, .ifCond .ne 6, 3), (50, .bipush (-2), 2), (52, .ireturn, 1), (53, .aload_n 0, 1), (54, .invokevirtual 269, 3), (57, .iconst 0, 1), (58, .istore 6, 2), (60, .iconst 0, 1), (61, .istore 7, 2), (63, .iload 7, 2), (65, .iload_n 2, 1), (66, .if_icmp .ge 41, 3), (69, .aload_n 0, 1), (70, .iload_n 1, 1), (71, .i2l, 1), (72, .iload 7, 2), (74, .i2l, 1), (75, .ladd, 1), (76, .iload_n 3, 1), (77, .iload 4, 2), (79, .iload 5, 2), (81, .invokevirtual 484, 3), (84, .iload 6, 2), (86, .aload_n 0, 1), (87, .getfield 466, 3), (90, .ifCond .ne 7, 3), (93, .iconst 1, 1), (94, .goto 4, 3), (97, .iconst 0, 1), (98, .iadd, 1), (99, .istore 6, 2), (101, .iinc 7 1, 3), (104, .goto (-41), 3), (107, .iload 6, 2), (109, .ireturn, 1)]
set_option maxRecDepth 1000000 in
theorem eX11_luck : ∀ q ∈ kX11_luck, decode cX11_luck q.1 = .ok q.2 := by decide +kernel
def kX11_count : Ci_t := [(0, .iconst 0, 1), (1, .istore_n 2, 1), (2, .iload_n 1, 1), (3, .tableswitch 125 0 7 #[45, 52, 59, 66, 73, 80, 85, 92], 45), (48, .aload_n 0, 1), (49, .getfield 9, 3), (52, .iconst 1, 1), (53, .iaload, 1), (54, .ireturn, 1), (55, .aload_n 0, 1), (56, .getfield 9, 3), (59, .iconst 2, 1), (60, .iaload, 1), (61, .ireturn, 1), (62, .aload_n 0, 1), (63, .getfield 9, 3), (66, .iconst 3, 1), (67, .iaload, 1), (68, .ireturn, 1), (69, .aload_n 0, 1), (70, .getfield 9, 3), (73, .iconst 0, 1), (74, .iaload, 1), (75, .ireturn, 1), (76, .aload_n 0, 1), (77, .getfield 9, 3), (80, .iconst 4, 1), (81, .iaload, 1), (82, .ireturn, 1), (83, .aload_n 0, 1), (84, .getfield 108, 3), (87, .ireturn, 1), (88, .aload_n 0, 1), (89, .getfield 9, 3), (92, .iconst 5, 1), (93, .iaload, 1), (94, .ireturn, 1), (95, .iconst 0, 1), (96, .istore_n 3, 1), (97, .iload_n 3, 1), (98, .iconst 4, 1), (99, .if_icmp .ge 27, 3), (102, .iload_n 2, 1), (103, .aload_n 0, 1), (104, .getfield 61, 3), (107, .iload_n 3, 1), (108, .iaload, 1), (109, .iconst (-1), 1), (110, .if_icmp .ne 7, 3), (113, .iconst 0, 1), (114, .goto 4, 3), (117, .iconst 1, 1), (118, .iadd, 1), (119, .istore_n 2, 1), (120, .iinc 3 1, 3), (123, .goto (-26), 3), (126, .iload_n 2, 1), (127, .ireturn, 1), (128, .iconst (-1), 1), (129, .ireturn, 1)]
set_option maxRecDepth 1000000 in
theorem eX11_count : ∀ q ∈ kX11_count, decode cX11_count q.1 = .ok q.2 := by decide +kernel
def kX11_isSlot : Ci_t := [(0, .iload_n 0, 1), (1, .i2l, 1), (2, .lconst 0, 1), (3, .ldc2_w 267, 3), (6, .invokestatic 79, 3), (9, .ireturn, 1)]
set_option maxRecDepth 1000000 in
theorem eX11_isSlot : ∀ q ∈ kX11_isSlot, decode cX11_isSlot q.1 = .ok q.2 := by decide +kernel
def kX11_cut : Ci_t := [(0, .bipush 64, 2), (2, .bipush 8, 2), (4, .iload_n 2, 1), (5, .ishl, 1), (6, .isub, 1), (7, .istore_n 3, 1), (8, .lload_n 0, 1), (9, .iload_n 3, 1), (10, .lshl, 1), (11, .iload_n 3, 1), (12, .lshr, 1), (13, .lreturn, 1)]
set_option maxRecDepth 1000000 in
theorem eX11_cut : ∀ q ∈ kX11_cut, decode cX11_cut q.1 = .ok q.2 := by decide +kernel
def kX11_row : Ci_t := [(0, .iload_n 1, 1), (1, .invokestatic 361, 3), (4, .ifCond .eq 21, 3), (7, .iload_n 2, 1), (8, .i2l, 1), (9, .lconst 0, 1), (10, .ldc2_w 267, 3), (13, .invokestatic 79, 3), (16, .ifCond .eq 9, 3), (19, .iload_n 3, 1), (20, .bipush 60, 2), (22, .if_icmp .le 6, 3), (25, .bipush (-2), 2), (27, .ireturn, 1), (28, .iload_n 3, 1), (29, .ifCond .ge 6, 3), (32, .bipush (-3), 2), (34, .ireturn, 1), (35, .aload_n 0, 1), (36, .getfield 61, 3), (39, .iload_n 1, 1), (40, .iload_n 3, 1), (41, .iastore, 1), (42, .aload_n 0, 1), (43, .getfield 64, 3), (46, .iload_n 1, 1), (47, .iload_n 2, 1), (48, .iastore, 1), (49, .iconst 0, 1), (50, .istore 4, 2), (52, .iload 4, 2), (54, .bipush 60, 2), (56, .if_icmp .ge 22, 3), (59, .aload_n 0, 1), (60, .getfield 67, 3), (63, .bipush 60, 2), (65, .iload_n 1, 1), (66, .imul, 1), (67, .iload 4, 2), (69, .iadd, 1), (70, .lconst 0, 1), (71, .lastore, 1), (72, .iinc 4 1, 3), (75, .goto (-23), 3), (78, .iconst 0, 1), (79, .ireturn, 1)]
set_option maxRecDepth 1000000 in
theorem eX11_row : ∀ q ∈ kX11_row, decode cX11_row q.1 = .ok q.2 := by decide +kernel
def kX11_write : Ci_t := [(0, .iload_n 1, 1), (1, .invokestatic 361, 3), (4, .ifCond .ne 6, 3), (7, .bipush (-2), 2), (9, .ireturn, 1), (10, .aload_n 0, 1), (11, .getfield 61, 3), (14, .iload_n 1, 1), (15, .iaload, 1), (16, .iconst (-1), 1), (17, .if_icmp .ne 6, 3), (20, .bipush (-6), 2), (22, .ireturn, 1), (23, .iload_n 2, 1), (24, .i2l, 1), (25, .lconst 0, 1), (26, .aload_n 0, 1), (27, .getfield 61, 3), (30, .iload_n 1, 1), (31, .iaload, 1), (32, .iconst 1, 1), (33, .isub, 1), (34, .i2l, 1), (35, .invokestatic 79, 3), (38, .ifCond .ne 6, 3), (41, .bipush (-7), 2), (43, .ireturn, 1), (44, .aload_n 0, 1), (45, .getfield 67, 3), (48, .bipush 60, 2), (50, .iload_n 1, 1), (51, .imul, 1), (52, .iload_n 2, 1), (53, .iadd, 1), (54, .lload_n 3, 1), (55, .aload_n 0, 1), (56, .getfield 64, 3), (59, .iload_n 1, 1), (60, .iaload, 1), (61, .invokestatic 488, 3), (64, .lastore, 1), (65, .iconst 0, 1), (66, .ireturn, 1)]
set_option maxRecDepth 1000000 in
theorem eX11_write : ∀ q ∈ kX11_write, decode cX11_write q.1 = .ok q.2 := by decide +kernel
def kX11_paste : Ci_t := [(0, .iload_n 1, 1), (1, .invokestatic 361, 3), (4, .ifCond .eq 10, 3), (7, .iload_n 3, 1), (8, .invokestatic 361, 3), (11, .ifCond .ne 6, 3), (14, .bipush (-2), 2), (16, .ireturn, 1), (17, .aload_n 0, 1), (18, .getfield 61, 3), (21, .iload_n 1, 1), (22, .iaload, 1), (23, .iconst (-1), 1), (24, .if_icmp .eq 13, 3), (27, .aload_n 0, 1), (28, .getfield 61, 3), (31, .iload_n 3, 1), (32, .iaload, 1), (33, .iconst (-1), 1), (34, .if_icmp .ne 6, 3), (37, .bipush (-6), 2), (39, .ireturn, 1), (40, .aload_n 0, 1), (41, .getfield 64, 3), (44, .iload_n 1, 1), (45, .iaload, 1), (46, .aload_n 0, 1), (47, .getfield 64, 3), (50, .iload_n 3, 1), (51, .iaload, 1), (52, .if_icmp .eq 6, 3), (55, .bipush (-8), 2), (57, .ireturn, 1), (58, .iload_n 2, 1), (59, .ifCond .lt 48, 3), (62, .iload 4, 2), (64, .ifCond .lt 43, 3), (67, .iload 5, 2), (69, .ifCond .lt 38, 3), (72, .iload_n 2, 1), (73, .i2l, 1), (74, .iload 5, 2), (76, .i2l, 1), (77, .ladd, 1), (78, .aload_n 0, 1), (79, .getfield 61, 3), (82, .iload_n 1, 1), (83, .iaload, 1), (84, .i2l, 1), (85, .lcmp, 1), (86, .ifCond .gt 21, 3), (89, .iload 4, 2), (91, .i2l, 1), (92, .iload 5, 2), (94, .i2l, 1), (95, .ladd, 1), (96, .aload_n 0, 1), (97, .getfield 61, 3), (100, .iload_n 3, 1), (101, .iaload, 1), (102, .i2l, 1), (103, .lcmp, 1), (104, .ifCond .le 6, 3), (107, .bipush (-7), 2), (109, .ireturn, 1), (110, .iconst 0, 1), (111, .istore 6, 2), (113, .iload 6, 2), (115, .iload 5, 2), (117, .if_icmp .ge 30, 3), (120, .aload_n 0, 1), (121, .getfield 71, 3), (124, .iload 6, 2), (126, .aload_n 0, 1), (127, .getfield 67, 3), (130, .bipush 60, 2), (132, .iload_n 1, 1), (133, .imul, 1), (134, .iload_n 2, 1), (135, .iadd, 1), (136, .iload 6, 2), (138, .iadd, 1), (139, .laload, 1), (140, .lastore, 1), (141, .iinc 6 1, 3), (144, .goto (-31), 3), (147, .iconst 0, 1), (148, .istore 6, 2), (150, .iload 6, 2), (152, .iload 5, 2), (154, .if_icmp .ge 31, 3), (157, .aload_n 0, 1), (158, .getfield 67, 3), (161, .bipush 60, 2), (163, .iload_n 3, 1), (164, .imul, 1), (165, .iload 4, 2), (167, .iadd, 1), (168, .iload 6, 2), (170, .iadd, 1), (171, .aload_n 0, 1), (172, .getfield 71, 3), (175, .iload 6, 2), (177, .laload, 1), (178, .lastore, 1), (179, .iinc 6 1, 3), (182, .goto (-32), 3), (185, .iconst 0, 1), (186, .ireturn, 1)]
set_option maxRecDepth 1000000 in
theorem eX11_paste : ∀ q ∈ kX11_paste, decode cX11_paste q.1 = .ok q.2 := by decide +kernel
end
section
def kL_0 : Ci_t := [(0, .new 7, 3), (3, .dup, 1), (4, .invokespecial 9, 3), (7, .astore_n 1, 1), (8, .new 10, 3), (11, .dup, 1), (12, .invokespecial 12, 3), (15, .astore_n 2, 1), (16, .iconst 0, 1), (17, .istore_n 3, 1), (18, .iload_n 3, 1), (19, .aload_n 0, 1), (20, .arraylength, 1), (21, .bipush 6, 2), (23, .isub, 1), (24, .if_icmp .gt 2787, 3), (27, .aload_n 0, 1), (28, .iload_n 3, 1), (29, .iaload, 1), (30, .bipush 63, 2), (32, .iand, 1), (33, .tableswitch 2772 0 60 #[259, 322, 345, 358, 381, 414, 457, 490, 523, 566, 619, 652, 685, 708, 741, 784, 827, 870, 923, 986, 1009, 1052, 1075, 1108, 1171, 1234, 1287, 1340, 1363, 1396, 1419, 1442, 1485, 1538, 1591, 1634, 1677, 1700, 1733, 1746, 1789, 1842, 1885, 1938, 1991, 2044, 2107, 2170, 2223, 2276, 2329, 2372, 2395, 2408, 2461, 2524, 2547, 2570, 2593, 2636, 2709], 259)]
set_option maxRecDepth 1000000 in
theorem eL_0 : ∀ q ∈ kL_0, decode cL_law q.1 = .ok q.2 := by decide +kernel
def kL_1 : Ci_t := [(292, .aload_n 1, 1), (293, .aload_n 0, 1), (294, .iload_n 3, 1), (295, .iconst 1, 1), (296, .iadd, 1), (297, .iaload, 1), (298, .aload_n 0, 1), (299, .iload_n 3, 1), (300, .iconst 2, 1), (301, .iadd, 1), (302, .iaload, 1), (303, .aload_n 0, 1), (304, .iload_n 3, 1), (305, .iconst 3, 1), (306, .iadd, 1), (307, .iaload, 1), (308, .aload_n 0, 1), (309, .iload_n 3, 1), (310, .iconst 4, 1), (311, .iadd, 1), (312, .iaload, 1), (313, .aload_n 0, 1), (314, .iload_n 3, 1), (315, .iconst 5, 1), (316, .iadd, 1), (317, .iaload, 1), (318, .invokevirtual 13, 3), (321, .pop, 1), (322, .aload_n 2, 1), (323, .aload_n 0, 1), (324, .iload_n 3, 1), (325, .iconst 1, 1), (326, .iadd, 1), (327, .iaload, 1), (328, .aload_n 0, 1), (329, .iload_n 3, 1), (330, .iconst 2, 1), (331, .iadd, 1), (332, .iaload, 1), (333, .aload_n 0, 1), (334, .iload_n 3, 1), (335, .iconst 3, 1), (336, .iadd, 1), (337, .iaload, 1), (338, .aload_n 0, 1), (339, .iload_n 3, 1), (340, .iconst 4, 1), (341, .iadd, 1), (342, .iaload, 1), (343, .aload_n 0, 1), (344, .iload_n 3, 1), (345, .iconst 5, 1), (346, .iadd, 1), (347, .iaload, 1), (348, .invokevirtual 17, 3), (351, .pop, 1), (352, .goto 2453, 3)]
set_option maxRecDepth 1000000 in
theorem eL_1 : ∀ q ∈ kL_1, decode cL_law q.1 = .ok q.2 := by decide +kernel
def kL_2 : Ci_t := [(355, .aload_n 1, 1), (356, .aload_n 0, 1), (357, .iload_n 3, 1), (358, .iconst 1, 1), (359, .iadd, 1), (360, .iaload, 1), (361, .invokevirtual 18, 3), (364, .pop, 1), (365, .aload_n 2, 1), (366, .aload_n 0, 1), (367, .iload_n 3, 1), (368, .iconst 1, 1), (369, .iadd, 1), (370, .iaload, 1), (371, .invokevirtual 22, 3), (374, .pop, 1), (375, .goto 2430, 3)]
set_option maxRecDepth 1000000 in
theorem eL_2 : ∀ q ∈ kL_2, decode cL_law q.1 = .ok q.2 := by decide +kernel
def kL_3 : Ci_t := [(378, .aload_n 1, 1), (379, .invokevirtual 23, 3), (382, .pop, 1), (383, .aload_n 2, 1), (384, .invokevirtual 27, 3), (387, .pop, 1), (388, .goto 2417, 3)]
set_option maxRecDepth 1000000 in
theorem eL_3 : ∀ q ∈ kL_3, decode cL_law q.1 = .ok q.2 := by decide +kernel
def kL_4 : Ci_t := [(391, .aload_n 1, 1), (392, .aload_n 0, 1), (393, .iload_n 3, 1), (394, .iconst 1, 1), (395, .iadd, 1), (396, .iaload, 1), (397, .invokevirtual 28, 3), (400, .pop, 1), (401, .aload_n 2, 1), (402, .aload_n 0, 1), (403, .iload_n 3, 1), (404, .iconst 1, 1), (405, .iadd, 1), (406, .iaload, 1), (407, .invokevirtual 31, 3), (410, .pop, 1), (411, .goto 2394, 3)]
set_option maxRecDepth 1000000 in
theorem eL_4 : ∀ q ∈ kL_4, decode cL_law q.1 = .ok q.2 := by decide +kernel
def kL_5 : Ci_t := [(414, .aload_n 1, 1), (415, .aload_n 0, 1), (416, .iload_n 3, 1), (417, .iconst 1, 1), (418, .iadd, 1), (419, .iaload, 1), (420, .aload_n 0, 1), (421, .iload_n 3, 1), (422, .iconst 2, 1), (423, .iadd, 1), (424, .iaload, 1), (425, .invokevirtual 32, 3), (428, .pop, 1), (429, .aload_n 2, 1), (430, .aload_n 0, 1), (431, .iload_n 3, 1), (432, .iconst 1, 1), (433, .iadd, 1), (434, .iaload, 1), (435, .aload_n 0, 1), (436, .iload_n 3, 1), (437, .iconst 2, 1), (438, .iadd, 1), (439, .iaload, 1), (440, .invokevirtual 36, 3), (443, .pop, 1), (444, .goto 2361, 3)]
set_option maxRecDepth 1000000 in
theorem eL_5 : ∀ q ∈ kL_5, decode cL_law q.1 = .ok q.2 := by decide +kernel
def kL_6 : Ci_t := [(447, .aload_n 1, 1), (448, .aload_n 0, 1), (449, .iload_n 3, 1), (450, .iconst 1, 1), (451, .iadd, 1), (452, .iaload, 1), (453, .aload_n 0, 1), (454, .iload_n 3, 1), (455, .iconst 2, 1), (456, .iadd, 1), (457, .iaload, 1), (458, .aload_n 0, 1), (459, .iload_n 3, 1), (460, .iconst 3, 1), (461, .iadd, 1), (462, .iaload, 1), (463, .invokevirtual 37, 3), (466, .pop, 1), (467, .aload_n 2, 1), (468, .aload_n 0, 1), (469, .iload_n 3, 1), (470, .iconst 1, 1), (471, .iadd, 1), (472, .iaload, 1), (473, .aload_n 0, 1), (474, .iload_n 3, 1), (475, .iconst 2, 1), (476, .iadd, 1), (477, .iaload, 1), (478, .aload_n 0, 1), (479, .iload_n 3, 1), (480, .iconst 3, 1), (481, .iadd, 1), (482, .iaload, 1), (483, .invokevirtual 41, 3), (486, .pop, 1), (487, .goto 2318, 3)]
set_option maxRecDepth 1000000 in
theorem eL_6 : ∀ q ∈ kL_6, decode cL_law q.1 = .ok q.2 := by decide +kernel
def kL_7 : Ci_t := [(490, .aload_n 1, 1), (491, .aload_n 0, 1), (492, .iload_n 3, 1), (493, .iconst 1, 1), (494, .iadd, 1), (495, .iaload, 1), (496, .aload_n 0, 1), (497, .iload_n 3, 1), (498, .iconst 2, 1), (499, .iadd, 1), (500, .iaload, 1), (501, .invokevirtual 42, 3), (504, .pop, 1), (505, .aload_n 2, 1), (506, .aload_n 0, 1), (507, .iload_n 3, 1), (508, .iconst 1, 1), (509, .iadd, 1), (510, .iaload, 1), (511, .aload_n 0, 1), (512, .iload_n 3, 1), (513, .iconst 2, 1), (514, .iadd, 1), (515, .iaload, 1), (516, .invokevirtual 45, 3), (519, .pop, 1), (520, .goto 2285, 3)]
set_option maxRecDepth 1000000 in
theorem eL_7 : ∀ q ∈ kL_7, decode cL_law q.1 = .ok q.2 := by decide +kernel
def kL_8 : Ci_t := [(523, .aload_n 1, 1), (524, .aload_n 0, 1), (525, .iload_n 3, 1), (526, .iconst 1, 1), (527, .iadd, 1), (528, .iaload, 1), (529, .aload_n 0, 1), (530, .iload_n 3, 1), (531, .iconst 2, 1), (532, .iadd, 1), (533, .iaload, 1), (534, .invokevirtual 46, 3), (537, .pop, 1), (538, .aload_n 2, 1), (539, .aload_n 0, 1), (540, .iload_n 3, 1), (541, .iconst 1, 1), (542, .iadd, 1), (543, .iaload, 1), (544, .aload_n 0, 1), (545, .iload_n 3, 1), (546, .iconst 2, 1), (547, .iadd, 1), (548, .iaload, 1), (549, .invokevirtual 49, 3), (552, .pop, 1), (553, .goto 2252, 3)]
set_option maxRecDepth 1000000 in
theorem eL_8 : ∀ q ∈ kL_8, decode cL_law q.1 = .ok q.2 := by decide +kernel
def kL_9 : Ci_t := [(556, .aload_n 1, 1), (557, .aload_n 0, 1), (558, .iload_n 3, 1), (559, .iconst 1, 1), (560, .iadd, 1), (561, .iaload, 1), (562, .aload_n 0, 1), (563, .iload_n 3, 1), (564, .iconst 2, 1), (565, .iadd, 1), (566, .iaload, 1), (567, .aload_n 0, 1), (568, .iload_n 3, 1), (569, .iconst 3, 1), (570, .iadd, 1), (571, .iaload, 1), (572, .invokevirtual 50, 3), (575, .pop, 1), (576, .aload_n 2, 1), (577, .aload_n 0, 1), (578, .iload_n 3, 1), (579, .iconst 1, 1), (580, .iadd, 1), (581, .iaload, 1), (582, .aload_n 0, 1), (583, .iload_n 3, 1), (584, .iconst 2, 1), (585, .iadd, 1), (586, .iaload, 1), (587, .aload_n 0, 1), (588, .iload_n 3, 1), (589, .iconst 3, 1), (590, .iadd, 1), (591, .iaload, 1), (592, .invokevirtual 53, 3), (595, .pop, 1), (596, .goto 2209, 3)]
set_option maxRecDepth 1000000 in
theorem eL_9 : ∀ q ∈ kL_9, decode cL_law q.1 = .ok q.2 := by decide +kernel
def kL_10 : Ci_t := [(599, .aload_n 1, 1), (600, .aload_n 0, 1), (601, .iload_n 3, 1), (602, .iconst 1, 1), (603, .iadd, 1), (604, .iaload, 1), (605, .aload_n 0, 1), (606, .iload_n 3, 1), (607, .iconst 2, 1), (608, .iadd, 1), (609, .iaload, 1), (610, .aload_n 0, 1), (611, .iload_n 3, 1), (612, .iconst 3, 1), (613, .iadd, 1), (614, .iaload, 1), (615, .aload_n 0, 1), (616, .iload_n 3, 1), (617, .iconst 4, 1), (618, .iadd, 1), (619, .iaload, 1), (620, .invokevirtual 54, 3), (623, .pop, 1), (624, .aload_n 2, 1), (625, .aload_n 0, 1), (626, .iload_n 3, 1), (627, .iconst 1, 1), (628, .iadd, 1), (629, .iaload, 1), (630, .aload_n 0, 1), (631, .iload_n 3, 1), (632, .iconst 2, 1), (633, .iadd, 1), (634, .iaload, 1), (635, .aload_n 0, 1), (636, .iload_n 3, 1), (637, .iconst 3, 1), (638, .iadd, 1), (639, .iaload, 1), (640, .aload_n 0, 1), (641, .iload_n 3, 1), (642, .iconst 4, 1), (643, .iadd, 1), (644, .iaload, 1), (645, .invokevirtual 58, 3), (648, .pop, 1), (649, .goto 2156, 3)]
set_option maxRecDepth 1000000 in
theorem eL_10 : ∀ q ∈ kL_10, decode cL_law q.1 = .ok q.2 := by decide +kernel
def kL_11 : Ci_t := [(652, .aload_n 1, 1), (653, .aload_n 0, 1), (654, .iload_n 3, 1), (655, .iconst 1, 1), (656, .iadd, 1), (657, .iaload, 1), (658, .aload_n 0, 1), (659, .iload_n 3, 1), (660, .iconst 2, 1), (661, .iadd, 1), (662, .iaload, 1), (663, .invokevirtual 59, 3), (666, .pop, 1), (667, .aload_n 2, 1), (668, .aload_n 0, 1), (669, .iload_n 3, 1), (670, .iconst 1, 1), (671, .iadd, 1), (672, .iaload, 1), (673, .aload_n 0, 1), (674, .iload_n 3, 1), (675, .iconst 2, 1), (676, .iadd, 1), (677, .iaload, 1), (678, .invokevirtual 62, 3), (681, .pop, 1), (682, .goto 2123, 3)]
set_option maxRecDepth 1000000 in
theorem eL_11 : ∀ q ∈ kL_11, decode cL_law q.1 = .ok q.2 := by decide +kernel
def kL_12 : Ci_t := [(685, .aload_n 1, 1), (686, .aload_n 0, 1), (687, .iload_n 3, 1), (688, .iconst 1, 1), (689, .iadd, 1), (690, .iaload, 1), (691, .aload_n 0, 1), (692, .iload_n 3, 1), (693, .iconst 2, 1), (694, .iadd, 1), (695, .iaload, 1), (696, .invokevirtual 63, 3), (699, .pop, 1), (700, .aload_n 2, 1), (701, .aload_n 0, 1), (702, .iload_n 3, 1), (703, .iconst 1, 1), (704, .iadd, 1), (705, .iaload, 1), (706, .aload_n 0, 1), (707, .iload_n 3, 1), (708, .iconst 2, 1), (709, .iadd, 1), (710, .iaload, 1), (711, .invokevirtual 66, 3), (714, .pop, 1), (715, .goto 2090, 3)]
set_option maxRecDepth 1000000 in
theorem eL_12 : ∀ q ∈ kL_12, decode cL_law q.1 = .ok q.2 := by decide +kernel
def kL_13 : Ci_t := [(718, .aload_n 1, 1), (719, .aload_n 0, 1), (720, .iload_n 3, 1), (721, .iconst 1, 1), (722, .iadd, 1), (723, .iaload, 1), (724, .invokevirtual 67, 3), (727, .pop, 1), (728, .aload_n 2, 1), (729, .aload_n 0, 1), (730, .iload_n 3, 1), (731, .iconst 1, 1), (732, .iadd, 1), (733, .iaload, 1), (734, .invokevirtual 70, 3), (737, .pop, 1), (738, .goto 2067, 3)]
set_option maxRecDepth 1000000 in
theorem eL_13 : ∀ q ∈ kL_13, decode cL_law q.1 = .ok q.2 := by decide +kernel
def kL_14 : Ci_t := [(741, .aload_n 1, 1), (742, .aload_n 0, 1), (743, .iload_n 3, 1), (744, .iconst 1, 1), (745, .iadd, 1), (746, .iaload, 1), (747, .aload_n 0, 1), (748, .iload_n 3, 1), (749, .iconst 2, 1), (750, .iadd, 1), (751, .iaload, 1), (752, .invokevirtual 71, 3), (755, .pop, 1), (756, .aload_n 2, 1), (757, .aload_n 0, 1), (758, .iload_n 3, 1), (759, .iconst 1, 1), (760, .iadd, 1), (761, .iaload, 1), (762, .aload_n 0, 1), (763, .iload_n 3, 1), (764, .iconst 2, 1), (765, .iadd, 1), (766, .iaload, 1), (767, .invokevirtual 74, 3), (770, .pop, 1), (771, .goto 2034, 3)]
set_option maxRecDepth 1000000 in
theorem eL_14 : ∀ q ∈ kL_14, decode cL_law q.1 = .ok q.2 := by decide +kernel
def kL_15 : Ci_t := [(774, .aload_n 1, 1), (775, .aload_n 0, 1), (776, .iload_n 3, 1), (777, .iconst 1, 1), (778, .iadd, 1), (779, .iaload, 1), (780, .aload_n 0, 1), (781, .iload_n 3, 1), (782, .iconst 2, 1), (783, .iadd, 1), (784, .iaload, 1), (785, .aload_n 0, 1), (786, .iload_n 3, 1), (787, .iconst 3, 1), (788, .iadd, 1), (789, .iaload, 1), (790, .invokevirtual 75, 3), (793, .pop, 1), (794, .aload_n 2, 1), (795, .aload_n 0, 1), (796, .iload_n 3, 1), (797, .iconst 1, 1), (798, .iadd, 1), (799, .iaload, 1), (800, .aload_n 0, 1), (801, .iload_n 3, 1), (802, .iconst 2, 1), (803, .iadd, 1), (804, .iaload, 1), (805, .aload_n 0, 1), (806, .iload_n 3, 1), (807, .iconst 3, 1), (808, .iadd, 1), (809, .iaload, 1), (810, .invokevirtual 78, 3), (813, .pop, 1), (814, .goto 1991, 3)]
set_option maxRecDepth 1000000 in
theorem eL_15 : ∀ q ∈ kL_15, decode cL_law q.1 = .ok q.2 := by decide +kernel
end
section
def kL_16 : Ci_t := [(817, .aload_n 1, 1), (818, .aload_n 0, 1), (819, .iload_n 3, 1), (820, .iconst 1, 1), (821, .iadd, 1), (822, .iaload, 1), (823, .aload_n 0, 1), (824, .iload_n 3, 1), (825, .iconst 2, 1), (826, .iadd, 1), (827, .iaload, 1), (828, .aload_n 0, 1), (829, .iload_n 3, 1), (830, .iconst 3, 1), (831, .iadd, 1), (832, .iaload, 1), (833, .invokevirtual 79, 3), (836, .pop, 1), (837, .aload_n 2, 1), (838, .aload_n 0, 1), (839, .iload_n 3, 1), (840, .iconst 1, 1), (841, .iadd, 1), (842, .iaload, 1), (843, .aload_n 0, 1), (844, .iload_n 3, 1), (845, .iconst 2, 1), (846, .iadd, 1), (847, .iaload, 1), (848, .aload_n 0, 1), (849, .iload_n 3, 1), (850, .iconst 3, 1), (851, .iadd, 1), (852, .iaload, 1), (853, .invokevirtual 82, 3), (856, .pop, 1), (857, .goto 1948, 3)]
set_option maxRecDepth 1000000 in
theorem eL_16 : ∀ q ∈ kL_16, decode cL_law q.1 = .ok q.2 := by decide +kernel
def kL_17 : Ci_t := [(860, .aload_n 1, 1), (861, .aload_n 0, 1), (862, .iload_n 3, 1), (863, .iconst 1, 1), (864, .iadd, 1), (865, .iaload, 1), (866, .aload_n 0, 1), (867, .iload_n 3, 1), (868, .iconst 2, 1), (869, .iadd, 1), (870, .iaload, 1), (871, .aload_n 0, 1), (872, .iload_n 3, 1), (873, .iconst 3, 1), (874, .iadd, 1), (875, .iaload, 1), (876, .invokevirtual 83, 3), (879, .pop, 1), (880, .aload_n 2, 1), (881, .aload_n 0, 1), (882, .iload_n 3, 1), (883, .iconst 1, 1), (884, .iadd, 1), (885, .iaload, 1), (886, .aload_n 0, 1), (887, .iload_n 3, 1), (888, .iconst 2, 1), (889, .iadd, 1), (890, .iaload, 1), (891, .aload_n 0, 1), (892, .iload_n 3, 1), (893, .iconst 3, 1), (894, .iadd, 1), (895, .iaload, 1), (896, .invokevirtual 86, 3), (899, .pop, 1), (900, .goto 1905, 3)]
set_option maxRecDepth 1000000 in
theorem eL_17 : ∀ q ∈ kL_17, decode cL_law q.1 = .ok q.2 := by decide +kernel
def kL_18 : Ci_t := [(903, .aload_n 1, 1), (904, .aload_n 0, 1), (905, .iload_n 3, 1), (906, .iconst 1, 1), (907, .iadd, 1), (908, .iaload, 1), (909, .aload_n 0, 1), (910, .iload_n 3, 1), (911, .iconst 2, 1), (912, .iadd, 1), (913, .iaload, 1), (914, .aload_n 0, 1), (915, .iload_n 3, 1), (916, .iconst 3, 1), (917, .iadd, 1), (918, .iaload, 1), (919, .aload_n 0, 1), (920, .iload_n 3, 1), (921, .iconst 4, 1), (922, .iadd, 1), (923, .iaload, 1), (924, .invokevirtual 87, 3), (927, .pop, 1), (928, .aload_n 2, 1), (929, .aload_n 0, 1), (930, .iload_n 3, 1), (931, .iconst 1, 1), (932, .iadd, 1), (933, .iaload, 1), (934, .aload_n 0, 1), (935, .iload_n 3, 1), (936, .iconst 2, 1), (937, .iadd, 1), (938, .iaload, 1), (939, .aload_n 0, 1), (940, .iload_n 3, 1), (941, .iconst 3, 1), (942, .iadd, 1), (943, .iaload, 1), (944, .aload_n 0, 1), (945, .iload_n 3, 1), (946, .iconst 4, 1), (947, .iadd, 1), (948, .iaload, 1), (949, .invokevirtual 90, 3), (952, .pop, 1), (953, .goto 1852, 3)]
set_option maxRecDepth 1000000 in
theorem eL_18 : ∀ q ∈ kL_18, decode cL_law q.1 = .ok q.2 := by decide +kernel
def kL_19 : Ci_t := [(956, .aload_n 1, 1), (957, .aload_n 0, 1), (958, .iload_n 3, 1), (959, .iconst 1, 1), (960, .iadd, 1), (961, .iaload, 1), (962, .aload_n 0, 1), (963, .iload_n 3, 1), (964, .iconst 2, 1), (965, .iadd, 1), (966, .iaload, 1), (967, .aload_n 0, 1), (968, .iload_n 3, 1), (969, .iconst 3, 1), (970, .iadd, 1), (971, .iaload, 1), (972, .aload_n 0, 1), (973, .iload_n 3, 1), (974, .iconst 4, 1), (975, .iadd, 1), (976, .iaload, 1), (977, .aload_n 0, 1), (978, .iload_n 3, 1), (979, .iconst 5, 1), (980, .iadd, 1), (981, .iaload, 1), (982, .invokevirtual 91, 3), (985, .pop, 1), (986, .aload_n 2, 1), (987, .aload_n 0, 1), (988, .iload_n 3, 1), (989, .iconst 1, 1), (990, .iadd, 1), (991, .iaload, 1), (992, .aload_n 0, 1), (993, .iload_n 3, 1), (994, .iconst 2, 1), (995, .iadd, 1), (996, .iaload, 1), (997, .aload_n 0, 1), (998, .iload_n 3, 1), (999, .iconst 3, 1), (1000, .iadd, 1), (1001, .iaload, 1), (1002, .aload_n 0, 1), (1003, .iload_n 3, 1), (1004, .iconst 4, 1), (1005, .iadd, 1), (1006, .iaload, 1), (1007, .aload_n 0, 1), (1008, .iload_n 3, 1), (1009, .iconst 5, 1), (1010, .iadd, 1), (1011, .iaload, 1), (1012, .invokevirtual 94, 3), (1015, .pop, 1), (1016, .goto 1789, 3)]
set_option maxRecDepth 1000000 in
theorem eL_19 : ∀ q ∈ kL_19, decode cL_law q.1 = .ok q.2 := by decide +kernel
def kL_20 : Ci_t := [(1019, .aload_n 1, 1), (1020, .aload_n 0, 1), (1021, .iload_n 3, 1), (1022, .iconst 1, 1), (1023, .iadd, 1), (1024, .iaload, 1), (1025, .invokevirtual 95, 3), (1028, .pop, 1), (1029, .aload_n 2, 1), (1030, .aload_n 0, 1), (1031, .iload_n 3, 1), (1032, .iconst 1, 1), (1033, .iadd, 1), (1034, .iaload, 1), (1035, .invokevirtual 98, 3), (1038, .pop, 1), (1039, .goto 1766, 3)]
set_option maxRecDepth 1000000 in
theorem eL_20 : ∀ q ∈ kL_20, decode cL_law q.1 = .ok q.2 := by decide +kernel
def kL_21 : Ci_t := [(1042, .aload_n 1, 1), (1043, .aload_n 0, 1), (1044, .iload_n 3, 1), (1045, .iconst 1, 1), (1046, .iadd, 1), (1047, .iaload, 1), (1048, .aload_n 0, 1), (1049, .iload_n 3, 1), (1050, .iconst 2, 1), (1051, .iadd, 1), (1052, .iaload, 1), (1053, .aload_n 0, 1), (1054, .iload_n 3, 1), (1055, .iconst 3, 1), (1056, .iadd, 1), (1057, .iaload, 1), (1058, .invokevirtual 99, 3), (1061, .pop, 1), (1062, .aload_n 2, 1), (1063, .aload_n 0, 1), (1064, .iload_n 3, 1), (1065, .iconst 1, 1), (1066, .iadd, 1), (1067, .iaload, 1), (1068, .aload_n 0, 1), (1069, .iload_n 3, 1), (1070, .iconst 2, 1), (1071, .iadd, 1), (1072, .iaload, 1), (1073, .aload_n 0, 1), (1074, .iload_n 3, 1), (1075, .iconst 3, 1), (1076, .iadd, 1), (1077, .iaload, 1), (1078, .invokevirtual 102, 3), (1081, .pop, 1), (1082, .goto 1723, 3)]
set_option maxRecDepth 1000000 in
theorem eL_21 : ∀ q ∈ kL_21, decode cL_law q.1 = .ok q.2 := by decide +kernel
def kL_22 : Ci_t := [(1085, .aload_n 1, 1), (1086, .aload_n 0, 1), (1087, .iload_n 3, 1), (1088, .iconst 1, 1), (1089, .iadd, 1), (1090, .iaload, 1), (1091, .invokevirtual 103, 3), (1094, .pop, 1), (1095, .aload_n 2, 1), (1096, .aload_n 0, 1), (1097, .iload_n 3, 1), (1098, .iconst 1, 1), (1099, .iadd, 1), (1100, .iaload, 1), (1101, .invokevirtual 106, 3), (1104, .pop, 1), (1105, .goto 1700, 3)]
set_option maxRecDepth 1000000 in
theorem eL_22 : ∀ q ∈ kL_22, decode cL_law q.1 = .ok q.2 := by decide +kernel
def kL_23 : Ci_t := [(1108, .aload_n 1, 1), (1109, .aload_n 0, 1), (1110, .iload_n 3, 1), (1111, .iconst 1, 1), (1112, .iadd, 1), (1113, .iaload, 1), (1114, .aload_n 0, 1), (1115, .iload_n 3, 1), (1116, .iconst 2, 1), (1117, .iadd, 1), (1118, .iaload, 1), (1119, .invokevirtual 107, 3), (1122, .pop, 1), (1123, .aload_n 2, 1), (1124, .aload_n 0, 1), (1125, .iload_n 3, 1), (1126, .iconst 1, 1), (1127, .iadd, 1), (1128, .iaload, 1), (1129, .aload_n 0, 1), (1130, .iload_n 3, 1), (1131, .iconst 2, 1), (1132, .iadd, 1), (1133, .iaload, 1), (1134, .invokevirtual 110, 3), (1137, .pop, 1), (1138, .goto 1667, 3)]
set_option maxRecDepth 1000000 in
theorem eL_23 : ∀ q ∈ kL_23, decode cL_law q.1 = .ok q.2 := by decide +kernel
def kL_24 : Ci_t := [(1141, .aload_n 1, 1), (1142, .aload_n 0, 1), (1143, .iload_n 3, 1), (1144, .iconst 1, 1), (1145, .iadd, 1), (1146, .iaload, 1), (1147, .aload_n 0, 1), (1148, .iload_n 3, 1), (1149, .iconst 2, 1), (1150, .iadd, 1), (1151, .iaload, 1), (1152, .aload_n 0, 1), (1153, .iload_n 3, 1), (1154, .iconst 3, 1), (1155, .iadd, 1), (1156, .iaload, 1), (1157, .aload_n 0, 1), (1158, .iload_n 3, 1), (1159, .iconst 4, 1), (1160, .iadd, 1), (1161, .iaload, 1), (1162, .aload_n 0, 1), (1163, .iload_n 3, 1), (1164, .iconst 5, 1), (1165, .iadd, 1), (1166, .iaload, 1), (1167, .invokevirtual 111, 3), (1170, .pop, 1), (1171, .aload_n 2, 1), (1172, .aload_n 0, 1), (1173, .iload_n 3, 1), (1174, .iconst 1, 1), (1175, .iadd, 1), (1176, .iaload, 1), (1177, .aload_n 0, 1), (1178, .iload_n 3, 1), (1179, .iconst 2, 1), (1180, .iadd, 1), (1181, .iaload, 1), (1182, .aload_n 0, 1), (1183, .iload_n 3, 1), (1184, .iconst 3, 1), (1185, .iadd, 1), (1186, .iaload, 1), (1187, .aload_n 0, 1), (1188, .iload_n 3, 1), (1189, .iconst 4, 1), (1190, .iadd, 1), (1191, .iaload, 1), (1192, .aload_n 0, 1), (1193, .iload_n 3, 1), (1194, .iconst 5, 1), (1195, .iadd, 1), (1196, .iaload, 1), (1197, .invokevirtual 114, 3), (1200, .pop, 1), (1201, .goto 1604, 3)]
set_option maxRecDepth 1000000 in
theorem eL_24 : ∀ q ∈ kL_24, decode cL_law q.1 = .ok q.2 := by decide +kernel
def kL_25 : Ci_t := [(1204, .aload_n 1, 1), (1205, .aload_n 0, 1), (1206, .iload_n 3, 1), (1207, .iconst 1, 1), (1208, .iadd, 1), (1209, .iaload, 1), (1210, .aload_n 0, 1), (1211, .iload_n 3, 1), (1212, .iconst 2, 1), (1213, .iadd, 1), (1214, .iaload, 1), (1215, .aload_n 0, 1), (1216, .iload_n 3, 1), (1217, .iconst 3, 1), (1218, .iadd, 1), (1219, .iaload, 1), (1220, .aload_n 0, 1), (1221, .iload_n 3, 1), (1222, .iconst 4, 1), (1223, .iadd, 1), (1224, .iaload, 1), (1225, .aload_n 0, 1), (1226, .iload_n 3, 1), (1227, .iconst 5, 1), (1228, .iadd, 1), (1229, .iaload, 1), (1230, .invokevirtual 115, 3), (1233, .pop2, 1), (1234, .aload_n 2, 1), (1235, .aload_n 0, 1), (1236, .iload_n 3, 1), (1237, .iconst 1, 1), (1238, .iadd, 1), (1239, .iaload, 1), (1240, .aload_n 0, 1), (1241, .iload_n 3, 1), (1242, .iconst 2, 1), (1243, .iadd, 1), (1244, .iaload, 1), (1245, .aload_n 0, 1), (1246, .iload_n 3, 1), (1247, .iconst 3, 1), (1248, .iadd, 1), (1249, .iaload, 1), (1250, .aload_n 0, 1), (1251, .iload_n 3, 1), (1252, .iconst 4, 1), (1253, .iadd, 1), (1254, .iaload, 1), (1255, .aload_n 0, 1), (1256, .iload_n 3, 1), (1257, .iconst 5, 1), (1258, .iadd, 1), (1259, .iaload, 1), (1260, .invokevirtual 119, 3), (1263, .pop2, 1), (1264, .goto 1541, 3)]
set_option maxRecDepth 1000000 in
theorem eL_25 : ∀ q ∈ kL_25, decode cL_law q.1 = .ok q.2 := by decide +kernel
def kL_26 : Ci_t := [(1267, .aload_n 1, 1), (1268, .aload_n 0, 1), (1269, .iload_n 3, 1), (1270, .iconst 1, 1), (1271, .iadd, 1), (1272, .iaload, 1), (1273, .aload_n 0, 1), (1274, .iload_n 3, 1), (1275, .iconst 2, 1), (1276, .iadd, 1), (1277, .iaload, 1), (1278, .aload_n 0, 1), (1279, .iload_n 3, 1), (1280, .iconst 3, 1), (1281, .iadd, 1), (1282, .iaload, 1), (1283, .aload_n 0, 1), (1284, .iload_n 3, 1), (1285, .iconst 4, 1), (1286, .iadd, 1), (1287, .iaload, 1), (1288, .invokevirtual 120, 3), (1291, .pop, 1), (1292, .aload_n 2, 1), (1293, .aload_n 0, 1), (1294, .iload_n 3, 1), (1295, .iconst 1, 1), (1296, .iadd, 1), (1297, .iaload, 1), (1298, .aload_n 0, 1), (1299, .iload_n 3, 1), (1300, .iconst 2, 1), (1301, .iadd, 1), (1302, .iaload, 1), (1303, .aload_n 0, 1), (1304, .iload_n 3, 1), (1305, .iconst 3, 1), (1306, .iadd, 1), (1307, .iaload, 1), (1308, .aload_n 0, 1), (1309, .iload_n 3, 1), (1310, .iconst 4, 1), (1311, .iadd, 1), (1312, .iaload, 1), (1313, .invokevirtual 123, 3), (1316, .pop, 1), (1317, .goto 1488, 3)]
set_option maxRecDepth 1000000 in
theorem eL_26 : ∀ q ∈ kL_26, decode cL_law q.1 = .ok q.2 := by decide +kernel
def kL_27 : Ci_t := [(1320, .aload_n 1, 1), (1321, .aload_n 0, 1), (1322, .iload_n 3, 1), (1323, .iconst 1, 1), (1324, .iadd, 1), (1325, .iaload, 1), (1326, .aload_n 0, 1), (1327, .iload_n 3, 1), (1328, .iconst 2, 1), (1329, .iadd, 1), (1330, .iaload, 1), (1331, .aload_n 0, 1), (1332, .iload_n 3, 1), (1333, .iconst 3, 1), (1334, .iadd, 1), (1335, .iaload, 1), (1336, .aload_n 0, 1), (1337, .iload_n 3, 1), (1338, .iconst 4, 1), (1339, .iadd, 1), (1340, .iaload, 1), (1341, .invokevirtual 124, 3), (1344, .pop, 1), (1345, .aload_n 2, 1), (1346, .aload_n 0, 1), (1347, .iload_n 3, 1), (1348, .iconst 1, 1), (1349, .iadd, 1), (1350, .iaload, 1), (1351, .aload_n 0, 1), (1352, .iload_n 3, 1), (1353, .iconst 2, 1), (1354, .iadd, 1), (1355, .iaload, 1), (1356, .aload_n 0, 1), (1357, .iload_n 3, 1), (1358, .iconst 3, 1), (1359, .iadd, 1), (1360, .iaload, 1), (1361, .aload_n 0, 1), (1362, .iload_n 3, 1), (1363, .iconst 4, 1), (1364, .iadd, 1), (1365, .iaload, 1), (1366, .invokevirtual 127, 3), (1369, .pop, 1), (1370, .goto 1435, 3)]
set_option maxRecDepth 1000000 in
theorem eL_27 : ∀ q ∈ kL_27, decode cL_law q.1 = .ok q.2 := by decide +kernel
def kL_28 : Ci_t := [(1373, .aload_n 1, 1), (1374, .aload_n 0, 1), (1375, .iload_n 3, 1), (1376, .iconst 1, 1), (1377, .iadd, 1), (1378, .iaload, 1), (1379, .invokevirtual 128, 3), (1382, .pop, 1), (1383, .aload_n 2, 1), (1384, .aload_n 0, 1), (1385, .iload_n 3, 1), (1386, .iconst 1, 1), (1387, .iadd, 1), (1388, .iaload, 1), (1389, .invokevirtual 131, 3), (1392, .pop, 1), (1393, .goto 1412, 3)]
set_option maxRecDepth 1000000 in
theorem eL_28 : ∀ q ∈ kL_28, decode cL_law q.1 = .ok q.2 := by decide +kernel
def kL_29 : Ci_t := [(1396, .aload_n 1, 1), (1397, .aload_n 0, 1), (1398, .iload_n 3, 1), (1399, .iconst 1, 1), (1400, .iadd, 1), (1401, .iaload, 1), (1402, .aload_n 0, 1), (1403, .iload_n 3, 1), (1404, .iconst 2, 1), (1405, .iadd, 1), (1406, .iaload, 1), (1407, .invokevirtual 132, 3), (1410, .pop, 1), (1411, .aload_n 2, 1), (1412, .aload_n 0, 1), (1413, .iload_n 3, 1), (1414, .iconst 1, 1), (1415, .iadd, 1), (1416, .iaload, 1), (1417, .aload_n 0, 1), (1418, .iload_n 3, 1), (1419, .iconst 2, 1), (1420, .iadd, 1), (1421, .iaload, 1), (1422, .invokevirtual 135, 3), (1425, .pop, 1), (1426, .goto 1379, 3)]
set_option maxRecDepth 1000000 in
theorem eL_29 : ∀ q ∈ kL_29, decode cL_law q.1 = .ok q.2 := by decide +kernel
def kL_30 : Ci_t := [(1429, .aload_n 1, 1), (1430, .aload_n 0, 1), (1431, .iload_n 3, 1), (1432, .iconst 1, 1), (1433, .iadd, 1), (1434, .iaload, 1), (1435, .invokevirtual 136, 3), (1438, .pop, 1), (1439, .aload_n 2, 1), (1440, .aload_n 0, 1), (1441, .iload_n 3, 1), (1442, .iconst 1, 1), (1443, .iadd, 1), (1444, .iaload, 1), (1445, .invokevirtual 139, 3), (1448, .pop, 1), (1449, .goto 1356, 3)]
set_option maxRecDepth 1000000 in
theorem eL_30 : ∀ q ∈ kL_30, decode cL_law q.1 = .ok q.2 := by decide +kernel
def kL_31 : Ci_t := [(1452, .aload_n 1, 1), (1453, .aload_n 0, 1), (1454, .iload_n 3, 1), (1455, .iconst 1, 1), (1456, .iadd, 1), (1457, .iaload, 1), (1458, .invokevirtual 140, 3), (1461, .pop, 1), (1462, .aload_n 2, 1), (1463, .aload_n 0, 1), (1464, .iload_n 3, 1), (1465, .iconst 1, 1), (1466, .iadd, 1), (1467, .iaload, 1), (1468, .invokevirtual 143, 3), (1471, .pop, 1), (1472, .goto 1333, 3)]
set_option maxRecDepth 1000000 in
theorem eL_31 : ∀ q ∈ kL_31, decode cL_law q.1 = .ok q.2 := by decide +kernel
end
section
def kL_32 : Ci_t := [(1475, .aload_n 1, 1), (1476, .aload_n 0, 1), (1477, .iload_n 3, 1), (1478, .iconst 1, 1), (1479, .iadd, 1), (1480, .iaload, 1), (1481, .aload_n 0, 1), (1482, .iload_n 3, 1), (1483, .iconst 2, 1), (1484, .iadd, 1), (1485, .iaload, 1), (1486, .aload_n 0, 1), (1487, .iload_n 3, 1), (1488, .iconst 3, 1), (1489, .iadd, 1), (1490, .iaload, 1), (1491, .invokevirtual 144, 3), (1494, .pop, 1), (1495, .aload_n 2, 1), (1496, .aload_n 0, 1), (1497, .iload_n 3, 1), (1498, .iconst 1, 1), (1499, .iadd, 1), (1500, .iaload, 1), (1501, .aload_n 0, 1), (1502, .iload_n 3, 1), (1503, .iconst 2, 1), (1504, .iadd, 1), (1505, .iaload, 1), (1506, .aload_n 0, 1), (1507, .iload_n 3, 1), (1508, .iconst 3, 1), (1509, .iadd, 1), (1510, .iaload, 1), (1511, .invokevirtual 147, 3), (1514, .pop, 1), (1515, .goto 1290, 3)]
set_option maxRecDepth 1000000 in
theorem eL_32 : ∀ q ∈ kL_32, decode cL_law q.1 = .ok q.2 := by decide +kernel
def kL_33 : Ci_t := [(1518, .aload_n 1, 1), (1519, .aload_n 0, 1), (1520, .iload_n 3, 1), (1521, .iconst 1, 1), (1522, .iadd, 1), (1523, .iaload, 1), (1524, .aload_n 0, 1), (1525, .iload_n 3, 1), (1526, .iconst 2, 1), (1527, .iadd, 1), (1528, .iaload, 1), (1529, .aload_n 0, 1), (1530, .iload_n 3, 1), (1531, .iconst 3, 1), (1532, .iadd, 1), (1533, .iaload, 1), (1534, .aload_n 0, 1), (1535, .iload_n 3, 1), (1536, .iconst 4, 1), (1537, .iadd, 1), (1538, .iaload, 1), (1539, .invokevirtual 148, 3), (1542, .pop, 1), (1543, .aload_n 2, 1), (1544, .aload_n 0, 1), (1545, .iload_n 3, 1), (1546, .iconst 1, 1), (1547, .iadd, 1), (1548, .iaload, 1), (1549, .aload_n 0, 1), (1550, .iload_n 3, 1), (1551, .iconst 2, 1), (1552, .iadd, 1), (1553, .iaload, 1), (1554, .aload_n 0, 1), (1555, .iload_n 3, 1), (1556, .iconst 3, 1), (1557, .iadd, 1), (1558, .iaload, 1), (1559, .aload_n 0, 1), (1560, .iload_n 3, 1), (1561, .iconst 4, 1), (1562, .iadd, 1), (1563, .iaload, 1), (1564, .invokevirtual 151, 3), (1567, .pop, 1), (1568, .goto 1237, 3)]
set_option maxRecDepth 1000000 in
theorem eL_33 : ∀ q ∈ kL_33, decode cL_law q.1 = .ok q.2 := by decide +kernel
def kL_34 : Ci_t := [(1571, .aload_n 1, 1), (1572, .aload_n 0, 1), (1573, .iload_n 3, 1), (1574, .iconst 1, 1), (1575, .iadd, 1), (1576, .iaload, 1), (1577, .aload_n 0, 1), (1578, .iload_n 3, 1), (1579, .iconst 2, 1), (1580, .iadd, 1), (1581, .iaload, 1), (1582, .aload_n 0, 1), (1583, .iload_n 3, 1), (1584, .iconst 3, 1), (1585, .iadd, 1), (1586, .iaload, 1), (1587, .aload_n 0, 1), (1588, .iload_n 3, 1), (1589, .iconst 4, 1), (1590, .iadd, 1), (1591, .iaload, 1), (1592, .invokevirtual 152, 3), (1595, .pop, 1), (1596, .aload_n 2, 1), (1597, .aload_n 0, 1), (1598, .iload_n 3, 1), (1599, .iconst 1, 1), (1600, .iadd, 1), (1601, .iaload, 1), (1602, .aload_n 0, 1), (1603, .iload_n 3, 1), (1604, .iconst 2, 1), (1605, .iadd, 1), (1606, .iaload, 1), (1607, .aload_n 0, 1), (1608, .iload_n 3, 1), (1609, .iconst 3, 1), (1610, .iadd, 1), (1611, .iaload, 1), (1612, .aload_n 0, 1), (1613, .iload_n 3, 1), (1614, .iconst 4, 1), (1615, .iadd, 1), (1616, .iaload, 1), (1617, .invokevirtual 155, 3), (1620, .pop, 1), (1621, .goto 1184, 3)]
set_option maxRecDepth 1000000 in
theorem eL_34 : ∀ q ∈ kL_34, decode cL_law q.1 = .ok q.2 := by decide +kernel
def kL_35 : Ci_t := [(1624, .aload_n 1, 1), (1625, .aload_n 0, 1), (1626, .iload_n 3, 1), (1627, .iconst 1, 1), (1628, .iadd, 1), (1629, .iaload, 1), (1630, .aload_n 0, 1), (1631, .iload_n 3, 1), (1632, .iconst 2, 1), (1633, .iadd, 1), (1634, .iaload, 1), (1635, .aload_n 0, 1), (1636, .iload_n 3, 1), (1637, .iconst 3, 1), (1638, .iadd, 1), (1639, .iaload, 1), (1640, .invokevirtual 156, 3), (1643, .pop, 1), (1644, .aload_n 2, 1), (1645, .aload_n 0, 1), (1646, .iload_n 3, 1), (1647, .iconst 1, 1), (1648, .iadd, 1), (1649, .iaload, 1), (1650, .aload_n 0, 1), (1651, .iload_n 3, 1), (1652, .iconst 2, 1), (1653, .iadd, 1), (1654, .iaload, 1), (1655, .aload_n 0, 1), (1656, .iload_n 3, 1), (1657, .iconst 3, 1), (1658, .iadd, 1), (1659, .iaload, 1), (1660, .invokevirtual 159, 3), (1663, .pop, 1), (1664, .goto 1141, 3)]
set_option maxRecDepth 1000000 in
theorem eL_35 : ∀ q ∈ kL_35, decode cL_law q.1 = .ok q.2 := by decide +kernel
def kL_36 : Ci_t := [(1667, .aload_n 1, 1), (1668, .aload_n 0, 1), (1669, .iload_n 3, 1), (1670, .iconst 1, 1), (1671, .iadd, 1), (1672, .iaload, 1), (1673, .aload_n 0, 1), (1674, .iload_n 3, 1), (1675, .iconst 2, 1), (1676, .iadd, 1), (1677, .iaload, 1), (1678, .aload_n 0, 1), (1679, .iload_n 3, 1), (1680, .iconst 3, 1), (1681, .iadd, 1), (1682, .iaload, 1), (1683, .invokevirtual 160, 3), (1686, .pop, 1), (1687, .aload_n 2, 1), (1688, .aload_n 0, 1), (1689, .iload_n 3, 1), (1690, .iconst 1, 1), (1691, .iadd, 1), (1692, .iaload, 1), (1693, .aload_n 0, 1), (1694, .iload_n 3, 1), (1695, .iconst 2, 1), (1696, .iadd, 1), (1697, .iaload, 1), (1698, .aload_n 0, 1), (1699, .iload_n 3, 1), (1700, .iconst 3, 1), (1701, .iadd, 1), (1702, .iaload, 1), (1703, .invokevirtual 163, 3), (1706, .pop, 1), (1707, .goto 1098, 3)]
set_option maxRecDepth 1000000 in
theorem eL_36 : ∀ q ∈ kL_36, decode cL_law q.1 = .ok q.2 := by decide +kernel
def kL_37 : Ci_t := [(1710, .aload_n 1, 1), (1711, .aload_n 0, 1), (1712, .iload_n 3, 1), (1713, .iconst 1, 1), (1714, .iadd, 1), (1715, .iaload, 1), (1716, .invokevirtual 164, 3), (1719, .pop, 1), (1720, .aload_n 2, 1), (1721, .aload_n 0, 1), (1722, .iload_n 3, 1), (1723, .iconst 1, 1), (1724, .iadd, 1), (1725, .iaload, 1), (1726, .invokevirtual 167, 3), (1729, .pop, 1), (1730, .goto 1075, 3)]
set_option maxRecDepth 1000000 in
theorem eL_37 : ∀ q ∈ kL_37, decode cL_law q.1 = .ok q.2 := by decide +kernel
def kL_38 : Ci_t := [(1733, .aload_n 1, 1), (1734, .aload_n 0, 1), (1735, .iload_n 3, 1), (1736, .iconst 1, 1), (1737, .iadd, 1), (1738, .iaload, 1), (1739, .aload_n 0, 1), (1740, .iload_n 3, 1), (1741, .iconst 2, 1), (1742, .iadd, 1), (1743, .iaload, 1), (1744, .invokevirtual 168, 3), (1747, .pop, 1), (1748, .aload_n 2, 1), (1749, .aload_n 0, 1), (1750, .iload_n 3, 1), (1751, .iconst 1, 1), (1752, .iadd, 1), (1753, .iaload, 1), (1754, .aload_n 0, 1), (1755, .iload_n 3, 1), (1756, .iconst 2, 1), (1757, .iadd, 1), (1758, .iaload, 1), (1759, .invokevirtual 171, 3), (1762, .pop, 1), (1763, .goto 1042, 3)]
set_option maxRecDepth 1000000 in
theorem eL_38 : ∀ q ∈ kL_38, decode cL_law q.1 = .ok q.2 := by decide +kernel
def kL_39 : Ci_t := [(1766, .aload_n 1, 1), (1767, .invokevirtual 172, 3), (1770, .pop, 1), (1771, .aload_n 2, 1), (1772, .invokevirtual 175, 3), (1775, .pop, 1), (1776, .goto 1029, 3)]
set_option maxRecDepth 1000000 in
theorem eL_39 : ∀ q ∈ kL_39, decode cL_law q.1 = .ok q.2 := by decide +kernel
def kL_40 : Ci_t := [(1779, .aload_n 1, 1), (1780, .aload_n 0, 1), (1781, .iload_n 3, 1), (1782, .iconst 1, 1), (1783, .iadd, 1), (1784, .iaload, 1), (1785, .aload_n 0, 1), (1786, .iload_n 3, 1), (1787, .iconst 2, 1), (1788, .iadd, 1), (1789, .iaload, 1), (1790, .aload_n 0, 1), (1791, .iload_n 3, 1), (1792, .iconst 3, 1), (1793, .iadd, 1), (1794, .iaload, 1), (1795, .invokevirtual 176, 3), (1798, .pop, 1), (1799, .aload_n 2, 1), (1800, .aload_n 0, 1), (1801, .iload_n 3, 1), (1802, .iconst 1, 1), (1803, .iadd, 1), (1804, .iaload, 1), (1805, .aload_n 0, 1), (1806, .iload_n 3, 1), (1807, .iconst 2, 1), (1808, .iadd, 1), (1809, .iaload, 1), (1810, .aload_n 0, 1), (1811, .iload_n 3, 1), (1812, .iconst 3, 1), (1813, .iadd, 1), (1814, .iaload, 1), (1815, .invokevirtual 179, 3), (1818, .pop, 1), (1819, .goto 986, 3)]
set_option maxRecDepth 1000000 in
theorem eL_40 : ∀ q ∈ kL_40, decode cL_law q.1 = .ok q.2 := by decide +kernel
def kL_41 : Ci_t := [(1822, .aload_n 1, 1), (1823, .aload_n 0, 1), (1824, .iload_n 3, 1), (1825, .iconst 1, 1), (1826, .iadd, 1), (1827, .iaload, 1), (1828, .aload_n 0, 1), (1829, .iload_n 3, 1), (1830, .iconst 2, 1), (1831, .iadd, 1), (1832, .iaload, 1), (1833, .aload_n 0, 1), (1834, .iload_n 3, 1), (1835, .iconst 3, 1), (1836, .iadd, 1), (1837, .iaload, 1), (1838, .aload_n 0, 1), (1839, .iload_n 3, 1), (1840, .iconst 4, 1), (1841, .iadd, 1), (1842, .iaload, 1), (1843, .invokevirtual 180, 3), (1846, .pop, 1), (1847, .aload_n 2, 1), (1848, .aload_n 0, 1), (1849, .iload_n 3, 1), (1850, .iconst 1, 1), (1851, .iadd, 1), (1852, .iaload, 1), (1853, .aload_n 0, 1), (1854, .iload_n 3, 1), (1855, .iconst 2, 1), (1856, .iadd, 1), (1857, .iaload, 1), (1858, .aload_n 0, 1), (1859, .iload_n 3, 1), (1860, .iconst 3, 1), (1861, .iadd, 1), (1862, .iaload, 1), (1863, .aload_n 0, 1), (1864, .iload_n 3, 1), (1865, .iconst 4, 1), (1866, .iadd, 1), (1867, .iaload, 1), (1868, .invokevirtual 183, 3), (1871, .pop, 1), (1872, .goto 933, 3)]
set_option maxRecDepth 1000000 in
theorem eL_41 : ∀ q ∈ kL_41, decode cL_law q.1 = .ok q.2 := by decide +kernel
def kL_42 : Ci_t := [(1875, .aload_n 1, 1), (1876, .aload_n 0, 1), (1877, .iload_n 3, 1), (1878, .iconst 1, 1), (1879, .iadd, 1), (1880, .iaload, 1), (1881, .aload_n 0, 1), (1882, .iload_n 3, 1), (1883, .iconst 2, 1), (1884, .iadd, 1), (1885, .iaload, 1), (1886, .aload_n 0, 1), (1887, .iload_n 3, 1), (1888, .iconst 3, 1), (1889, .iadd, 1), (1890, .iaload, 1), (1891, .invokevirtual 184, 3), (1894, .pop, 1), (1895, .aload_n 2, 1), (1896, .aload_n 0, 1), (1897, .iload_n 3, 1), (1898, .iconst 1, 1), (1899, .iadd, 1), (1900, .iaload, 1), (1901, .aload_n 0, 1), (1902, .iload_n 3, 1), (1903, .iconst 2, 1), (1904, .iadd, 1), (1905, .iaload, 1), (1906, .aload_n 0, 1), (1907, .iload_n 3, 1), (1908, .iconst 3, 1), (1909, .iadd, 1), (1910, .iaload, 1), (1911, .invokevirtual 187, 3), (1914, .pop, 1), (1915, .goto 890, 3)]
set_option maxRecDepth 1000000 in
theorem eL_42 : ∀ q ∈ kL_42, decode cL_law q.1 = .ok q.2 := by decide +kernel
def kL_43 : Ci_t := [(1918, .aload_n 1, 1), (1919, .aload_n 0, 1), (1920, .iload_n 3, 1), (1921, .iconst 1, 1), (1922, .iadd, 1), (1923, .iaload, 1), (1924, .aload_n 0, 1), (1925, .iload_n 3, 1), (1926, .iconst 2, 1), (1927, .iadd, 1), (1928, .iaload, 1), (1929, .aload_n 0, 1), (1930, .iload_n 3, 1), (1931, .iconst 3, 1), (1932, .iadd, 1), (1933, .iaload, 1), (1934, .aload_n 0, 1), (1935, .iload_n 3, 1), (1936, .iconst 4, 1), (1937, .iadd, 1), (1938, .iaload, 1), (1939, .invokevirtual 188, 3), (1942, .pop, 1), (1943, .aload_n 2, 1), (1944, .aload_n 0, 1), (1945, .iload_n 3, 1), (1946, .iconst 1, 1), (1947, .iadd, 1), (1948, .iaload, 1), (1949, .aload_n 0, 1), (1950, .iload_n 3, 1), (1951, .iconst 2, 1), (1952, .iadd, 1), (1953, .iaload, 1), (1954, .aload_n 0, 1), (1955, .iload_n 3, 1), (1956, .iconst 3, 1), (1957, .iadd, 1), (1958, .iaload, 1), (1959, .aload_n 0, 1), (1960, .iload_n 3, 1), (1961, .iconst 4, 1), (1962, .iadd, 1), (1963, .iaload, 1), (1964, .invokevirtual 191, 3), (1967, .pop, 1), (1968, .goto 837, 3)]
set_option maxRecDepth 1000000 in
theorem eL_43 : ∀ q ∈ kL_43, decode cL_law q.1 = .ok q.2 := by decide +kernel
def kL_44 : Ci_t := [(1971, .aload_n 1, 1), (1972, .aload_n 0, 1), (1973, .iload_n 3, 1), (1974, .iconst 1, 1), (1975, .iadd, 1), (1976, .iaload, 1), (1977, .aload_n 0, 1), (1978, .iload_n 3, 1), (1979, .iconst 2, 1), (1980, .iadd, 1), (1981, .iaload, 1), (1982, .aload_n 0, 1), (1983, .iload_n 3, 1), (1984, .iconst 3, 1), (1985, .iadd, 1), (1986, .iaload, 1), (1987, .aload_n 0, 1), (1988, .iload_n 3, 1), (1989, .iconst 4, 1), (1990, .iadd, 1), (1991, .iaload, 1), (1992, .invokevirtual 192, 3), (1995, .pop, 1), (1996, .aload_n 2, 1), (1997, .aload_n 0, 1), (1998, .iload_n 3, 1), (1999, .iconst 1, 1), (2000, .iadd, 1), (2001, .iaload, 1), (2002, .aload_n 0, 1), (2003, .iload_n 3, 1), (2004, .iconst 2, 1), (2005, .iadd, 1), (2006, .iaload, 1), (2007, .aload_n 0, 1), (2008, .iload_n 3, 1), (2009, .iconst 3, 1), (2010, .iadd, 1), (2011, .iaload, 1), (2012, .aload_n 0, 1), (2013, .iload_n 3, 1), (2014, .iconst 4, 1), (2015, .iadd, 1), (2016, .iaload, 1), (2017, .invokevirtual 195, 3), (2020, .pop, 1), (2021, .goto 784, 3)]
set_option maxRecDepth 1000000 in
theorem eL_44 : ∀ q ∈ kL_44, decode cL_law q.1 = .ok q.2 := by decide +kernel
def kL_45 : Ci_t := [(2024, .aload_n 1, 1), (2025, .aload_n 0, 1), (2026, .iload_n 3, 1), (2027, .iconst 1, 1), (2028, .iadd, 1), (2029, .iaload, 1), (2030, .aload_n 0, 1), (2031, .iload_n 3, 1), (2032, .iconst 2, 1), (2033, .iadd, 1), (2034, .iaload, 1), (2035, .aload_n 0, 1), (2036, .iload_n 3, 1), (2037, .iconst 3, 1), (2038, .iadd, 1), (2039, .iaload, 1), (2040, .aload_n 0, 1), (2041, .iload_n 3, 1), (2042, .iconst 4, 1), (2043, .iadd, 1), (2044, .iaload, 1), (2045, .invokevirtual 196, 3), (2048, .pop, 1), (2049, .aload_n 2, 1), (2050, .aload_n 0, 1), (2051, .iload_n 3, 1), (2052, .iconst 1, 1), (2053, .iadd, 1), (2054, .iaload, 1), (2055, .aload_n 0, 1), (2056, .iload_n 3, 1), (2057, .iconst 2, 1), (2058, .iadd, 1), (2059, .iaload, 1), (2060, .aload_n 0, 1), (2061, .iload_n 3, 1), (2062, .iconst 3, 1), (2063, .iadd, 1), (2064, .iaload, 1), (2065, .aload_n 0, 1), (2066, .iload_n 3, 1), (2067, .iconst 4, 1), (2068, .iadd, 1), (2069, .iaload, 1), (2070, .invokevirtual 199, 3), (2073, .pop, 1), (2074, .goto 731, 3)]
set_option maxRecDepth 1000000 in
theorem eL_45 : ∀ q ∈ kL_45, decode cL_law q.1 = .ok q.2 := by decide +kernel
def kL_46 : Ci_t := [(2077, .aload_n 1, 1), (2078, .aload_n 0, 1), (2079, .iload_n 3, 1), (2080, .iconst 1, 1), (2081, .iadd, 1), (2082, .iaload, 1), (2083, .aload_n 0, 1), (2084, .iload_n 3, 1), (2085, .iconst 2, 1), (2086, .iadd, 1), (2087, .iaload, 1), (2088, .aload_n 0, 1), (2089, .iload_n 3, 1), (2090, .iconst 3, 1), (2091, .iadd, 1), (2092, .iaload, 1), (2093, .aload_n 0, 1), (2094, .iload_n 3, 1), (2095, .iconst 4, 1), (2096, .iadd, 1), (2097, .iaload, 1), (2098, .aload_n 0, 1), (2099, .iload_n 3, 1), (2100, .iconst 5, 1), (2101, .iadd, 1), (2102, .iaload, 1), (2103, .invokevirtual 200, 3), (2106, .pop, 1), (2107, .aload_n 2, 1), (2108, .aload_n 0, 1), (2109, .iload_n 3, 1), (2110, .iconst 1, 1), (2111, .iadd, 1), (2112, .iaload, 1), (2113, .aload_n 0, 1), (2114, .iload_n 3, 1), (2115, .iconst 2, 1), (2116, .iadd, 1), (2117, .iaload, 1), (2118, .aload_n 0, 1), (2119, .iload_n 3, 1), (2120, .iconst 3, 1), (2121, .iadd, 1), (2122, .iaload, 1), (2123, .aload_n 0, 1), (2124, .iload_n 3, 1), (2125, .iconst 4, 1), (2126, .iadd, 1), (2127, .iaload, 1), (2128, .aload_n 0, 1), (2129, .iload_n 3, 1), (2130, .iconst 5, 1), (2131, .iadd, 1), (2132, .iaload, 1), (2133, .invokevirtual 203, 3), (2136, .pop, 1), (2137, .goto 668, 3)]
set_option maxRecDepth 1000000 in
theorem eL_46 : ∀ q ∈ kL_46, decode cL_law q.1 = .ok q.2 := by decide +kernel
def kL_47 : Ci_t := [(2140, .aload_n 1, 1), (2141, .aload_n 0, 1), (2142, .iload_n 3, 1), (2143, .iconst 1, 1), (2144, .iadd, 1), (2145, .iaload, 1), (2146, .aload_n 0, 1), (2147, .iload_n 3, 1), (2148, .iconst 2, 1), (2149, .iadd, 1), (2150, .iaload, 1), (2151, .aload_n 0, 1), (2152, .iload_n 3, 1), (2153, .iconst 3, 1), (2154, .iadd, 1), (2155, .iaload, 1), (2156, .aload_n 0, 1), (2157, .iload_n 3, 1), (2158, .iconst 4, 1), (2159, .iadd, 1), (2160, .iaload, 1), (2161, .aload_n 0, 1), (2162, .iload_n 3, 1), (2163, .iconst 5, 1), (2164, .iadd, 1), (2165, .iaload, 1), (2166, .invokevirtual 204, 3), (2169, .pop, 1), (2170, .aload_n 2, 1), (2171, .aload_n 0, 1), (2172, .iload_n 3, 1), (2173, .iconst 1, 1), (2174, .iadd, 1), (2175, .iaload, 1), (2176, .aload_n 0, 1), (2177, .iload_n 3, 1), (2178, .iconst 2, 1), (2179, .iadd, 1), (2180, .iaload, 1), (2181, .aload_n 0, 1), (2182, .iload_n 3, 1), (2183, .iconst 3, 1), (2184, .iadd, 1), (2185, .iaload, 1), (2186, .aload_n 0, 1), (2187, .iload_n 3, 1), (2188, .iconst 4, 1), (2189, .iadd, 1), (2190, .iaload, 1), (2191, .aload_n 0, 1), (2192, .iload_n 3, 1), (2193, .iconst 5, 1), (2194, .iadd, 1), (2195, .iaload, 1), (2196, .invokevirtual 207, 3), (2199, .pop, 1), (2200, .goto 605, 3)]
set_option maxRecDepth 1000000 in
theorem eL_47 : ∀ q ∈ kL_47, decode cL_law q.1 = .ok q.2 := by decide +kernel
end
section
def kL_48 : Ci_t := [(2203, .aload_n 1, 1), (2204, .aload_n 0, 1), (2205, .iload_n 3, 1), (2206, .iconst 1, 1), (2207, .iadd, 1), (2208, .iaload, 1), (2209, .aload_n 0, 1), (2210, .iload_n 3, 1), (2211, .iconst 2, 1), (2212, .iadd, 1), (2213, .iaload, 1), (2214, .aload_n 0, 1), (2215, .iload_n 3, 1), (2216, .iconst 3, 1), (2217, .iadd, 1), (2218, .iaload, 1), (2219, .aload_n 0, 1), (2220, .iload_n 3, 1), (2221, .iconst 4, 1), (2222, .iadd, 1), (2223, .iaload, 1), (2224, .invokevirtual 208, 3), (2227, .pop, 1), (2228, .aload_n 2, 1), (2229, .aload_n 0, 1), (2230, .iload_n 3, 1), (2231, .iconst 1, 1), (2232, .iadd, 1), (2233, .iaload, 1), (2234, .aload_n 0, 1), (2235, .iload_n 3, 1), (2236, .iconst 2, 1), (2237, .iadd, 1), (2238, .iaload, 1), (2239, .aload_n 0, 1), (2240, .iload_n 3, 1), (2241, .iconst 3, 1), (2242, .iadd, 1), (2243, .iaload, 1), (2244, .aload_n 0, 1), (2245, .iload_n 3, 1), (2246, .iconst 4, 1), (2247, .iadd, 1), (2248, .iaload, 1), (2249, .invokevirtual 211, 3), (2252, .pop, 1), (2253, .goto 552, 3)]
set_option maxRecDepth 1000000 in
theorem eL_48 : ∀ q ∈ kL_48, decode cL_law q.1 = .ok q.2 := by decide +kernel
def kL_49 : Ci_t := [(2256, .aload_n 1, 1), (2257, .aload_n 0, 1), (2258, .iload_n 3, 1), (2259, .iconst 1, 1), (2260, .iadd, 1), (2261, .iaload, 1), (2262, .aload_n 0, 1), (2263, .iload_n 3, 1), (2264, .iconst 2, 1), (2265, .iadd, 1), (2266, .iaload, 1), (2267, .aload_n 0, 1), (2268, .iload_n 3, 1), (2269, .iconst 3, 1), (2270, .iadd, 1), (2271, .iaload, 1), (2272, .aload_n 0, 1), (2273, .iload_n 3, 1), (2274, .iconst 4, 1), (2275, .iadd, 1), (2276, .iaload, 1), (2277, .invokevirtual 212, 3), (2280, .pop, 1), (2281, .aload_n 2, 1), (2282, .aload_n 0, 1), (2283, .iload_n 3, 1), (2284, .iconst 1, 1), (2285, .iadd, 1), (2286, .iaload, 1), (2287, .aload_n 0, 1), (2288, .iload_n 3, 1), (2289, .iconst 2, 1), (2290, .iadd, 1), (2291, .iaload, 1), (2292, .aload_n 0, 1), (2293, .iload_n 3, 1), (2294, .iconst 3, 1), (2295, .iadd, 1), (2296, .iaload, 1), (2297, .aload_n 0, 1), (2298, .iload_n 3, 1), (2299, .iconst 4, 1), (2300, .iadd, 1), (2301, .iaload, 1), (2302, .invokevirtual 215, 3), (2305, .pop, 1), (2306, .goto 499, 3)]
set_option maxRecDepth 1000000 in
theorem eL_49 : ∀ q ∈ kL_49, decode cL_law q.1 = .ok q.2 := by decide +kernel
def kL_50 : Ci_t := [(2309, .aload_n 1, 1), (2310, .aload_n 0, 1), (2311, .iload_n 3, 1), (2312, .iconst 1, 1), (2313, .iadd, 1), (2314, .iaload, 1), (2315, .aload_n 0, 1), (2316, .iload_n 3, 1), (2317, .iconst 2, 1), (2318, .iadd, 1), (2319, .iaload, 1), (2320, .aload_n 0, 1), (2321, .iload_n 3, 1), (2322, .iconst 3, 1), (2323, .iadd, 1), (2324, .iaload, 1), (2325, .aload_n 0, 1), (2326, .iload_n 3, 1), (2327, .iconst 4, 1), (2328, .iadd, 1), (2329, .iaload, 1), (2330, .invokevirtual 216, 3), (2333, .pop, 1), (2334, .aload_n 2, 1), (2335, .aload_n 0, 1), (2336, .iload_n 3, 1), (2337, .iconst 1, 1), (2338, .iadd, 1), (2339, .iaload, 1), (2340, .aload_n 0, 1), (2341, .iload_n 3, 1), (2342, .iconst 2, 1), (2343, .iadd, 1), (2344, .iaload, 1), (2345, .aload_n 0, 1), (2346, .iload_n 3, 1), (2347, .iconst 3, 1), (2348, .iadd, 1), (2349, .iaload, 1), (2350, .aload_n 0, 1), (2351, .iload_n 3, 1), (2352, .iconst 4, 1), (2353, .iadd, 1), (2354, .iaload, 1), (2355, .invokevirtual 219, 3), (2358, .pop, 1), (2359, .goto 446, 3)]
set_option maxRecDepth 1000000 in
theorem eL_50 : ∀ q ∈ kL_50, decode cL_law q.1 = .ok q.2 := by decide +kernel
def kL_51 : Ci_t := [(2362, .aload_n 1, 1), (2363, .aload_n 0, 1), (2364, .iload_n 3, 1), (2365, .iconst 1, 1), (2366, .iadd, 1), (2367, .iaload, 1), (2368, .aload_n 0, 1), (2369, .iload_n 3, 1), (2370, .iconst 2, 1), (2371, .iadd, 1), (2372, .iaload, 1), (2373, .aload_n 0, 1), (2374, .iload_n 3, 1), (2375, .iconst 3, 1), (2376, .iadd, 1), (2377, .iaload, 1), (2378, .invokevirtual 220, 3), (2381, .pop, 1), (2382, .aload_n 2, 1), (2383, .aload_n 0, 1), (2384, .iload_n 3, 1), (2385, .iconst 1, 1), (2386, .iadd, 1), (2387, .iaload, 1), (2388, .aload_n 0, 1), (2389, .iload_n 3, 1), (2390, .iconst 2, 1), (2391, .iadd, 1), (2392, .iaload, 1), (2393, .aload_n 0, 1), (2394, .iload_n 3, 1), (2395, .iconst 3, 1), (2396, .iadd, 1), (2397, .iaload, 1), (2398, .invokevirtual 223, 3), (2401, .pop, 1), (2402, .goto 403, 3)]
set_option maxRecDepth 1000000 in
theorem eL_51 : ∀ q ∈ kL_51, decode cL_law q.1 = .ok q.2 := by decide +kernel
def kL_52 : Ci_t := [(2405, .aload_n 1, 1), (2406, .aload_n 0, 1), (2407, .iload_n 3, 1), (2408, .iconst 1, 1), (2409, .iadd, 1), (2410, .iaload, 1), (2411, .invokevirtual 224, 3), (2414, .pop, 1), (2415, .aload_n 2, 1), (2416, .aload_n 0, 1), (2417, .iload_n 3, 1), (2418, .iconst 1, 1), (2419, .iadd, 1), (2420, .iaload, 1), (2421, .invokevirtual 227, 3), (2424, .pop, 1), (2425, .goto 380, 3)]
set_option maxRecDepth 1000000 in
theorem eL_52 : ∀ q ∈ kL_52, decode cL_law q.1 = .ok q.2 := by decide +kernel
def kL_53 : Ci_t := [(2428, .aload_n 1, 1), (2429, .invokevirtual 228, 3), (2432, .pop, 1), (2433, .aload_n 2, 1), (2434, .invokevirtual 231, 3), (2437, .pop, 1), (2438, .goto 367, 3)]
set_option maxRecDepth 1000000 in
theorem eL_53 : ∀ q ∈ kL_53, decode cL_law q.1 = .ok q.2 := by decide +kernel
def kL_54 : Ci_t := [(2441, .aload_n 1, 1), (2442, .aload_n 0, 1), (2443, .iload_n 3, 1), (2444, .iconst 1, 1), (2445, .iadd, 1), (2446, .iaload, 1), (2447, .aload_n 0, 1), (2448, .iload_n 3, 1), (2449, .iconst 2, 1), (2450, .iadd, 1), (2451, .iaload, 1), (2452, .aload_n 0, 1), (2453, .iload_n 3, 1), (2454, .iconst 3, 1), (2455, .iadd, 1), (2456, .iaload, 1), (2457, .aload_n 0, 1), (2458, .iload_n 3, 1), (2459, .iconst 4, 1), (2460, .iadd, 1), (2461, .iaload, 1), (2462, .invokevirtual 232, 3), (2465, .pop, 1), (2466, .aload_n 2, 1), (2467, .aload_n 0, 1), (2468, .iload_n 3, 1), (2469, .iconst 1, 1), (2470, .iadd, 1), (2471, .iaload, 1), (2472, .aload_n 0, 1), (2473, .iload_n 3, 1), (2474, .iconst 2, 1), (2475, .iadd, 1), (2476, .iaload, 1), (2477, .aload_n 0, 1), (2478, .iload_n 3, 1), (2479, .iconst 3, 1), (2480, .iadd, 1), (2481, .iaload, 1), (2482, .aload_n 0, 1), (2483, .iload_n 3, 1), (2484, .iconst 4, 1), (2485, .iadd, 1), (2486, .iaload, 1), (2487, .invokevirtual 235, 3), (2490, .pop, 1), (2491, .goto 314, 3)]
set_option maxRecDepth 1000000 in
theorem eL_54 : ∀ q ∈ kL_54, decode cL_law q.1 = .ok q.2 := by decide +kernel
def kL_55 : Ci_t := [(2494, .aload_n 1, 1), (2495, .aload_n 0, 1), (2496, .iload_n 3, 1), (2497, .iconst 1, 1), (2498, .iadd, 1), (2499, .iaload, 1), (2500, .aload_n 0, 1), (2501, .iload_n 3, 1), (2502, .iconst 2, 1), (2503, .iadd, 1), (2504, .iaload, 1), (2505, .aload_n 0, 1), (2506, .iload_n 3, 1), (2507, .iconst 3, 1), (2508, .iadd, 1), (2509, .iaload, 1), (2510, .aload_n 0, 1), (2511, .iload_n 3, 1), (2512, .iconst 4, 1), (2513, .iadd, 1), (2514, .iaload, 1), (2515, .aload_n 0, 1), (2516, .iload_n 3, 1), (2517, .iconst 5, 1), (2518, .iadd, 1), (2519, .iaload, 1), (2520, .invokevirtual 236, 3), (2523, .pop, 1), (2524, .aload_n 2, 1), (2525, .aload_n 0, 1), (2526, .iload_n 3, 1), (2527, .iconst 1, 1), (2528, .iadd, 1), (2529, .iaload, 1), (2530, .aload_n 0, 1), (2531, .iload_n 3, 1), (2532, .iconst 2, 1), (2533, .iadd, 1), (2534, .iaload, 1), (2535, .aload_n 0, 1), (2536, .iload_n 3, 1), (2537, .iconst 3, 1), (2538, .iadd, 1), (2539, .iaload, 1), (2540, .aload_n 0, 1), (2541, .iload_n 3, 1), (2542, .iconst 4, 1), (2543, .iadd, 1), (2544, .iaload, 1), (2545, .aload_n 0, 1), (2546, .iload_n 3, 1), (2547, .iconst 5, 1), (2548, .iadd, 1), (2549, .iaload, 1), (2550, .invokevirtual 239, 3), (2553, .pop, 1), (2554, .goto 251, 3)]
set_option maxRecDepth 1000000 in
theorem eL_55 : ∀ q ∈ kL_55, decode cL_law q.1 = .ok q.2 := by decide +kernel
def kL_56 : Ci_t := [(2557, .aload_n 1, 1), (2558, .aload_n 0, 1), (2559, .iload_n 3, 1), (2560, .iconst 1, 1), (2561, .iadd, 1), (2562, .iaload, 1), (2563, .invokevirtual 240, 3), (2566, .pop, 1), (2567, .aload_n 2, 1), (2568, .aload_n 0, 1), (2569, .iload_n 3, 1), (2570, .iconst 1, 1), (2571, .iadd, 1), (2572, .iaload, 1), (2573, .invokevirtual 243, 3), (2576, .pop, 1), (2577, .goto 228, 3)]
set_option maxRecDepth 1000000 in
theorem eL_56 : ∀ q ∈ kL_56, decode cL_law q.1 = .ok q.2 := by decide +kernel
def kL_57 : Ci_t := [(2580, .aload_n 1, 1), (2581, .aload_n 0, 1), (2582, .iload_n 3, 1), (2583, .iconst 1, 1), (2584, .iadd, 1), (2585, .iaload, 1), (2586, .invokevirtual 244, 3), (2589, .aload_n 2, 1), (2590, .aload_n 0, 1), (2591, .iload_n 3, 1), (2592, .iconst 1, 1), (2593, .iadd, 1), (2594, .iaload, 1), (2595, .invokevirtual 247, 3), (2598, .if_icmp .eq 207, 3), (2601, .iconst 0, 1), (2602, .ireturn, 1)]
set_option maxRecDepth 1000000 in
theorem eL_57 : ∀ q ∈ kL_57, decode cL_law q.1 = .ok q.2 := by decide +kernel
def kL_58 : Ci_t := [(2603, .aload_n 1, 1), (2604, .aload_n 0, 1), (2605, .iload_n 3, 1), (2606, .iconst 1, 1), (2607, .iadd, 1), (2608, .iaload, 1), (2609, .invokevirtual 248, 3), (2612, .pop, 1), (2613, .aload_n 2, 1), (2614, .aload_n 0, 1), (2615, .iload_n 3, 1), (2616, .iconst 1, 1), (2617, .iadd, 1), (2618, .iaload, 1), (2619, .invokevirtual 251, 3), (2622, .pop, 1), (2623, .goto 182, 3)]
set_option maxRecDepth 1000000 in
theorem eL_58 : ∀ q ∈ kL_58, decode cL_law q.1 = .ok q.2 := by decide +kernel
def kL_59 : Ci_t := [(2626, .aload_n 1, 1), (2627, .aload_n 0, 1), (2628, .iload_n 3, 1), (2629, .iconst 1, 1), (2630, .iadd, 1), (2631, .iaload, 1), (2632, .aload_n 0, 1), (2633, .iload_n 3, 1), (2634, .iconst 2, 1), (2635, .iadd, 1), (2636, .iaload, 1), (2637, .aload_n 0, 1), (2638, .iload_n 3, 1), (2639, .iconst 3, 1), (2640, .iadd, 1), (2641, .iaload, 1), (2642, .invokevirtual 252, 3), (2645, .pop, 1), (2646, .aload_n 2, 1), (2647, .aload_n 0, 1), (2648, .iload_n 3, 1), (2649, .iconst 1, 1), (2650, .iadd, 1), (2651, .iaload, 1), (2652, .aload_n 0, 1), (2653, .iload_n 3, 1), (2654, .iconst 2, 1), (2655, .iadd, 1), (2656, .iaload, 1), (2657, .aload_n 0, 1), (2658, .iload_n 3, 1), (2659, .iconst 3, 1), (2660, .iadd, 1), (2661, .iaload, 1), (2662, .invokevirtual 255, 3), (2665, .pop, 1), (2666, .goto 139, 3)]
set_option maxRecDepth 1000000 in
theorem eL_59 : ∀ q ∈ kL_59, decode cL_law q.1 = .ok q.2 := by decide +kernel
def kL_60 : Ci_t := [(2669, .aload_n 1, 1), (2670, .aload_n 0, 1), (2671, .iload_n 3, 1), (2672, .iconst 1, 1), (2673, .iadd, 1), (2674, .iaload, 1), (2675, .aload_n 0, 1), (2676, .iload_n 3, 1), (2677, .iconst 2, 1), (2678, .iadd, 1), (2679, .iaload, 1), (2680, .aload_n 0, 1), (2681, .iload_n 3, 1), (2682, .iconst 3, 1), (2683, .iadd, 1), (2684, .iaload, 1), (2685, .i2l, 1), (2686, .bipush 32, 2), (2688, .lshl, 1), (2689, .aload_n 0, 1), (2690, .iload_n 3, 1), (2691, .iconst 4, 1), (2692, .iadd, 1), (2693, .iaload, 1), (2694, .i2l, 1), (2695, .ldc2_w 256, 3), (2698, .land, 1), (2699, .lor, 1), (2700, .invokevirtual 258, 3), (2703, .pop, 1), (2704, .aload_n 2, 1), (2705, .aload_n 0, 1), (2706, .iload_n 3, 1), (2707, .iconst 1, 1), (2708, .iadd, 1), (2709, .iaload, 1), (2710, .aload_n 0, 1), (2711, .iload_n 3, 1), (2712, .iconst 2, 1), (2713, .iadd, 1), (2714, .iaload, 1), (2715, .aload_n 0, 1), (2716, .iload_n 3, 1), (2717, .iconst 3, 1), (2718, .iadd, 1), (2719, .iaload, 1), (2720, .i2l, 1), (2721, .bipush 32, 2), (2723, .lshl, 1), (2724, .aload_n 0, 1), (2725, .iload_n 3, 1), (2726, .iconst 4, 1), (2727, .iadd, 1), (2728, .iaload, 1), (2729, .i2l, 1), (2730, .ldc2_w 256, 3), (2733, .land, 1), (2734, .lor, 1), (2735, .invokevirtual 262, 3), (2738, .pop, 1), (2739, .goto 66, 3)]
set_option maxRecDepth 1000000 in
theorem eL_60 : ∀ q ∈ kL_60, decode cL_law q.1 = .ok q.2 := by decide +kernel
def kL_61 : Ci_t := [(2742, .aload_n 1, 1), (2743, .aload_n 0, 1), (2744, .iload_n 3, 1), (2745, .iconst 1, 1), (2746, .iadd, 1), (2747, .iaload, 1), (2748, .aload_n 0, 1), (2749, .iload_n 3, 1), (2750, .iconst 2, 1), (2751, .iadd, 1), (2752, .iaload, 1), (2753, .aload_n 0, 1), (2754, .iload_n 3, 1), (2755, .iconst 3, 1), (2756, .iadd, 1), (2757, .iaload, 1), (2758, .aload_n 0, 1), (2759, .iload_n 3, 1), (2760, .iconst 4, 1), (2761, .iadd, 1), (2762, .iaload, 1), (2763, .aload_n 0, 1), (2764, .iload_n 3, 1), (2765, .iconst 5, 1), (2766, .iadd, 1), (2767, .iaload, 1), (2768, .invokevirtual 263, 3), (2771, .pop, 1), (2772, .aload_n 2, 1), (2773, .aload_n 0, 1), (2774, .iload_n 3, 1), (2775, .iconst 1, 1), (2776, .iadd, 1), (2777, .iaload, 1), (2778, .aload_n 0, 1), (2779, .iload_n 3, 1), (2780, .iconst 2, 1), (2781, .iadd, 1), (2782, .iaload, 1), (2783, .aload_n 0, 1), (2784, .iload_n 3, 1), (2785, .iconst 3, 1), (2786, .iadd, 1), (2787, .iaload, 1), (2788, .aload_n 0, 1), (2789, .iload_n 3, 1), (2790, .iconst 4, 1), (2791, .iadd, 1), (2792, .iaload, 1), (2793, .aload_n 0, 1), (2794, .iload_n 3, 1), (2795, .iconst 5, 1), (2796, .iadd, 1), (2797, .iaload, 1), (2798, .invokevirtual 266, 3), (2801, .pop, 1), (2802, .goto 3, 3)]
set_option maxRecDepth 1000000 in
theorem eL_61 : ∀ q ∈ kL_61, decode cL_law q.1 = .ok q.2 := by decide +kernel
def kL_62 : Ci_t := [(2805, .iinc 3 6, 3), (2808, .goto (-2790), 3), (2811, .iconst 1, 1), (2812, .ireturn, 1)]
set_option maxRecDepth 1000000 in
theorem eL_62 : ∀ q ∈ kL_62, decode cL_law q.1 = .ok q.2 := by decide +kernel
end
section
def gl_ : List Cond := lw_tbl.filter goodWord
theorem wg_ {w : Cond} (i : Nat) (h : lw_tbl[i]? = some w) (hg : goodWord w = true) : w ∈ gl_ := List.mem_filter.mpr ⟨List.mem_of_getElem? h, hg⟩
set_option maxRecDepth 100000 in
theorem wl_X0_103 : Cond.methodLink RX0 103 yX0_markReason ∈ gl_ := wg_ 707 (by decide +kernel) rfl
set_option maxRecDepth 100000 in
theorem wl_X0_107 : Cond.methodLink RX0 107 yX1_dayOn ∈ gl_ := wg_ 703 (by decide +kernel) rfl
set_option maxRecDepth 100000 in
theorem wl_X0_111 : Cond.methodLink RX0 111 yX0_allFight ∈ gl_ := wg_ 775 (by decide +kernel) rfl
set_option maxRecDepth 100000 in
theorem wl_X0_115 : Cond.methodLink RX0 115 yX0_monthDay ∈ gl_ := wg_ 1012 (by decide +kernel) rfl
set_option maxRecDepth 100000 in
theorem wl_X0_118 : Cond.methodLink RX0 118 yX0_part ∈ gl_ := wg_ 1013 (by decide +kernel) rfl
set_option maxRecDepth 100000 in
theorem wl_X0_121 : Cond.methodLink RX0 121 yX0_aloneOn ∈ gl_ := wg_ 1042 (by decide +kernel) rfl
set_option maxRecDepth 100000 in
theorem wl_X0_124 : Cond.methodLink RX0 124 yJ9_min_7cf53 ∈ gl_ := wg_ 1054 (by decide +kernel) rfl
set_option maxRecDepth 100000 in
theorem wl_X0_129 : Cond.methodLink RX0 129 yX0_daysAlone ∈ gl_ := wg_ 1055 (by decide +kernel) rfl
set_option maxRecDepth 100000 in
theorem wl_X0_47 : Cond.methodLink RX0 47 yJ7_fill_031fb ∈ gl_ := wg_ 687 (by decide +kernel) rfl
set_option maxRecDepth 100000 in
theorem wl_X0_57 : Cond.methodLink RX0 57 yX0_fillDates ∈ gl_ := wg_ 690 (by decide +kernel) rfl
set_option maxRecDepth 100000 in
theorem wl_X0_61 : Cond.methodLink RX0 61 yX0_fillReasons ∈ gl_ := wg_ 695 (by decide +kernel) rfl
set_option maxRecDepth 100000 in
theorem wl_X0_65 : Cond.methodLink RX0 65 yX0_fillFighters ∈ gl_ := wg_ 711 (by decide +kernel) rfl
set_option maxRecDepth 100000 in
theorem wl_X0_69 : Cond.methodLink RX0 69 yX1_lengthIn ∈ gl_ := wg_ 694 (by decide +kernel) rfl
set_option maxRecDepth 100000 in
theorem wl_X0_93 : Cond.methodLink RX0 93 yX0_markFeast ∈ gl_ := wg_ 699 (by decide +kernel) rfl
set_option maxRecDepth 100000 in
theorem wl_X1_46 : Cond.methodLink RX1 46 yX1_isLeapYear ∈ gl_ := wg_ 656 (by decide +kernel) rfl
set_option maxRecDepth 100000 in
theorem wl_X2_25 : Cond.methodLink RX2 25 yX4_areSmall ∈ gl_ := wg_ 890 (by decide +kernel) rfl
set_option maxRecDepth 100000 in
theorem wl_X2_33 : Cond.methodLink RX2 33 yX9_dayOfDate ∈ gl_ := wg_ 895 (by decide +kernel) rfl
set_option maxRecDepth 100000 in
theorem wl_X2_39 : Cond.methodLink RX2 39 yJ9_min_7cf53 ∈ gl_ := wg_ 916 (by decide +kernel) rfl
set_option maxRecDepth 100000 in
theorem wl_X2_45 : Cond.methodLink RX2 45 yJ9_max_7cf53 ∈ gl_ := wg_ 917 (by decide +kernel) rfl
set_option maxRecDepth 100000 in
theorem wl_X2_48 : Cond.methodLink RX2 48 yX0_part ∈ gl_ := wg_ 928 (by decide +kernel) rfl
set_option maxRecDepth 100000 in
theorem wl_X3_103 : Cond.methodLink RX3 103 yX3_needNumber ∈ gl_ := wg_ 569 (by decide +kernel) rfl
set_option maxRecDepth 100000 in
theorem wl_X3_113 : Cond.methodLink RX3 113 yX1_clear ∈ gl_ := wg_ 582 (by decide +kernel) rfl
set_option maxRecDepth 100000 in
theorem wl_X3_130 : Cond.methodLink RX3 130 yX3_readMonths ∈ gl_ := wg_ 590 (by decide +kernel) rfl
set_option maxRecDepth 100000 in
theorem wl_X3_150 : Cond.methodLink RX3 150 yX1_appendMonth ∈ gl_ := wg_ 594 (by decide +kernel) rfl
set_option maxRecDepth 100000 in
theorem wl_X3_159 : Cond.methodLink RX3 159 yX9_insertFeast ∈ gl_ := wg_ 607 (by decide +kernel) rfl
set_option maxRecDepth 100000 in
theorem wl_X3_165 : Cond.methodLink RX3 165 yX9_appendTruce ∈ gl_ := wg_ 620 (by decide +kernel) rfl
set_option maxRecDepth 100000 in
theorem wl_X3_169 : Cond.methodLink RX3 169 yJ0_length_8abf5 ∈ gl_ := wg_ 508 (by decide +kernel) rfl
set_option maxRecDepth 100000 in
theorem wl_X3_175 : Cond.methodLink RX3 175 yJ0_charAt_5068e ∈ gl_ := wg_ 518 (by decide +kernel) rfl
set_option maxRecDepth 100000 in
theorem wl_X3_41 : Cond.methodLink RX3 41 yX9_clear ∈ gl_ := wg_ 490 (by decide +kernel) rfl
set_option maxRecDepth 100000 in
theorem wl_X3_46 : Cond.methodLink RX3 46 yX3_step ∈ gl_ := wg_ 494 (by decide +kernel) rfl
set_option maxRecDepth 100000 in
theorem wl_X3_49 : Cond.methodLink RX3 49 yX3_readLine ∈ gl_ := wg_ 499 (by decide +kernel) rfl
set_option maxRecDepth 100000 in
theorem wl_X3_58 : Cond.methodLink RX3 58 yX3_isWord ∈ gl_ := wg_ 504 (by decide +kernel) rfl
set_option maxRecDepth 100000 in
theorem wl_X3_62 : Cond.methodLink RX3 62 yX3_readRain ∈ gl_ := wg_ 556 (by decide +kernel) rfl
set_option maxRecDepth 100000 in
theorem wl_X3_70 : Cond.methodLink RX3 70 yX3_startLine ∈ gl_ := wg_ 574 (by decide +kernel) rfl
set_option maxRecDepth 100000 in
theorem wl_X3_74 : Cond.methodLink RX3 74 yX3_readLand ∈ gl_ := wg_ 578 (by decide +kernel) rfl
set_option maxRecDepth 100000 in
theorem wl_X3_82 : Cond.methodLink RX3 82 yX3_readFeast ∈ gl_ := wg_ 602 (by decide +kernel) rfl
set_option maxRecDepth 100000 in
theorem wl_X3_90 : Cond.methodLink RX3 90 yX3_readTruce ∈ gl_ := wg_ 615 (by decide +kernel) rfl
set_option maxRecDepth 100000 in
theorem wl_X3_93 : Cond.methodLink RX3 93 yX3_refuse ∈ gl_ := wg_ 565 (by decide +kernel) rfl
set_option maxRecDepth 100000 in
theorem wl_X3_99 : Cond.methodLink RX3 99 yX3_needWord ∈ gl_ := wg_ 561 (by decide +kernel) rfl
set_option maxRecDepth 100000 in
theorem wl_X4_26 : Cond.methodLink RX4 26 yJ7_fill_d0a16 ∈ gl_ := wg_ 1205 (by decide +kernel) rfl
set_option maxRecDepth 100000 in
theorem wl_X5_23 : Cond.methodLink RX5 23 yX1_dayOn ∈ gl_ := wg_ 847 (by decide +kernel) rfl
set_option maxRecDepth 100000 in
theorem wl_X5_29 : Cond.methodLink RX5 29 yX1_lengthIn ∈ gl_ := wg_ 848 (by decide +kernel) rfl
set_option maxRecDepth 100000 in
theorem wl_X5_33 : Cond.methodLink RX5 33 yX5_openDays ∈ gl_ := wg_ 849 (by decide +kernel) rfl
set_option maxRecDepth 100000 in
theorem wl_X5_41 : Cond.methodLink RX5 41 yX5_cover ∈ gl_ := wg_ 854 (by decide +kernel) rfl
set_option maxRecDepth 100000 in
theorem wl_X5_45 : Cond.methodLink RX5 45 yX0_part ∈ gl_ := wg_ 853 (by decide +kernel) rfl
set_option maxRecDepth 100000 in
theorem wl_X5_50 : Cond.methodLink RX5 50 yJ9_min_7cf53 ∈ gl_ := wg_ 858 (by decide +kernel) rfl
set_option maxRecDepth 100000 in
theorem wl_X6_37 : Cond.methodLink RX6 37 yX6_fitsAll ∈ gl_ := wg_ 946 (by decide +kernel) rfl
set_option maxRecDepth 100000 in
theorem wl_X6_41 : Cond.methodLink RX6 41 yX0_part ∈ gl_ := wg_ 950 (by decide +kernel) rfl
set_option maxRecDepth 100000 in
theorem wl_X6_51 : Cond.methodLink RX6 51 yX6_tryQuestion ∈ gl_ := wg_ 975 (by decide +kernel) rfl
set_option maxRecDepth 100000 in
theorem wl_X6_55 : Cond.methodLink RX6 55 yJ7_fill_53178 ∈ gl_ := wg_ 979 (by decide +kernel) rfl
set_option maxRecDepth 100000 in
theorem wl_X6_61 : Cond.methodLink RX6 61 yJ9_max_7cf53 ∈ gl_ := wg_ 982 (by decide +kernel) rfl
set_option maxRecDepth 100000 in
theorem wl_X7_28 : Cond.methodLink RX7 28 yX7_listTurns ∈ gl_ := wg_ 1069 (by decide +kernel) rfl
set_option maxRecDepth 100000 in
theorem wl_X7_32 : Cond.methodLink RX7 32 yX7_bestTake ∈ gl_ := wg_ 1074 (by decide +kernel) rfl
set_option maxRecDepth 100000 in
theorem wl_X7_36 : Cond.methodLink RX7 36 yX7_winnerOf ∈ gl_ := wg_ 1082 (by decide +kernel) rfl
set_option maxRecDepth 100000 in
theorem wl_X7_40 : Cond.methodLink RX7 40 yX0_part ∈ gl_ := wg_ 1073 (by decide +kernel) rfl
set_option maxRecDepth 100000 in
theorem wl_X7_45 : Cond.methodLink RX7 45 yX7_worth ∈ gl_ := wg_ 1078 (by decide +kernel) rfl
set_option maxRecDepth 100000 in
theorem wl_X9_47 : Cond.methodLink RX9 47 yX1_copyOf ∈ gl_ := wg_ 1188 (by decide +kernel) rfl
set_option maxRecDepth 100000 in
theorem wl_X9_57 : Cond.methodLink RX9 57 yX9_hasLand ∈ gl_ := wg_ 648 (by decide +kernel) rfl
set_option maxRecDepth 100000 in
theorem wl_X9_64 : Cond.methodLink RX9 64 yX9_hasMonth ∈ gl_ := wg_ 727 (by decide +kernel) rfl
set_option maxRecDepth 100000 in
theorem wl_X9_74 : Cond.methodLink RX9 74 yX1_lengthIn ∈ gl_ := wg_ 729 (by decide +kernel) rfl
set_option maxRecDepth 100000 in
theorem wl_X9_78 : Cond.methodLink RX9 78 yX1_dayOn ∈ gl_ := wg_ 730 (by decide +kernel) rfl
set_option maxRecDepth 100000 in
theorem wl_X9_85 : Cond.methodLink RX9 85 yX9_noteChange ∈ gl_ := wg_ 1103 (by decide +kernel) rfl
set_option maxRecDepth 100000 in
theorem wl_X9_89 : Cond.methodLink RX9 89 yX9_insertFeast ∈ gl_ := wg_ 1144 (by decide +kernel) rfl
set_option maxRecDepth 100000 in
theorem wl_X10_107 : Cond.methodLink RX10 107 yX0_forgetAll ∈ gl_ := wg_ 624 (by decide +kernel) rfl
set_option maxRecDepth 100000 in
theorem wl_X10_113 : Cond.methodLink RX10 113 yX9_hasLand ∈ gl_ := wg_ 636 (by decide +kernel) rfl
set_option maxRecDepth 100000 in
theorem wl_X10_144 : Cond.methodLink RX10 144 yX9_hasMonth ∈ gl_ := wg_ 644 (by decide +kernel) rfl
set_option maxRecDepth 100000 in
theorem wl_X10_148 : Cond.methodLink RX10 148 yX10_isYear ∈ gl_ := wg_ 649 (by decide +kernel) rfl
set_option maxRecDepth 100000 in
theorem wl_X10_151 : Cond.methodLink RX10 151 yX1_lengthIn ∈ gl_ := wg_ 652 (by decide +kernel) rfl
set_option maxRecDepth 100000 in
theorem wl_X10_168 : Cond.methodLink RX10 168 yX10_isLandAndDay ∈ gl_ := wg_ 672 (by decide +kernel) rfl
set_option maxRecDepth 100000 in
theorem wl_X10_171 : Cond.methodLink RX10 171 yX10_told ∈ gl_ := wg_ 679 (by decide +kernel) rfl
set_option maxRecDepth 100000 in
theorem wl_X10_175 : Cond.methodLink RX10 175 yX0_part ∈ gl_ := wg_ 715 (by decide +kernel) rfl
set_option maxRecDepth 100000 in
theorem wl_X10_179 : Cond.methodLink RX10 179 yX9_dayOfDate ∈ gl_ := wg_ 723 (by decide +kernel) rfl
set_option maxRecDepth 100000 in
theorem wl_X10_183 : Cond.methodLink RX10 183 yX0_reason ∈ gl_ := wg_ 740 (by decide +kernel) rfl
set_option maxRecDepth 100000 in
theorem wl_X10_186 : Cond.methodLink RX10 186 yX10_isDayOfWar ∈ gl_ := wg_ 748 (by decide +kernel) rfl
set_option maxRecDepth 100000 in
theorem wl_X10_193 : Cond.methodLink RX10 193 yX10_isSetInSpan ∈ gl_ := wg_ 756 (by decide +kernel) rfl
set_option maxRecDepth 100000 in
theorem wl_X10_197 : Cond.methodLink RX10 197 yX0_allFight ∈ gl_ := wg_ 763 (by decide +kernel) rfl
set_option maxRecDepth 100000 in
theorem wl_X10_200 : Cond.methodLink RX10 200 yX0_fightingDays ∈ gl_ := wg_ 771 (by decide +kernel) rfl
set_option maxRecDepth 100000 in
theorem wl_X10_203 : Cond.methodLink RX10 203 yX0_seekWait ∈ gl_ := wg_ 780 (by decide +kernel) rfl
set_option maxRecDepth 100000 in
theorem wl_X10_213 : Cond.methodLink RX10 213 yX10_commonDivisor ∈ gl_ := wg_ 792 (by decide +kernel) rfl
set_option maxRecDepth 100000 in
theorem wl_X10_216 : Cond.methodLink RX10 216 yX10_isPairAndDay ∈ gl_ := wg_ 799 (by decide +kernel) rfl
set_option maxRecDepth 100000 in
theorem wl_X10_219 : Cond.methodLink RX10 219 yX1_hasWeekday ∈ gl_ := wg_ 807 (by decide +kernel) rfl
set_option maxRecDepth 100000 in
theorem wl_X10_222 : Cond.methodLink RX10 222 yX1_leapCycle ∈ gl_ := wg_ 815 (by decide +kernel) rfl
set_option maxRecDepth 100000 in
theorem wl_X10_226 : Cond.methodLink RX10 226 yX0_monthDay ∈ gl_ := wg_ 823 (by decide +kernel) rfl
set_option maxRecDepth 100000 in
theorem wl_X10_232 : Cond.methodLink RX10 232 yX10_isSaintly ∈ gl_ := wg_ 839 (by decide +kernel) rfl
set_option maxRecDepth 100000 in
theorem wl_X10_236 : Cond.methodLink RX10 236 yX5_seek ∈ gl_ := wg_ 843 (by decide +kernel) rfl
set_option maxRecDepth 100000 in
theorem wl_X10_249 : Cond.methodLink RX10 249 yX10_isSpan ∈ gl_ := wg_ 760 (by decide +kernel) rfl
set_option maxRecDepth 100000 in
theorem wl_X10_25 : Cond.methodLink RX10 25 yX9_init ∈ gl_ := wg_ 157 (by decide +kernel) rfl
set_option maxRecDepth 100000 in
theorem wl_X10_252 : Cond.methodLink RX10 252 yX10_readOrders ∈ gl_ := wg_ 879 (by decide +kernel) rfl
set_option maxRecDepth 100000 in
theorem wl_X10_256 : Cond.methodLink RX10 256 yX2_placeOfOldest ∈ gl_ := wg_ 896 (by decide +kernel) rfl
set_option maxRecDepth 100000 in
theorem wl_X10_260 : Cond.methodLink RX10 260 yX2_earlierThan ∈ gl_ := wg_ 904 (by decide +kernel) rfl
set_option maxRecDepth 100000 in
theorem wl_X10_263 : Cond.methodLink RX10 263 yX2_daysApart ∈ gl_ := wg_ 912 (by decide +kernel) rfl
set_option maxRecDepth 100000 in
theorem wl_X10_266 : Cond.methodLink RX10 266 yX2_datedAtRest ∈ gl_ := wg_ 924 (by decide +kernel) rfl
set_option maxRecDepth 100000 in
theorem wl_X10_270 : Cond.methodLink RX10 270 yX10_readSights ∈ gl_ := wg_ 933 (by decide +kernel) rfl
set_option maxRecDepth 100000 in
theorem wl_X10_277 : Cond.methodLink RX10 277 yX6_fightersOnAll ∈ gl_ := wg_ 959 (by decide +kernel) rfl
set_option maxRecDepth 100000 in
theorem wl_X10_280 : Cond.methodLink RX10 280 yX6_fightersOnSome ∈ gl_ := wg_ 963 (by decide +kernel) rfl
set_option maxRecDepth 100000 in
theorem wl_X10_283 : Cond.methodLink RX10 283 yX6_seekQuestion ∈ gl_ := wg_ 971 (by decide +kernel) rfl
set_option maxRecDepth 100000 in
theorem wl_X10_293 : Cond.methodLink RX10 293 yX9_trucesOn ∈ gl_ := wg_ 991 (by decide +kernel) rfl
set_option maxRecDepth 100000 in
theorem wl_X10_296 : Cond.methodLink RX10 296 yJ9_max_7cf53 ∈ gl_ := wg_ 1003 (by decide +kernel) rfl
set_option maxRecDepth 100000 in
theorem wl_X10_301 : Cond.methodLink RX10 301 yX10_isDay ∈ gl_ := wg_ 676 (by decide +kernel) rfl
set_option maxRecDepth 100000 in
theorem wl_X10_304 : Cond.methodLink RX10 304 yX0_ageBy ∈ gl_ := wg_ 1008 (by decide +kernel) rfl
set_option maxRecDepth 100000 in
theorem wl_X10_307 : Cond.methodLink RX10 307 yX0_clashDay ∈ gl_ := wg_ 1026 (by decide +kernel) rfl
set_option maxRecDepth 100000 in
theorem wl_X10_310 : Cond.methodLink RX10 310 yX10_isPair ∈ gl_ := wg_ 803 (by decide +kernel) rfl
set_option maxRecDepth 100000 in
theorem wl_X10_313 : Cond.methodLink RX10 313 yX0_daysAlone ∈ gl_ := wg_ 1038 (by decide +kernel) rfl
set_option maxRecDepth 100000 in
theorem wl_X10_316 : Cond.methodLink RX10 316 yX0_seekBeginning ∈ gl_ := wg_ 1050 (by decide +kernel) rfl
set_option maxRecDepth 100000 in
theorem wl_X10_326 : Cond.methodLink RX10 326 yJ9_min_7cf53 ∈ gl_ := wg_ 1064 (by decide +kernel) rfl
set_option maxRecDepth 100000 in
theorem wl_X10_329 : Cond.methodLink RX10 329 yX7_play ∈ gl_ := wg_ 1065 (by decide +kernel) rfl
set_option maxRecDepth 100000 in
theorem wl_X10_339 : Cond.methodLink RX10 339 yX9_hasPlainDate ∈ gl_ := wg_ 1094 (by decide +kernel) rfl
set_option maxRecDepth 100000 in
theorem wl_X10_345 : Cond.methodLink RX10 345 yX9_insertFeast ∈ gl_ := wg_ 1098 (by decide +kernel) rfl
set_option maxRecDepth 100000 in
theorem wl_X10_348 : Cond.methodLink RX10 348 yX9_noteFounded ∈ gl_ := wg_ 1099 (by decide +kernel) rfl
set_option maxRecDepth 100000 in
theorem wl_X10_351 : Cond.methodLink RX10 351 yX0_forgetReasons ∈ gl_ := wg_ 1107 (by decide +kernel) rfl
set_option maxRecDepth 100000 in
theorem wl_X10_354 : Cond.methodLink RX10 354 yX9_appendTruce ∈ gl_ := wg_ 1115 (by decide +kernel) rfl
set_option maxRecDepth 100000 in
theorem wl_X10_358 : Cond.methodLink RX10 358 yX9_noteGranted ∈ gl_ := wg_ 1116 (by decide +kernel) rfl
set_option maxRecDepth 100000 in
theorem wl_X10_361 : Cond.methodLink RX10 361 yX9_latestFeastOf ∈ gl_ := wg_ 1124 (by decide +kernel) rfl
set_option maxRecDepth 100000 in
theorem wl_X10_364 : Cond.methodLink RX10 364 yX9_noteEnded ∈ gl_ := wg_ 1128 (by decide +kernel) rfl
set_option maxRecDepth 100000 in
theorem wl_X10_367 : Cond.methodLink RX10 367 yX9_removeFeast ∈ gl_ := wg_ 1132 (by decide +kernel) rfl
set_option maxRecDepth 100000 in
theorem wl_X10_370 : Cond.methodLink RX10 370 yX9_takeBackLatest ∈ gl_ := wg_ 1140 (by decide +kernel) rfl
set_option maxRecDepth 100000 in
theorem wl_X10_373 : Cond.methodLink RX10 373 yX10_isRain ∈ gl_ := wg_ 1149 (by decide +kernel) rfl
set_option maxRecDepth 100000 in
theorem wl_X10_376 : Cond.methodLink RX10 376 yX10_nextDraw ∈ gl_ := wg_ 1153 (by decide +kernel) rfl
set_option maxRecDepth 100000 in
theorem wl_X10_383 : Cond.methodLink RX10 383 yX10_isWet ∈ gl_ := wg_ 1159 (by decide +kernel) rfl
set_option maxRecDepth 100000 in
theorem wl_X10_387 : Cond.methodLink RX10 387 yX10_fightsInRain ∈ gl_ := wg_ 1168 (by decide +kernel) rfl
set_option maxRecDepth 100000 in
theorem wl_X10_391 : Cond.methodLink RX10 391 yX10_slotsWithRow ∈ gl_ := wg_ 1176 (by decide +kernel) rfl
set_option maxRecDepth 100000 in
theorem wl_X10_394 : Cond.methodLink RX10 394 yX9_copyOf ∈ gl_ := wg_ 1184 (by decide +kernel) rfl
set_option maxRecDepth 100000 in
theorem wl_X10_398 : Cond.methodLink RX10 398 yX10_isSlot ∈ gl_ := wg_ 883 (by decide +kernel) rfl
set_option maxRecDepth 100000 in
theorem wl_X10_401 : Cond.methodLink RX10 401 yX4_renew ∈ gl_ := wg_ 1201 (by decide +kernel) rfl
set_option maxRecDepth 100000 in
theorem wl_X10_414 : Cond.methodLink RX10 414 yX4_cut ∈ gl_ := wg_ 1212 (by decide +kernel) rfl
set_option maxRecDepth 100000 in
theorem wl_X10_420 : Cond.methodLink RX10 420 yX4_hasStretch ∈ gl_ := wg_ 1220 (by decide +kernel) rfl
set_option maxRecDepth 100000 in
theorem wl_X10_440 : Cond.methodLink RX10 440 yX0_bringUpToDate ∈ gl_ := wg_ 683 (by decide +kernel) rfl
set_option maxRecDepth 100000 in
theorem wl_X10_443 : Cond.methodLink RX10 443 yX2_read ∈ gl_ := wg_ 886 (by decide +kernel) rfl
set_option maxRecDepth 100000 in
theorem wl_X10_446 : Cond.methodLink RX10 446 yX6_isTold ∈ gl_ := wg_ 937 (by decide +kernel) rfl
set_option maxRecDepth 100000 in
theorem wl_X10_450 : Cond.methodLink RX10 450 yX6_gather ∈ gl_ := wg_ 942 (by decide +kernel) rfl
set_option maxRecDepth 100000 in
theorem wl_X10_93 : Cond.methodLink RX10 93 yX8_append ∈ gl_ := wg_ 474 (by decide +kernel) rfl
set_option maxRecDepth 100000 in
theorem wl_X10_97 : Cond.methodLink RX10 97 yX3_read ∈ gl_ := wg_ 486 (by decide +kernel) rfl
set_option maxRecDepth 100000 in
theorem wl_L_102 : Cond.methodLink RL 102 yX11_alike ∈ gl_ := wg_ 1645 (by decide +kernel) rfl
set_option maxRecDepth 100000 in
theorem wl_L_103 : Cond.methodLink RL 103 yX10_years ∈ gl_ := wg_ 827 (by decide +kernel) rfl
set_option maxRecDepth 100000 in
theorem wl_L_106 : Cond.methodLink RL 106 yX11_years ∈ gl_ := wg_ 1653 (by decide +kernel) rfl
set_option maxRecDepth 100000 in
theorem wl_L_107 : Cond.methodLink RL 107 yX10_comes ∈ gl_ := wg_ 831 (by decide +kernel) rfl
set_option maxRecDepth 100000 in
theorem wl_L_110 : Cond.methodLink RL 110 yX11_comes ∈ gl_ := wg_ 1657 (by decide +kernel) rfl
set_option maxRecDepth 100000 in
theorem wl_L_111 : Cond.methodLink RL 111 yX10_saints ∈ gl_ := wg_ 835 (by decide +kernel) rfl
set_option maxRecDepth 100000 in
theorem wl_L_114 : Cond.methodLink RL 114 yX11_saints ∈ gl_ := wg_ 1661 (by decide +kernel) rfl
set_option maxRecDepth 100000 in
theorem wl_L_115 : Cond.methodLink RL 115 yX10_founded ∈ gl_ := wg_ 862 (by decide +kernel) rfl
set_option maxRecDepth 100000 in
theorem wl_L_119 : Cond.methodLink RL 119 yX11_founded ∈ gl_ := wg_ 1676 (by decide +kernel) rfl
set_option maxRecDepth 100000 in
theorem wl_L_12 : Cond.methodLink RL 12 yX11_init ∈ gl_ := wg_ 1227 (by decide +kernel) rfl
set_option maxRecDepth 100000 in
theorem wl_L_120 : Cond.methodLink RL 120 yX10_bridge ∈ gl_ := wg_ 867 (by decide +kernel) rfl
set_option maxRecDepth 100000 in
theorem wl_L_123 : Cond.methodLink RL 123 yX11_bridge ∈ gl_ := wg_ 1681 (by decide +kernel) rfl
set_option maxRecDepth 100000 in
theorem wl_L_124 : Cond.methodLink RL 124 yX10_bridged ∈ gl_ := wg_ 871 (by decide +kernel) rfl
set_option maxRecDepth 100000 in
theorem wl_L_127 : Cond.methodLink RL 127 yX11_bridged ∈ gl_ := wg_ 1689 (by decide +kernel) rfl
set_option maxRecDepth 100000 in
theorem wl_L_128 : Cond.methodLink RL 128 yX10_oldest ∈ gl_ := wg_ 875 (by decide +kernel) rfl
set_option maxRecDepth 100000 in
theorem wl_L_13 : Cond.methodLink RL 13 yX10_feed ∈ gl_ := wg_ 470 (by decide +kernel) rfl
set_option maxRecDepth 100000 in
theorem wl_L_131 : Cond.methodLink RL 131 yX11_oldest ∈ gl_ := wg_ 1693 (by decide +kernel) rfl
set_option maxRecDepth 100000 in
theorem wl_L_132 : Cond.methodLink RL 132 yX10_older ∈ gl_ := wg_ 900 (by decide +kernel) rfl
set_option maxRecDepth 100000 in
theorem wl_L_135 : Cond.methodLink RL 135 yX11_older ∈ gl_ := wg_ 1716 (by decide +kernel) rfl
set_option maxRecDepth 100000 in
theorem wl_L_136 : Cond.methodLink RL 136 yX10_apart ∈ gl_ := wg_ 908 (by decide +kernel) rfl
set_option maxRecDepth 100000 in
theorem wl_L_139 : Cond.methodLink RL 139 yX11_apart ∈ gl_ := wg_ 1720 (by decide +kernel) rfl
set_option maxRecDepth 100000 in
theorem wl_L_140 : Cond.methodLink RL 140 yX10_idle ∈ gl_ := wg_ 920 (by decide +kernel) rfl
set_option maxRecDepth 100000 in
theorem wl_L_143 : Cond.methodLink RL 143 yX11_idle ∈ gl_ := wg_ 1725 (by decide +kernel) rfl
set_option maxRecDepth 100000 in
theorem wl_L_144 : Cond.methodLink RL 144 yX10_fits ∈ gl_ := wg_ 929 (by decide +kernel) rfl
set_option maxRecDepth 100000 in
theorem wl_L_147 : Cond.methodLink RL 147 yX11_fits ∈ gl_ := wg_ 1729 (by decide +kernel) rfl
set_option maxRecDepth 100000 in
theorem wl_L_148 : Cond.methodLink RL 148 yX10_fit ∈ gl_ := wg_ 951 (by decide +kernel) rfl
set_option maxRecDepth 100000 in
theorem wl_L_151 : Cond.methodLink RL 151 yX11_fit ∈ gl_ := wg_ 1750 (by decide +kernel) rfl
set_option maxRecDepth 100000 in
theorem wl_L_152 : Cond.methodLink RL 152 yX10_sure ∈ gl_ := wg_ 955 (by decide +kernel) rfl
set_option maxRecDepth 100000 in
theorem wl_L_155 : Cond.methodLink RL 155 yX11_sure ∈ gl_ := wg_ 1754 (by decide +kernel) rfl
set_option maxRecDepth 100000 in
theorem wl_L_156 : Cond.methodLink RL 156 yX10_ask ∈ gl_ := wg_ 967 (by decide +kernel) rfl
set_option maxRecDepth 100000 in
theorem wl_L_159 : Cond.methodLink RL 159 yX11_ask ∈ gl_ := wg_ 1758 (by decide +kernel) rfl
set_option maxRecDepth 100000 in
theorem wl_L_160 : Cond.methodLink RL 160 yX10_leaves ∈ gl_ := wg_ 983 (by decide +kernel) rfl
set_option maxRecDepth 100000 in
theorem wl_L_163 : Cond.methodLink RL 163 yX11_leaves ∈ gl_ := wg_ 1770 (by decide +kernel) rfl
set_option maxRecDepth 100000 in
theorem wl_L_164 : Cond.methodLink RL 164 yX10_holds ∈ gl_ := wg_ 987 (by decide +kernel) rfl
set_option maxRecDepth 100000 in
theorem wl_L_167 : Cond.methodLink RL 167 yX11_holds ∈ gl_ := wg_ 1774 (by decide +kernel) rfl
set_option maxRecDepth 100000 in
theorem wl_L_168 : Cond.methodLink RL 168 yX10_overlap ∈ gl_ := wg_ 995 (by decide +kernel) rfl
set_option maxRecDepth 100000 in
theorem wl_L_17 : Cond.methodLink RL 17 yX11_feed ∈ gl_ := wg_ 1360 (by decide +kernel) rfl
set_option maxRecDepth 100000 in
theorem wl_L_171 : Cond.methodLink RL 171 yX11_overlap ∈ gl_ := wg_ 1782 (by decide +kernel) rfl
set_option maxRecDepth 100000 in
theorem wl_L_172 : Cond.methodLink RL 172 yX10_most ∈ gl_ := wg_ 999 (by decide +kernel) rfl
set_option maxRecDepth 100000 in
theorem wl_L_175 : Cond.methodLink RL 175 yX11_most ∈ gl_ := wg_ 1786 (by decide +kernel) rfl
set_option maxRecDepth 100000 in
theorem wl_L_176 : Cond.methodLink RL 176 yX10_age ∈ gl_ := wg_ 1004 (by decide +kernel) rfl
set_option maxRecDepth 100000 in
theorem wl_L_179 : Cond.methodLink RL 179 yX11_age ∈ gl_ := wg_ 1790 (by decide +kernel) rfl
set_option maxRecDepth 100000 in
theorem wl_L_18 : Cond.methodLink RL 18 yX10_end ∈ gl_ := wg_ 478 (by decide +kernel) rfl
set_option maxRecDepth 100000 in
theorem wl_L_180 : Cond.methodLink RL 180 yX10_gains ∈ gl_ := wg_ 1014 (by decide +kernel) rfl
set_option maxRecDepth 100000 in
theorem wl_L_183 : Cond.methodLink RL 183 yX11_gains ∈ gl_ := wg_ 1798 (by decide +kernel) rfl
set_option maxRecDepth 100000 in
theorem wl_L_184 : Cond.methodLink RL 184 yX10_march ∈ gl_ := wg_ 1018 (by decide +kernel) rfl
set_option maxRecDepth 100000 in
theorem wl_L_187 : Cond.methodLink RL 187 yX11_march ∈ gl_ := wg_ 1802 (by decide +kernel) rfl
set_option maxRecDepth 100000 in
theorem wl_L_188 : Cond.methodLink RL 188 yX10_clash ∈ gl_ := wg_ 1022 (by decide +kernel) rfl
set_option maxRecDepth 100000 in
theorem wl_L_191 : Cond.methodLink RL 191 yX11_clash ∈ gl_ := wg_ 1806 (by decide +kernel) rfl
set_option maxRecDepth 100000 in
theorem wl_L_192 : Cond.methodLink RL 192 yX10_place ∈ gl_ := wg_ 1030 (by decide +kernel) rfl
set_option maxRecDepth 100000 in
theorem wl_L_195 : Cond.methodLink RL 195 yX11_place ∈ gl_ := wg_ 1818 (by decide +kernel) rfl
set_option maxRecDepth 100000 in
theorem wl_L_196 : Cond.methodLink RL 196 yX10_alone ∈ gl_ := wg_ 1034 (by decide +kernel) rfl
set_option maxRecDepth 100000 in
theorem wl_L_199 : Cond.methodLink RL 199 yX11_alone ∈ gl_ := wg_ 1822 (by decide +kernel) rfl
set_option maxRecDepth 100000 in
theorem wl_L_200 : Cond.methodLink RL 200 yX10_begin ∈ gl_ := wg_ 1046 (by decide +kernel) rfl
set_option maxRecDepth 100000 in
theorem wl_L_203 : Cond.methodLink RL 203 yX11_begin ∈ gl_ := wg_ 1830 (by decide +kernel) rfl
set_option maxRecDepth 100000 in
theorem wl_L_204 : Cond.methodLink RL 204 yX10_begins ∈ gl_ := wg_ 1056 (by decide +kernel) rfl
set_option maxRecDepth 100000 in
theorem wl_L_207 : Cond.methodLink RL 207 yX11_begins ∈ gl_ := wg_ 1843 (by decide +kernel) rfl
set_option maxRecDepth 100000 in
theorem wl_L_208 : Cond.methodLink RL 208 yX10_game ∈ gl_ := wg_ 1060 (by decide +kernel) rfl
set_option maxRecDepth 100000 in
theorem wl_L_211 : Cond.methodLink RL 211 yX11_game ∈ gl_ := wg_ 1847 (by decide +kernel) rfl
set_option maxRecDepth 100000 in
theorem wl_L_212 : Cond.methodLink RL 212 yX10_takes ∈ gl_ := wg_ 1086 (by decide +kernel) rfl
set_option maxRecDepth 100000 in
theorem wl_L_215 : Cond.methodLink RL 215 yX11_takes_ ∈ gl_ := wg_ 1876 (by decide +kernel) rfl
set_option maxRecDepth 100000 in
theorem wl_L_216 : Cond.methodLink RL 216 yX10_found ∈ gl_ := wg_ 1090 (by decide +kernel) rfl
set_option maxRecDepth 100000 in
theorem wl_L_219 : Cond.methodLink RL 219 yX11_found ∈ gl_ := wg_ 1880 (by decide +kernel) rfl
set_option maxRecDepth 100000 in
theorem wl_L_22 : Cond.methodLink RL 22 yX11_end ∈ gl_ := wg_ 1364 (by decide +kernel) rfl
set_option maxRecDepth 100000 in
theorem wl_L_220 : Cond.methodLink RL 220 yX10_grant ∈ gl_ := wg_ 1111 (by decide +kernel) rfl
set_option maxRecDepth 100000 in
theorem wl_L_223 : Cond.methodLink RL 223 yX11_grant ∈ gl_ := wg_ 1888 (by decide +kernel) rfl
set_option maxRecDepth 100000 in
theorem wl_L_224 : Cond.methodLink RL 224 yX10_ends ∈ gl_ := wg_ 1120 (by decide +kernel) rfl
set_option maxRecDepth 100000 in
theorem wl_L_227 : Cond.methodLink RL 227 yX11_ends ∈ gl_ := wg_ 1892 (by decide +kernel) rfl
set_option maxRecDepth 100000 in
theorem wl_L_228 : Cond.methodLink RL 228 yX10_undo ∈ gl_ := wg_ 1136 (by decide +kernel) rfl
set_option maxRecDepth 100000 in
theorem wl_L_23 : Cond.methodLink RL 23 yX10_war ∈ gl_ := wg_ 482 (by decide +kernel) rfl
set_option maxRecDepth 100000 in
theorem wl_L_231 : Cond.methodLink RL 231 yX11_undo ∈ gl_ := wg_ 1896 (by decide +kernel) rfl
set_option maxRecDepth 100000 in
theorem wl_L_232 : Cond.methodLink RL 232 yX10_drawn ∈ gl_ := wg_ 1145 (by decide +kernel) rfl
set_option maxRecDepth 100000 in
theorem wl_L_235 : Cond.methodLink RL 235 yX11_drawn ∈ gl_ := wg_ 1900 (by decide +kernel) rfl
set_option maxRecDepth 100000 in
theorem wl_L_236 : Cond.methodLink RL 236 yX10_luck ∈ gl_ := wg_ 1164 (by decide +kernel) rfl
set_option maxRecDepth 100000 in
theorem wl_L_239 : Cond.methodLink RL 239 yX11_luck ∈ gl_ := wg_ 1917 (by decide +kernel) rfl
set_option maxRecDepth 100000 in
theorem wl_L_240 : Cond.methodLink RL 240 yX10_count ∈ gl_ := wg_ 1172 (by decide +kernel) rfl
set_option maxRecDepth 100000 in
theorem wl_L_243 : Cond.methodLink RL 243 yX11_count ∈ gl_ := wg_ 1921 (by decide +kernel) rfl
set_option maxRecDepth 100000 in
theorem wl_L_244 : Cond.methodLink RL 244 yX10_image ∈ gl_ := wg_ 1180 (by decide +kernel) rfl
set_option maxRecDepth 100000 in
theorem wl_L_247 : Cond.methodLink RL 247 yX11_image ∈ gl_ := wg_ 1348 (by decide +kernel) rfl
set_option maxRecDepth 100000 in
theorem wl_L_248 : Cond.methodLink RL 248 yX10_back ∈ gl_ := wg_ 1193 (by decide +kernel) rfl
set_option maxRecDepth 100000 in
theorem wl_L_251 : Cond.methodLink RL 251 yX11_back ∈ gl_ := wg_ 1356 (by decide +kernel) rfl
set_option maxRecDepth 100000 in
theorem wl_L_252 : Cond.methodLink RL 252 yX10_row ∈ gl_ := wg_ 1197 (by decide +kernel) rfl
set_option maxRecDepth 100000 in
theorem wl_L_255 : Cond.methodLink RL 255 yX11_row ∈ gl_ := wg_ 1925 (by decide +kernel) rfl
set_option maxRecDepth 100000 in
theorem wl_L_258 : Cond.methodLink RL 258 yX10_write ∈ gl_ := wg_ 1208 (by decide +kernel) rfl
set_option maxRecDepth 100000 in
theorem wl_L_262 : Cond.methodLink RL 262 yX11_write ∈ gl_ := wg_ 1929 (by decide +kernel) rfl
set_option maxRecDepth 100000 in
theorem wl_L_263 : Cond.methodLink RL 263 yX10_paste ∈ gl_ := wg_ 1216 (by decide +kernel) rfl
set_option maxRecDepth 100000 in
theorem wl_L_266 : Cond.methodLink RL 266 yX11_paste ∈ gl_ := wg_ 1936 (by decide +kernel) rfl
set_option maxRecDepth 100000 in
theorem wl_L_27 : Cond.methodLink RL 27 yX11_war ∈ gl_ := wg_ 1372 (by decide +kernel) rfl
set_option maxRecDepth 100000 in
theorem wl_L_28 : Cond.methodLink RL 28 yX10_fault ∈ gl_ := wg_ 628 (by decide +kernel) rfl
set_option maxRecDepth 100000 in
theorem wl_L_31 : Cond.methodLink RL 31 yX11_fault ∈ gl_ := wg_ 1368 (by decide +kernel) rfl
set_option maxRecDepth 100000 in
theorem wl_L_32 : Cond.methodLink RL 32 yX10_land ∈ gl_ := wg_ 632 (by decide +kernel) rfl
set_option maxRecDepth 100000 in
theorem wl_L_36 : Cond.methodLink RL 36 yX11_land ∈ gl_ := wg_ 1463 (by decide +kernel) rfl
set_option maxRecDepth 100000 in
theorem wl_L_37 : Cond.methodLink RL 37 yX10_month ∈ gl_ := wg_ 640 (by decide +kernel) rfl
set_option maxRecDepth 100000 in
theorem wl_L_41 : Cond.methodLink RL 41 yX11_month ∈ gl_ := wg_ 1476 (by decide +kernel) rfl
set_option maxRecDepth 100000 in
theorem wl_L_42 : Cond.methodLink RL 42 yX10_feast ∈ gl_ := wg_ 660 (by decide +kernel) rfl
set_option maxRecDepth 100000 in
theorem wl_L_45 : Cond.methodLink RL 45 yX11_feast ∈ gl_ := wg_ 1492 (by decide +kernel) rfl
set_option maxRecDepth 100000 in
theorem wl_L_46 : Cond.methodLink RL 46 yX10_truce ∈ gl_ := wg_ 664 (by decide +kernel) rfl
set_option maxRecDepth 100000 in
theorem wl_L_49 : Cond.methodLink RL 49 yX11_truce ∈ gl_ := wg_ 1501 (by decide +kernel) rfl
set_option maxRecDepth 100000 in
theorem wl_L_50 : Cond.methodLink RL 50 yX10_date ∈ gl_ := wg_ 668 (by decide +kernel) rfl
set_option maxRecDepth 100000 in
theorem wl_L_53 : Cond.methodLink RL 53 yX11_date ∈ gl_ := wg_ 1509 (by decide +kernel) rfl
set_option maxRecDepth 100000 in
theorem wl_L_54 : Cond.methodLink RL 54 yX10_day ∈ gl_ := wg_ 719 (by decide +kernel) rfl
set_option maxRecDepth 100000 in
theorem wl_L_58 : Cond.methodLink RL 58 yX11_day ∈ gl_ := wg_ 1542 (by decide +kernel) rfl
set_option maxRecDepth 100000 in
theorem wl_L_59 : Cond.methodLink RL 59 yX10_may ∈ gl_ := wg_ 732 (by decide +kernel) rfl
set_option maxRecDepth 100000 in
theorem wl_L_62 : Cond.methodLink RL 62 yX11_may ∈ gl_ := wg_ 1558 (by decide +kernel) rfl
set_option maxRecDepth 100000 in
theorem wl_L_63 : Cond.methodLink RL 63 yX10_why ∈ gl_ := wg_ 736 (by decide +kernel) rfl
set_option maxRecDepth 100000 in
theorem wl_L_66 : Cond.methodLink RL 66 yX11_why ∈ gl_ := wg_ 1566 (by decide +kernel) rfl
set_option maxRecDepth 100000 in
theorem wl_L_67 : Cond.methodLink RL 67 yX10_who ∈ gl_ := wg_ 744 (by decide +kernel) rfl
set_option maxRecDepth 100000 in
theorem wl_L_70 : Cond.methodLink RL 70 yX11_who ∈ gl_ := wg_ 1570 (by decide +kernel) rfl
set_option maxRecDepth 100000 in
theorem wl_L_71 : Cond.methodLink RL 71 yX10_next ∈ gl_ := wg_ 752 (by decide +kernel) rfl
set_option maxRecDepth 100000 in
theorem wl_L_74 : Cond.methodLink RL 74 yX11_next ∈ gl_ := wg_ 1582 (by decide +kernel) rfl
set_option maxRecDepth 100000 in
theorem wl_L_75 : Cond.methodLink RL 75 yX10_many ∈ gl_ := wg_ 767 (by decide +kernel) rfl
set_option maxRecDepth 100000 in
theorem wl_L_78 : Cond.methodLink RL 78 yX11_many ∈ gl_ := wg_ 1598 (by decide +kernel) rfl
set_option maxRecDepth 100000 in
theorem wl_L_79 : Cond.methodLink RL 79 yX10_waits ∈ gl_ := wg_ 776 (by decide +kernel) rfl
set_option maxRecDepth 100000 in
theorem wl_L_82 : Cond.methodLink RL 82 yX11_waits ∈ gl_ := wg_ 1609 (by decide +kernel) rfl
set_option maxRecDepth 100000 in
theorem wl_L_83 : Cond.methodLink RL 83 yX10_waiting ∈ gl_ := wg_ 784 (by decide +kernel) rfl
set_option maxRecDepth 100000 in
theorem wl_L_86 : Cond.methodLink RL 86 yX11_waiting ∈ gl_ := wg_ 1617 (by decide +kernel) rfl
set_option maxRecDepth 100000 in
theorem wl_L_87 : Cond.methodLink RL 87 yX10_share ∈ gl_ := wg_ 788 (by decide +kernel) rfl
set_option maxRecDepth 100000 in
theorem wl_L_9 : Cond.methodLink RL 9 yX10_init ∈ gl_ := wg_ 99 (by decide +kernel) rfl
set_option maxRecDepth 100000 in
theorem wl_L_90 : Cond.methodLink RL 90 yX11_share ∈ gl_ := wg_ 1621 (by decide +kernel) rfl
set_option maxRecDepth 100000 in
theorem wl_L_91 : Cond.methodLink RL 91 yX10_meets ∈ gl_ := wg_ 795 (by decide +kernel) rfl
set_option maxRecDepth 100000 in
theorem wl_L_94 : Cond.methodLink RL 94 yX11_meets ∈ gl_ := wg_ 1628 (by decide +kernel) rfl
set_option maxRecDepth 100000 in
theorem wl_L_95 : Cond.methodLink RL 95 yX10_period ∈ gl_ := wg_ 811 (by decide +kernel) rfl
set_option maxRecDepth 100000 in
theorem wl_L_98 : Cond.methodLink RL 98 yX11_period ∈ gl_ := wg_ 1641 (by decide +kernel) rfl
set_option maxRecDepth 100000 in
theorem wl_L_99 : Cond.methodLink RL 99 yX10_alike ∈ gl_ := wg_ 819 (by decide +kernel) rfl
set_option maxRecDepth 100000 in
theorem wl_X11_100 : Cond.methodLink RX11 100 yX11_of ∈ gl_ := wg_ 1472 (by decide +kernel) rfl
set_option maxRecDepth 100000 in
theorem wl_X11_104 : Cond.methodLink RX11 104 yX11_lengthOf ∈ gl_ := wg_ 1488 (by decide +kernel) rfl
set_option maxRecDepth 100000 in
theorem wl_X11_117 : Cond.methodLink RX11 117 yX11_see ∈ gl_ := wg_ 1380 (by decide +kernel) rfl
set_option maxRecDepth 100000 in
theorem wl_X11_139 : Cond.methodLink RX11 139 yJ9_min_7cf53 ∈ gl_ := wg_ 1389 (by decide +kernel) rfl
set_option maxRecDepth 100000 in
theorem wl_X11_147 : Cond.methodLink RX11 147 yX11_good ∈ gl_ := wg_ 1390 (by decide +kernel) rfl
set_option maxRecDepth 100000 in
theorem wl_X11_150 : Cond.methodLink RX11 150 yJ0_length_8abf5 ∈ gl_ := wg_ 1411 (by decide +kernel) rfl
set_option maxRecDepth 100000 in
theorem wl_X11_155 : Cond.methodLink RX11 155 yJ0_charAt_5068e ∈ gl_ := wg_ 1412 (by decide +kernel) rfl
set_option maxRecDepth 100000 in
theorem wl_X11_159 : Cond.methodLink RX11 159 yX11_is ∈ gl_ := wg_ 1407 (by decide +kernel) rfl
set_option maxRecDepth 100000 in
theorem wl_X11_163 : Cond.methodLink RX11 163 yX11_advance ∈ gl_ := wg_ 1376 (by decide +kernel) rfl
set_option maxRecDepth 100000 in
theorem wl_X11_166 : Cond.methodLink RX11 166 yX11_takes ∈ gl_ := wg_ 1403 (by decide +kernel) rfl
set_option maxRecDepth 100000 in
theorem wl_X11_169 : Cond.methodLink RX11 169 yX11_errs ∈ gl_ := wg_ 1413 (by decide +kernel) rfl
set_option maxRecDepth 100000 in
theorem wl_X11_173 : Cond.methodLink RX11 173 yX11_needs ∈ gl_ := wg_ 1399 (by decide +kernel) rfl
set_option maxRecDepth 100000 in
theorem wl_X11_177 : Cond.methodLink RX11 177 yX11_number ∈ gl_ := wg_ 1422 (by decide +kernel) rfl
set_option maxRecDepth 100000 in
theorem wl_X11_185 : Cond.methodLink RX11 185 yX11_told ∈ gl_ := wg_ 1418 (by decide +kernel) rfl
set_option maxRecDepth 100000 in
theorem wl_X11_195 : Cond.methodLink RX11 195 yX11_readMonths ∈ gl_ := wg_ 1441 (by decide +kernel) rfl
set_option maxRecDepth 100000 in
theorem wl_X11_201 : Cond.methodLink RX11 201 yX11_freshLand ∈ gl_ := wg_ 1453 (by decide +kernel) rfl
set_option maxRecDepth 100000 in
theorem wl_X11_214 : Cond.methodLink RX11 214 yX11_readLand ∈ gl_ := wg_ 1433 (by decide +kernel) rfl
set_option maxRecDepth 100000 in
theorem wl_X11_217 : Cond.methodLink RX11 217 yX11_readFeast ∈ gl_ := wg_ 1449 (by decide +kernel) rfl
set_option maxRecDepth 100000 in
theorem wl_X11_220 : Cond.methodLink RX11 220 yX11_readTruce ∈ gl_ := wg_ 1458 (by decide +kernel) rfl
set_option maxRecDepth 100000 in
theorem wl_X11_227 : Cond.methodLink RX11 227 yX11_readNext ∈ gl_ := wg_ 1426 (by decide +kernel) rfl
set_option maxRecDepth 100000 in
theorem wl_X11_230 : Cond.methodLink RX11 230 yX11_readLine ∈ gl_ := wg_ 1394 (by decide +kernel) rfl
set_option maxRecDepth 100000 in
theorem wl_X11_233 : Cond.methodLink RX11 233 yX11_spot ∈ gl_ := wg_ 1524 (by decide +kernel) rfl
set_option maxRecDepth 100000 in
theorem wl_X11_236 : Cond.methodLink RX11 236 yX11_weekday ∈ gl_ := wg_ 1531 (by decide +kernel) rfl
set_option maxRecDepth 100000 in
theorem wl_X11_239 : Cond.methodLink RX11 239 yX11_bit ∈ gl_ := wg_ 1535 (by decide +kernel) rfl
set_option maxRecDepth 100000 in
theorem wl_X11_242 : Cond.methodLink RX11 242 yX11_ofFeast ∈ gl_ := wg_ 1497 (by decide +kernel) rfl
set_option maxRecDepth 100000 in
theorem wl_X11_245 : Cond.methodLink RX11 245 yX11_ofTruce ∈ gl_ := wg_ 1505 (by decide +kernel) rfl
set_option maxRecDepth 100000 in
theorem wl_X11_248 : Cond.methodLink RX11 248 yX11_layDates ∈ gl_ := wg_ 1520 (by decide +kernel) rfl
set_option maxRecDepth 100000 in
theorem wl_X11_251 : Cond.methodLink RX11 251 yX11_layWhy ∈ gl_ := wg_ 1527 (by decide +kernel) rfl
set_option maxRecDepth 100000 in
theorem wl_X11_254 : Cond.methodLink RX11 254 yX11_mayOn ∈ gl_ := wg_ 1562 (by decide +kernel) rfl
set_option maxRecDepth 100000 in
theorem wl_X11_260 : Cond.methodLink RX11 260 yX11_isMonth ∈ gl_ := wg_ 1480 (by decide +kernel) rfl
set_option maxRecDepth 100000 in
theorem wl_X11_264 : Cond.methodLink RX11 264 yX11_isYear ∈ gl_ := wg_ 1484 (by decide +kernel) rfl
set_option maxRecDepth 100000 in
theorem wl_X11_269 : Cond.methodLink RX11 269 yX11_lay ∈ gl_ := wg_ 1516 (by decide +kernel) rfl
set_option maxRecDepth 100000 in
theorem wl_X11_272 : Cond.methodLink RX11 272 yX11_dateOf ∈ gl_ := wg_ 1538 (by decide +kernel) rfl
set_option maxRecDepth 100000 in
theorem wl_X11_275 : Cond.methodLink RX11 275 yX11_yearLength ∈ gl_ := wg_ 1554 (by decide +kernel) rfl
set_option maxRecDepth 100000 in
theorem wl_X11_278 : Cond.methodLink RX11 278 yX11_isDate ∈ gl_ := wg_ 1546 (by decide +kernel) rfl
set_option maxRecDepth 100000 in
theorem wl_X11_282 : Cond.methodLink RX11 282 yX11_dayBy ∈ gl_ := wg_ 1550 (by decide +kernel) rfl
set_option maxRecDepth 100000 in
theorem wl_X11_286 : Cond.methodLink RX11 286 yX11_whoOn ∈ gl_ := wg_ 1578 (by decide +kernel) rfl
set_option maxRecDepth 100000 in
theorem wl_X11_289 : Cond.methodLink RX11 289 yX11_isSet ∈ gl_ := wg_ 1586 (by decide +kernel) rfl
set_option maxRecDepth 100000 in
theorem wl_X11_293 : Cond.methodLink RX11 293 yX11_mayAll ∈ gl_ := wg_ 1594 (by decide +kernel) rfl
set_option maxRecDepth 100000 in
theorem wl_X11_296 : Cond.methodLink RX11 296 yX11_isSpan ∈ gl_ := wg_ 1602 (by decide +kernel) rfl
set_option maxRecDepth 100000 in
theorem wl_X11_299 : Cond.methodLink RX11 299 yX11_manyOf ∈ gl_ := wg_ 1605 (by decide +kernel) rfl
set_option maxRecDepth 100000 in
theorem wl_X11_308 : Cond.methodLink RX11 308 yX11_findWait ∈ gl_ := wg_ 1613 (by decide +kernel) rfl
set_option maxRecDepth 100000 in
theorem wl_X11_312 : Cond.methodLink RX11 312 yX11_divisor ∈ gl_ := wg_ 1625 (by decide +kernel) rfl
set_option maxRecDepth 100000 in
theorem wl_X11_315 : Cond.methodLink RX11 315 yX11_areTwo ∈ gl_ := wg_ 1632 (by decide +kernel) rfl
set_option maxRecDepth 100000 in
theorem wl_X11_318 : Cond.methodLink RX11 318 yX11_isWeekday ∈ gl_ := wg_ 1636 (by decide +kernel) rfl
set_option maxRecDepth 100000 in
theorem wl_X11_321 : Cond.methodLink RX11 321 yJ9_max_7cf53 ∈ gl_ := wg_ 1640 (by decide +kernel) rfl
set_option maxRecDepth 100000 in
theorem wl_X11_324 : Cond.methodLink RX11 324 yX11_isCounted ∈ gl_ := wg_ 1649 (by decide +kernel) rfl
set_option maxRecDepth 100000 in
theorem wl_X11_340 : Cond.methodLink RX11 340 yX11_areSaints ∈ gl_ := wg_ 1665 (by decide +kernel) rfl
set_option maxRecDepth 100000 in
theorem wl_X11_344 : Cond.methodLink RX11 344 yX11_findSaints ∈ gl_ := wg_ 1671 (by decide +kernel) rfl
set_option maxRecDepth 100000 in
theorem wl_X11_350 : Cond.methodLink RX11 350 yX11_findBridge ∈ gl_ := wg_ 1685 (by decide +kernel) rfl
set_option maxRecDepth 100000 in
theorem wl_X11_354 : Cond.methodLink RX11 354 yX11_numberAt ∈ gl_ := wg_ 1704 (by decide +kernel) rfl
set_option maxRecDepth 100000 in
theorem wl_X11_358 : Cond.methodLink RX11 358 yX11_intAt ∈ gl_ := wg_ 1708 (by decide +kernel) rfl
set_option maxRecDepth 100000 in
theorem wl_X11_361 : Cond.methodLink RX11 361 yX11_isSlot ∈ gl_ := wg_ 1701 (by decide +kernel) rfl
set_option maxRecDepth 100000 in
theorem wl_X11_364 : Cond.methodLink RX11 364 yX11_dayAt ∈ gl_ := wg_ 1712 (by decide +kernel) rfl
set_option maxRecDepth 100000 in
theorem wl_X11_367 : Cond.methodLink RX11 367 yX11_asksOrders ∈ gl_ := wg_ 1697 (by decide +kernel) rfl
set_option maxRecDepth 100000 in
theorem wl_X11_373 : Cond.methodLink RX11 373 yX11_seen ∈ gl_ := wg_ 1746 (by decide +kernel) rfl
set_option maxRecDepth 100000 in
theorem wl_X11_376 : Cond.methodLink RX11 376 yX11_isSeen ∈ gl_ := wg_ 1742 (by decide +kernel) rfl
set_option maxRecDepth 100000 in
theorem wl_X11_379 : Cond.methodLink RX11 379 yX11_asksSeen ∈ gl_ := wg_ 1733 (by decide +kernel) rfl
set_option maxRecDepth 100000 in
theorem wl_X11_383 : Cond.methodLink RX11 383 yX11_fitsOf ∈ gl_ := wg_ 1738 (by decide +kernel) rfl
set_option maxRecDepth 100000 in
theorem wl_X11_389 : Cond.methodLink RX11 389 yX11_worstOf ∈ gl_ := wg_ 1766 (by decide +kernel) rfl
set_option maxRecDepth 100000 in
theorem wl_X11_393 : Cond.methodLink RX11 393 yX11_askOf ∈ gl_ := wg_ 1762 (by decide +kernel) rfl
set_option maxRecDepth 100000 in
theorem wl_X11_396 : Cond.methodLink RX11 396 yX11_holdOn ∈ gl_ := wg_ 1778 (by decide +kernel) rfl
set_option maxRecDepth 100000 in
theorem wl_X11_399 : Cond.methodLink RX11 399 yX11_ageOf ∈ gl_ := wg_ 1794 (by decide +kernel) rfl
set_option maxRecDepth 100000 in
theorem wl_X11_408 : Cond.methodLink RX11 408 yX11_isClash ∈ gl_ := wg_ 1810 (by decide +kernel) rfl
set_option maxRecDepth 100000 in
theorem wl_X11_412 : Cond.methodLink RX11 412 yX11_findClash ∈ gl_ := wg_ 1814 (by decide +kernel) rfl
set_option maxRecDepth 100000 in
theorem wl_X11_415 : Cond.methodLink RX11 415 yX11_aloneOf ∈ gl_ := wg_ 1826 (by decide +kernel) rfl
set_option maxRecDepth 100000 in
theorem wl_X11_423 : Cond.methodLink RX11 423 yX11_isBegin ∈ gl_ := wg_ 1834 (by decide +kernel) rfl
set_option maxRecDepth 100000 in
theorem wl_X11_426 : Cond.methodLink RX11 426 yX11_beginOf ∈ gl_ := wg_ 1839 (by decide +kernel) rfl
set_option maxRecDepth 100000 in
theorem wl_X11_429 : Cond.methodLink RX11 429 yX11_behind ∈ gl_ := wg_ 1870 (by decide +kernel) rfl
set_option maxRecDepth 100000 in
theorem wl_X11_433 : Cond.methodLink RX11 433 yX11_rank ∈ gl_ := wg_ 1873 (by decide +kernel) rfl
set_option maxRecDepth 100000 in
theorem wl_X11_436 : Cond.methodLink RX11 436 yX11_bestTake ∈ gl_ := wg_ 1867 (by decide +kernel) rfl
set_option maxRecDepth 100000 in
theorem wl_X11_440 : Cond.methodLink RX11 440 yX11_copy ∈ gl_ := wg_ 1860 (by decide +kernel) rfl
set_option maxRecDepth 100000 in
theorem wl_X11_444 : Cond.methodLink RX11 444 yX11_turn ∈ gl_ := wg_ 1864 (by decide +kernel) rfl
set_option maxRecDepth 100000 in
theorem wl_X11_450 : Cond.methodLink RX11 450 yX11_isGame ∈ gl_ := wg_ 1851 (by decide +kernel) rfl
set_option maxRecDepth 100000 in
theorem wl_X11_453 : Cond.methodLink RX11 453 yX11_play ∈ gl_ := wg_ 1856 (by decide +kernel) rfl
set_option maxRecDepth 100000 in
theorem wl_X11_456 : Cond.methodLink RX11 456 yX11_keepChange ∈ gl_ := wg_ 1884 (by decide +kernel) rfl
set_option maxRecDepth 100000 in
theorem wl_X11_481 : Cond.methodLink RX11 481 yX11_isSeed ∈ gl_ := wg_ 1904 (by decide +kernel) rfl
set_option maxRecDepth 100000 in
theorem wl_X11_484 : Cond.methodLink RX11 484 yX11_goRain ∈ gl_ := wg_ 1909 (by decide +kernel) rfl
set_option maxRecDepth 100000 in
theorem wl_X11_488 : Cond.methodLink RX11 488 yX11_cut ∈ gl_ := wg_ 1933 (by decide +kernel) rfl
set_option maxRecDepth 100000 in
theorem wl_X11_79 : Cond.methodLink RX11 79 yX11_in ∈ gl_ := wg_ 1353 (by decide +kernel) rfl
set_option maxRecDepth 100000 in
theorem wl_X11_83 : Cond.methodLink RX11 83 yX11_isLand ∈ gl_ := wg_ 1467 (by decide +kernel) rfl
set_option maxRecDepth 100000 in
theorem wl_X11_89 : Cond.methodLink RX11 89 yX11_isDay ∈ gl_ := wg_ 1513 (by decide +kernel) rfl
set_option maxRecDepth 100000 in
theorem wl_X11_92 : Cond.methodLink RX11 92 yX11_isWar ∈ gl_ := wg_ 1574 (by decide +kernel) rfl
set_option maxRecDepth 100000 in
theorem wl_X11_96 : Cond.methodLink RX11 96 yX11_allLands ∈ gl_ := wg_ 1590 (by decide +kernel) rfl
set_option maxRecDepth 100000 in
theorem wl_J0_1059 : Cond.methodLink RJ0 1059 yJ3_checkIndex_8e157 ∈ gl_ := wg_ 534 (by decide +kernel) rfl
set_option maxRecDepth 100000 in
theorem wl_J0_335 : Cond.methodLink RJ0 335 yJ0_coder_7d493 ∈ gl_ := wg_ 512 (by decide +kernel) rfl
set_option maxRecDepth 100000 in
theorem wl_J0_492 : Cond.methodLink RJ0 492 yJ0_isLatin1_aae02 ∈ gl_ := wg_ 522 (by decide +kernel) rfl
set_option maxRecDepth 100000 in
theorem wl_J0_495 : Cond.methodLink RJ0 495 yJ1_charAt_3b067 ∈ gl_ := wg_ 526 (by decide +kernel) rfl
set_option maxRecDepth 100000 in
theorem wl_J0_498 : Cond.methodLink RJ0 498 yJ2_charAt_3b067 ∈ gl_ := wg_ 537 (by decide +kernel) rfl
set_option maxRecDepth 100000 in
theorem wl_J1_9 : Cond.methodLink RJ1 9 yJ0_checkIndex_df160 ∈ gl_ := wg_ 529 (by decide +kernel) rfl
set_option maxRecDepth 100000 in
theorem wl_J2_414 : Cond.methodLink RJ2 414 yJ0_checkIndex_df160 ∈ gl_ := wg_ 546 (by decide +kernel) rfl
set_option maxRecDepth 100000 in
theorem wl_J2_48 : Cond.methodLink RJ2 48 yJ2_length_9d52b ∈ gl_ := wg_ 543 (by decide +kernel) rfl
set_option maxRecDepth 100000 in
theorem wl_J2_67 : Cond.methodLink RJ2 67 yJ2_checkIndex_2214a ∈ gl_ := wg_ 540 (by decide +kernel) rfl
set_option maxRecDepth 100000 in
theorem wl_J2_71 : Cond.methodLink RJ2 71 yJ2_getChar_3b067 ∈ gl_ := wg_ 547 (by decide +kernel) rfl
set_option maxRecDepth 100000 in
theorem wc_J0_charAt_5068e : Cond.code yJ0_charAt_5068e cJ0_charAt_5068e 2 (some .char) ∈ gl_ := wg_ 521 (by decide +kernel) rfl
set_option maxRecDepth 100000 in
theorem wc_J0_checkIndex_df160 : Cond.code yJ0_checkIndex_df160 cJ0_checkIndex_df160 2 none ∈ gl_ := wg_ 531 (by decide +kernel) rfl
set_option maxRecDepth 100000 in
theorem wc_J0_coder_7d493 : Cond.code yJ0_coder_7d493 cJ0_coder_7d493 1 (some .byte) ∈ gl_ := wg_ 515 (by decide +kernel) rfl
set_option maxRecDepth 100000 in
theorem wc_J0_isLatin1_aae02 : Cond.code yJ0_isLatin1_aae02 cJ0_isLatin1_aae02 1 (some .boolean) ∈ gl_ := wg_ 525 (by decide +kernel) rfl
set_option maxRecDepth 100000 in
theorem wc_J0_length_8abf5 : Cond.code yJ0_length_8abf5 cJ0_length_8abf5 1 (some .int) ∈ gl_ := wg_ 511 (by decide +kernel) rfl
set_option maxRecDepth 100000 in
theorem wc_J1_charAt_3b067 : Cond.code yJ1_charAt_3b067 cJ1_charAt_3b067 2 (some .char) ∈ gl_ := wg_ 528 (by decide +kernel) rfl
set_option maxRecDepth 100000 in
theorem wc_J2_charAt_3b067 : Cond.code yJ2_charAt_3b067 cJ2_charAt_3b067 2 (some .char) ∈ gl_ := wg_ 539 (by decide +kernel) rfl
set_option maxRecDepth 100000 in
theorem wc_J2_checkIndex_2214a : Cond.code yJ2_checkIndex_2214a cJ2_checkIndex_2214a 2 none ∈ gl_ := wg_ 542 (by decide +kernel) rfl
set_option maxRecDepth 100000 in
theorem wc_J2_getChar_3b067 : Cond.code yJ2_getChar_3b067 cJ2_getChar_3b067 2 (some .char) ∈ gl_ := wg_ 549 (by decide +kernel) rfl
set_option maxRecDepth 100000 in
theorem wc_J2_length_9d52b : Cond.code yJ2_length_9d52b cJ2_length_9d52b 1 (some .int) ∈ gl_ := wg_ 545 (by decide +kernel) rfl
set_option maxRecDepth 100000 in
theorem wc_J3_checkIndex_8e157 : Cond.code yJ3_checkIndex_8e157 cJ3_checkIndex_8e157 3 (some .int) ∈ gl_ := wg_ 536 (by decide +kernel) rfl
set_option maxRecDepth 100000 in
theorem wc_J7_fill_031fb : Cond.code yJ7_fill_031fb cJ7_fill_031fb 4 none ∈ gl_ := wg_ 689 (by decide +kernel) rfl
set_option maxRecDepth 100000 in
theorem wc_J7_fill_53178 : Cond.code yJ7_fill_53178 cJ7_fill_53178 4 none ∈ gl_ := wg_ 981 (by decide +kernel) rfl
set_option maxRecDepth 100000 in
theorem wc_J7_fill_d0a16 : Cond.code yJ7_fill_d0a16 cJ7_fill_d0a16 5 none ∈ gl_ := wg_ 1207 (by decide +kernel) rfl
set_option maxRecDepth 100000 in
theorem wc_J9_max_7cf53 : Cond.code yJ9_max_7cf53 cJ9_max_7cf53 2 (some .int) ∈ gl_ := wg_ 919 (by decide +kernel) rfl
set_option maxRecDepth 100000 in
theorem wc_J9_min_7cf53 : Cond.code yJ9_min_7cf53 cJ9_min_7cf53 2 (some .int) ∈ gl_ := wg_ 860 (by decide +kernel) rfl
set_option maxRecDepth 100000 in
theorem wc_X0_ageBy : Cond.code yX0_ageBy cX0_ageBy 6 (some .int) ∈ gl_ := wg_ 1011 (by decide +kernel) rfl
set_option maxRecDepth 100000 in
theorem wc_X0_allFight : Cond.code yX0_allFight cX0_allFight 3 (some .boolean) ∈ gl_ := wg_ 766 (by decide +kernel) rfl
set_option maxRecDepth 100000 in
theorem wc_X0_aloneOn : Cond.code yX0_aloneOn cX0_aloneOn 4 (some .int) ∈ gl_ := wg_ 1045 (by decide +kernel) rfl
set_option maxRecDepth 100000 in
theorem wc_X0_bringUpToDate : Cond.code yX0_bringUpToDate cX0_bringUpToDate 3 none ∈ gl_ := wg_ 686 (by decide +kernel) rfl
set_option maxRecDepth 100000 in
theorem wc_X0_clashDay : Cond.code yX0_clashDay cX0_clashDay 7 (some .int) ∈ gl_ := wg_ 1029 (by decide +kernel) rfl
set_option maxRecDepth 100000 in
theorem wc_X0_daysAlone : Cond.code yX0_daysAlone cX0_daysAlone 7 (some .int) ∈ gl_ := wg_ 1041 (by decide +kernel) rfl
set_option maxRecDepth 100000 in
theorem wc_X0_fightingDays : Cond.code yX0_fightingDays cX0_fightingDays 6 (some .int) ∈ gl_ := wg_ 774 (by decide +kernel) rfl
set_option maxRecDepth 100000 in
theorem wc_X0_fillDates : Cond.code yX0_fillDates cX0_fillDates 9 none ∈ gl_ := wg_ 693 (by decide +kernel) rfl
set_option maxRecDepth 100000 in
theorem wc_X0_fillFighters : Cond.code yX0_fillFighters cX0_fillFighters 5 none ∈ gl_ := wg_ 714 (by decide +kernel) rfl
set_option maxRecDepth 100000 in
theorem wc_X0_fillReasons : Cond.code yX0_fillReasons cX0_fillReasons 8 none ∈ gl_ := wg_ 698 (by decide +kernel) rfl
set_option maxRecDepth 100000 in
theorem wc_X0_forgetAll : Cond.code yX0_forgetAll cX0_forgetAll 1 none ∈ gl_ := wg_ 627 (by decide +kernel) rfl
set_option maxRecDepth 100000 in
theorem wc_X0_forgetReasons : Cond.code yX0_forgetReasons cX0_forgetReasons 2 none ∈ gl_ := wg_ 1110 (by decide +kernel) rfl
set_option maxRecDepth 100000 in
theorem wc_X0_init : Cond.code yX0_init cX0_init 1 none ∈ gl_ := wg_ 278 (by decide +kernel) rfl
set_option maxRecDepth 100000 in
theorem wc_X0_markFeast : Cond.code yX0_markFeast cX0_markFeast 8 none ∈ gl_ := wg_ 702 (by decide +kernel) rfl
set_option maxRecDepth 100000 in
theorem wc_X0_markReason : Cond.code yX0_markReason cX0_markReason 6 none ∈ gl_ := wg_ 710 (by decide +kernel) rfl
set_option maxRecDepth 100000 in
theorem wc_X0_monthDay : Cond.code yX0_monthDay cX0_monthDay 4 (some .int) ∈ gl_ := wg_ 826 (by decide +kernel) rfl
set_option maxRecDepth 100000 in
theorem wc_X0_part : Cond.code yX0_part cX0_part 5 (some .int) ∈ gl_ := wg_ 718 (by decide +kernel) rfl
set_option maxRecDepth 100000 in
theorem wc_X0_reason : Cond.code yX0_reason cX0_reason 3 (some .int) ∈ gl_ := wg_ 743 (by decide +kernel) rfl
set_option maxRecDepth 100000 in
theorem wc_X0_seekBeginning : Cond.code yX0_seekBeginning cX0_seekBeginning 8 none ∈ gl_ := wg_ 1053 (by decide +kernel) rfl
set_option maxRecDepth 100000 in
theorem wc_X0_seekWait : Cond.code yX0_seekWait cX0_seekWait 8 none ∈ gl_ := wg_ 783 (by decide +kernel) rfl
set_option maxRecDepth 100000 in
theorem wc_X10_age : Cond.code yX10_age cX10_age 4 (some .int) ∈ gl_ := wg_ 1007 (by decide +kernel) rfl
set_option maxRecDepth 100000 in
theorem wc_X10_alike : Cond.code yX10_alike cX10_alike 7 (some .int) ∈ gl_ := wg_ 822 (by decide +kernel) rfl
set_option maxRecDepth 100000 in
theorem wc_X10_alone : Cond.code yX10_alone cX10_alone 5 (some .int) ∈ gl_ := wg_ 1037 (by decide +kernel) rfl
set_option maxRecDepth 100000 in
theorem wc_X10_apart : Cond.code yX10_apart cX10_apart 3 (some .int) ∈ gl_ := wg_ 911 (by decide +kernel) rfl
set_option maxRecDepth 100000 in
theorem wc_X10_ask : Cond.code yX10_ask cX10_ask 5 (some .int) ∈ gl_ := wg_ 970 (by decide +kernel) rfl
set_option maxRecDepth 100000 in
theorem wc_X10_back : Cond.code yX10_back cX10_back 2 (some .int) ∈ gl_ := wg_ 1196 (by decide +kernel) rfl
set_option maxRecDepth 100000 in
theorem wc_X10_begin : Cond.code yX10_begin cX10_begin 6 (some .int) ∈ gl_ := wg_ 1049 (by decide +kernel) rfl
set_option maxRecDepth 100000 in
theorem wc_X10_begins : Cond.code yX10_begins cX10_begins 6 (some .int) ∈ gl_ := wg_ 1059 (by decide +kernel) rfl
set_option maxRecDepth 100000 in
theorem wc_X10_bridge : Cond.code yX10_bridge cX10_bridge 5 (some .int) ∈ gl_ := wg_ 870 (by decide +kernel) rfl
set_option maxRecDepth 100000 in
theorem wc_X10_bridged : Cond.code yX10_bridged cX10_bridged 5 (some .int) ∈ gl_ := wg_ 874 (by decide +kernel) rfl
set_option maxRecDepth 100000 in
theorem wc_X10_clash : Cond.code yX10_clash cX10_clash 5 (some .int) ∈ gl_ := wg_ 1025 (by decide +kernel) rfl
set_option maxRecDepth 100000 in
theorem wc_X10_comes : Cond.code yX10_comes cX10_comes 7 (some .int) ∈ gl_ := wg_ 834 (by decide +kernel) rfl
set_option maxRecDepth 100000 in
theorem wc_X10_commonDivisor : Cond.code yX10_commonDivisor cX10_commonDivisor 6 (some .int) ∈ gl_ := wg_ 794 (by decide +kernel) rfl
set_option maxRecDepth 100000 in
theorem wc_X10_count : Cond.code yX10_count cX10_count 2 (some .int) ∈ gl_ := wg_ 1175 (by decide +kernel) rfl
set_option maxRecDepth 100000 in
theorem wc_X10_date : Cond.code yX10_date cX10_date 4 (some .int) ∈ gl_ := wg_ 671 (by decide +kernel) rfl
set_option maxRecDepth 100000 in
theorem wc_X10_day : Cond.code yX10_day cX10_day 5 (some .int) ∈ gl_ := wg_ 722 (by decide +kernel) rfl
set_option maxRecDepth 100000 in
theorem wc_X10_drawn : Cond.code yX10_drawn cX10_drawn 13 (some .int) ∈ gl_ := wg_ 1148 (by decide +kernel) rfl
set_option maxRecDepth 100000 in
theorem wc_X10_end : Cond.code yX10_end cX10_end 2 (some .int) ∈ gl_ := wg_ 481 (by decide +kernel) rfl
set_option maxRecDepth 100000 in
theorem wc_X10_ends : Cond.code yX10_ends cX10_ends 3 (some .int) ∈ gl_ := wg_ 1123 (by decide +kernel) rfl
set_option maxRecDepth 100000 in
theorem wc_X10_fault : Cond.code yX10_fault cX10_fault 2 (some .int) ∈ gl_ := wg_ 631 (by decide +kernel) rfl
set_option maxRecDepth 100000 in
theorem wc_X10_feast : Cond.code yX10_feast cX10_feast 3 (some .int) ∈ gl_ := wg_ 663 (by decide +kernel) rfl
set_option maxRecDepth 100000 in
theorem wc_X10_feed : Cond.code yX10_feed cX10_feed 6 (some .int) ∈ gl_ := wg_ 473 (by decide +kernel) rfl
set_option maxRecDepth 100000 in
theorem wc_X10_fightsInRain : Cond.code yX10_fightsInRain cX10_fightsInRain 11 (some .boolean) ∈ gl_ := wg_ 1171 (by decide +kernel) rfl
set_option maxRecDepth 100000 in
theorem wc_X10_fit : Cond.code yX10_fit cX10_fit 6 (some .int) ∈ gl_ := wg_ 954 (by decide +kernel) rfl
set_option maxRecDepth 100000 in
theorem wc_X10_fits : Cond.code yX10_fits cX10_fits 5 (some .int) ∈ gl_ := wg_ 932 (by decide +kernel) rfl
set_option maxRecDepth 100000 in
theorem wc_X10_found : Cond.code yX10_found cX10_found 5 (some .int) ∈ gl_ := wg_ 1093 (by decide +kernel) rfl
set_option maxRecDepth 100000 in
theorem wc_X10_founded : Cond.code yX10_founded cX10_founded 6 (some .long) ∈ gl_ := wg_ 865 (by decide +kernel) rfl
set_option maxRecDepth 100000 in
theorem wc_X10_gains : Cond.code yX10_gains cX10_gains 7 (some .int) ∈ gl_ := wg_ 1017 (by decide +kernel) rfl
set_option maxRecDepth 100000 in
theorem wc_X10_game : Cond.code yX10_game cX10_game 5 (some .int) ∈ gl_ := wg_ 1063 (by decide +kernel) rfl
set_option maxRecDepth 100000 in
theorem wc_X10_grant : Cond.code yX10_grant cX10_grant 4 (some .int) ∈ gl_ := wg_ 1114 (by decide +kernel) rfl
set_option maxRecDepth 100000 in
theorem wc_X10_holds : Cond.code yX10_holds cX10_holds 2 (some .int) ∈ gl_ := wg_ 990 (by decide +kernel) rfl
set_option maxRecDepth 100000 in
theorem wc_X10_idle : Cond.code yX10_idle cX10_idle 3 (some .int) ∈ gl_ := wg_ 923 (by decide +kernel) rfl
set_option maxRecDepth 100000 in
theorem wc_X10_image : Cond.code yX10_image cX10_image 2 (some .int) ∈ gl_ := wg_ 1183 (by decide +kernel) rfl
set_option maxRecDepth 100000 in
theorem wc_X10_init : Cond.code yX10_init cX10_init 2 none ∈ gl_ := wg_ 101 (by decide +kernel) rfl
set_option maxRecDepth 100000 in
theorem wc_X10_isDay : Cond.code yX10_isDay cX10_isDay 1 (some .boolean) ∈ gl_ := wg_ 678 (by decide +kernel) rfl
set_option maxRecDepth 100000 in
theorem wc_X10_isDayOfWar : Cond.code yX10_isDayOfWar cX10_isDayOfWar 2 (some .boolean) ∈ gl_ := wg_ 751 (by decide +kernel) rfl
set_option maxRecDepth 100000 in
theorem wc_X10_isLandAndDay : Cond.code yX10_isLandAndDay cX10_isLandAndDay 3 (some .boolean) ∈ gl_ := wg_ 675 (by decide +kernel) rfl
set_option maxRecDepth 100000 in
theorem wc_X10_isPair : Cond.code yX10_isPair cX10_isPair 3 (some .boolean) ∈ gl_ := wg_ 806 (by decide +kernel) rfl
set_option maxRecDepth 100000 in
theorem wc_X10_isPairAndDay : Cond.code yX10_isPairAndDay cX10_isPairAndDay 4 (some .boolean) ∈ gl_ := wg_ 802 (by decide +kernel) rfl
set_option maxRecDepth 100000 in
theorem wc_X10_isRain : Cond.code yX10_isRain cX10_isRain 3 (some .boolean) ∈ gl_ := wg_ 1151 (by decide +kernel) rfl
set_option maxRecDepth 100000 in
theorem wc_X10_isSaintly : Cond.code yX10_isSaintly cX10_isSaintly 6 (some .boolean) ∈ gl_ := wg_ 842 (by decide +kernel) rfl
set_option maxRecDepth 100000 in
theorem wc_X10_isSetInSpan : Cond.code yX10_isSetInSpan cX10_isSetInSpan 4 (some .boolean) ∈ gl_ := wg_ 759 (by decide +kernel) rfl
set_option maxRecDepth 100000 in
theorem wc_X10_isSlot : Cond.code yX10_isSlot cX10_isSlot 1 (some .boolean) ∈ gl_ := wg_ 885 (by decide +kernel) rfl
set_option maxRecDepth 100000 in
theorem wc_X10_isSpan : Cond.code yX10_isSpan cX10_isSpan 2 (some .boolean) ∈ gl_ := wg_ 762 (by decide +kernel) rfl
set_option maxRecDepth 100000 in
theorem wc_X10_isWet : Cond.code yX10_isWet cX10_isWet 3 (some .boolean) ∈ gl_ := wg_ 1161 (by decide +kernel) rfl
set_option maxRecDepth 100000 in
theorem wc_X10_isYear : Cond.code yX10_isYear cX10_isYear 1 (some .boolean) ∈ gl_ := wg_ 651 (by decide +kernel) rfl
set_option maxRecDepth 100000 in
theorem wc_X10_land : Cond.code yX10_land cX10_land 4 (some .int) ∈ gl_ := wg_ 635 (by decide +kernel) rfl
set_option maxRecDepth 100000 in
theorem wc_X10_leaves : Cond.code yX10_leaves cX10_leaves 5 (some .int) ∈ gl_ := wg_ 986 (by decide +kernel) rfl
set_option maxRecDepth 100000 in
theorem wc_X10_luck : Cond.code yX10_luck cX10_luck 9 (some .int) ∈ gl_ := wg_ 1167 (by decide +kernel) rfl
set_option maxRecDepth 100000 in
theorem wc_X10_many : Cond.code yX10_many cX10_many 4 (some .int) ∈ gl_ := wg_ 770 (by decide +kernel) rfl
set_option maxRecDepth 100000 in
theorem wc_X10_march : Cond.code yX10_march cX10_march 7 (some .int) ∈ gl_ := wg_ 1021 (by decide +kernel) rfl
set_option maxRecDepth 100000 in
theorem wc_X10_may : Cond.code yX10_may cX10_may 3 (some .int) ∈ gl_ := wg_ 735 (by decide +kernel) rfl
set_option maxRecDepth 100000 in
theorem wc_X10_meets : Cond.code yX10_meets cX10_meets 8 (some .int) ∈ gl_ := wg_ 798 (by decide +kernel) rfl
set_option maxRecDepth 100000 in
theorem wc_X10_month : Cond.code yX10_month cX10_month 4 (some .int) ∈ gl_ := wg_ 643 (by decide +kernel) rfl
set_option maxRecDepth 100000 in
theorem wc_X10_most : Cond.code yX10_most cX10_most 4 (some .int) ∈ gl_ := wg_ 1002 (by decide +kernel) rfl
set_option maxRecDepth 100000 in
theorem wc_X10_next : Cond.code yX10_next cX10_next 5 (some .int) ∈ gl_ := wg_ 755 (by decide +kernel) rfl
set_option maxRecDepth 100000 in
theorem wc_X10_nextDraw : Cond.code yX10_nextDraw cX10_nextDraw 2 (some .long) ∈ gl_ := wg_ 1155 (by decide +kernel) rfl
set_option maxRecDepth 100000 in
theorem wc_X10_older : Cond.code yX10_older cX10_older 4 (some .int) ∈ gl_ := wg_ 903 (by decide +kernel) rfl
set_option maxRecDepth 100000 in
theorem wc_X10_oldest : Cond.code yX10_oldest cX10_oldest 3 (some .int) ∈ gl_ := wg_ 878 (by decide +kernel) rfl
set_option maxRecDepth 100000 in
theorem wc_X10_overlap : Cond.code yX10_overlap cX10_overlap 4 (some .int) ∈ gl_ := wg_ 998 (by decide +kernel) rfl
set_option maxRecDepth 100000 in
theorem wc_X10_paste : Cond.code yX10_paste cX10_paste 8 (some .int) ∈ gl_ := wg_ 1219 (by decide +kernel) rfl
set_option maxRecDepth 100000 in
theorem wc_X10_period : Cond.code yX10_period cX10_period 4 (some .int) ∈ gl_ := wg_ 814 (by decide +kernel) rfl
set_option maxRecDepth 100000 in
theorem wc_X10_place : Cond.code yX10_place cX10_place 9 (some .int) ∈ gl_ := wg_ 1033 (by decide +kernel) rfl
set_option maxRecDepth 100000 in
theorem wc_X10_readOrders : Cond.code yX10_readOrders cX10_readOrders 2 (some .int) ∈ gl_ := wg_ 882 (by decide +kernel) rfl
set_option maxRecDepth 100000 in
theorem wc_X10_readSights : Cond.code yX10_readSights cX10_readSights 5 (some .int) ∈ gl_ := wg_ 936 (by decide +kernel) rfl
set_option maxRecDepth 100000 in
theorem wc_X10_row : Cond.code yX10_row cX10_row 4 (some .int) ∈ gl_ := wg_ 1200 (by decide +kernel) rfl
set_option maxRecDepth 100000 in
theorem wc_X10_saints : Cond.code yX10_saints cX10_saints 6 (some .int) ∈ gl_ := wg_ 838 (by decide +kernel) rfl
set_option maxRecDepth 100000 in
theorem wc_X10_share : Cond.code yX10_share cX10_share 8 (some .int) ∈ gl_ := wg_ 791 (by decide +kernel) rfl
set_option maxRecDepth 100000 in
theorem wc_X10_slotsWithRow : Cond.code yX10_slotsWithRow cX10_slotsWithRow 3 (some .int) ∈ gl_ := wg_ 1179 (by decide +kernel) rfl
set_option maxRecDepth 100000 in
theorem wc_X10_sure : Cond.code yX10_sure cX10_sure 6 (some .int) ∈ gl_ := wg_ 958 (by decide +kernel) rfl
set_option maxRecDepth 100000 in
theorem wc_X10_takes : Cond.code yX10_takes cX10_takes 5 (some .int) ∈ gl_ := wg_ 1089 (by decide +kernel) rfl
set_option maxRecDepth 100000 in
theorem wc_X10_told : Cond.code yX10_told cX10_told 1 (some (.object "TwoCalendars$Almanac")) ∈ gl_ := wg_ 682 (by decide +kernel) rfl
set_option maxRecDepth 100000 in
theorem wc_X10_truce : Cond.code yX10_truce cX10_truce 3 (some .int) ∈ gl_ := wg_ 667 (by decide +kernel) rfl
set_option maxRecDepth 100000 in
theorem wc_X10_undo : Cond.code yX10_undo cX10_undo 1 (some .int) ∈ gl_ := wg_ 1139 (by decide +kernel) rfl
set_option maxRecDepth 100000 in
theorem wc_X10_waiting : Cond.code yX10_waiting cX10_waiting 4 (some .int) ∈ gl_ := wg_ 787 (by decide +kernel) rfl
set_option maxRecDepth 100000 in
theorem wc_X10_waits : Cond.code yX10_waits cX10_waits 4 (some .int) ∈ gl_ := wg_ 779 (by decide +kernel) rfl
set_option maxRecDepth 100000 in
theorem wc_X10_war : Cond.code yX10_war cX10_war 2 (some .int) ∈ gl_ := wg_ 485 (by decide +kernel) rfl
set_option maxRecDepth 100000 in
theorem wc_X10_who : Cond.code yX10_who cX10_who 2 (some .int) ∈ gl_ := wg_ 747 (by decide +kernel) rfl
set_option maxRecDepth 100000 in
theorem wc_X10_why : Cond.code yX10_why cX10_why 3 (some .int) ∈ gl_ := wg_ 739 (by decide +kernel) rfl
set_option maxRecDepth 100000 in
theorem wc_X10_write : Cond.code yX10_write cX10_write 6 (some .int) ∈ gl_ := wg_ 1211 (by decide +kernel) rfl
set_option maxRecDepth 100000 in
theorem wc_X10_years : Cond.code yX10_years cX10_years 5 (some .int) ∈ gl_ := wg_ 830 (by decide +kernel) rfl
set_option maxRecDepth 100000 in
theorem wc_X11_advance : Cond.code yX11_advance cX11_advance 2 none ∈ gl_ := wg_ 1379 (by decide +kernel) rfl
set_option maxRecDepth 100000 in
theorem wc_X11_age : Cond.code yX11_age cX11_age 4 (some .int) ∈ gl_ := wg_ 1793 (by decide +kernel) rfl
set_option maxRecDepth 100000 in
theorem wc_X11_ageOf : Cond.code yX11_ageOf cX11_ageOf 7 (some .int) ∈ gl_ := wg_ 1797 (by decide +kernel) rfl
set_option maxRecDepth 100000 in
theorem wc_X11_alike : Cond.code yX11_alike cX11_alike 5 (some .int) ∈ gl_ := wg_ 1648 (by decide +kernel) rfl
set_option maxRecDepth 100000 in
theorem wc_X11_allLands : Cond.code yX11_allLands cX11_allLands 1 (some .int) ∈ gl_ := wg_ 1593 (by decide +kernel) rfl
set_option maxRecDepth 100000 in
theorem wc_X11_alone : Cond.code yX11_alone cX11_alone 5 (some .int) ∈ gl_ := wg_ 1825 (by decide +kernel) rfl
set_option maxRecDepth 100000 in
theorem wc_X11_aloneOf : Cond.code yX11_aloneOf cX11_aloneOf 7 (some .int) ∈ gl_ := wg_ 1829 (by decide +kernel) rfl
set_option maxRecDepth 100000 in
theorem wc_X11_apart : Cond.code yX11_apart cX11_apart 6 (some .int) ∈ gl_ := wg_ 1723 (by decide +kernel) rfl
set_option maxRecDepth 100000 in
theorem wc_X11_areSaints : Cond.code yX11_areSaints cX11_areSaints 6 (some .boolean) ∈ gl_ := wg_ 1668 (by decide +kernel) rfl
set_option maxRecDepth 100000 in
theorem wc_X11_areTwo : Cond.code yX11_areTwo cX11_areTwo 3 (some .boolean) ∈ gl_ := wg_ 1635 (by decide +kernel) rfl
set_option maxRecDepth 100000 in
theorem wc_X11_ask : Cond.code yX11_ask cX11_ask 5 (some .int) ∈ gl_ := wg_ 1761 (by decide +kernel) rfl
set_option maxRecDepth 100000 in
theorem wc_X11_askOf : Cond.code yX11_askOf cX11_askOf 8 (some .int) ∈ gl_ := wg_ 1765 (by decide +kernel) rfl
set_option maxRecDepth 100000 in
theorem wc_X11_asksOrders : Cond.code yX11_asksOrders cX11_asksOrders 3 (some .int) ∈ gl_ := wg_ 1700 (by decide +kernel) rfl
set_option maxRecDepth 100000 in
theorem wc_X11_asksSeen : Cond.code yX11_asksSeen cX11_asksSeen 6 (some .int) ∈ gl_ := wg_ 1736 (by decide +kernel) rfl
set_option maxRecDepth 100000 in
theorem wc_X11_back : Cond.code yX11_back cX11_back 3 (some .int) ∈ gl_ := wg_ 1359 (by decide +kernel) rfl
set_option maxRecDepth 100000 in
theorem wc_X11_begin : Cond.code yX11_begin cX11_begin 6 (some .int) ∈ gl_ := wg_ 1833 (by decide +kernel) rfl
set_option maxRecDepth 100000 in
theorem wc_X11_beginOf : Cond.code yX11_beginOf cX11_beginOf 9 (some .int) ∈ gl_ := wg_ 1842 (by decide +kernel) rfl
set_option maxRecDepth 100000 in
theorem wc_X11_begins : Cond.code yX11_begins cX11_begins 6 (some .int) ∈ gl_ := wg_ 1846 (by decide +kernel) rfl
set_option maxRecDepth 100000 in
theorem wc_X11_behind : Cond.code yX11_behind cX11_behind 4 (some .int) ∈ gl_ := wg_ 1872 (by decide +kernel) rfl
set_option maxRecDepth 100000 in
theorem wc_X11_bestTake : Cond.code yX11_bestTake cX11_bestTake 3 (some .int) ∈ gl_ := wg_ 1869 (by decide +kernel) rfl
set_option maxRecDepth 100000 in
theorem wc_X11_bit : Cond.code yX11_bit cX11_bit 2 (some .int) ∈ gl_ := wg_ 1537 (by decide +kernel) rfl
set_option maxRecDepth 100000 in
theorem wc_X11_bridge : Cond.code yX11_bridge cX11_bridge 5 (some .int) ∈ gl_ := wg_ 1684 (by decide +kernel) rfl
set_option maxRecDepth 100000 in
theorem wc_X11_bridged : Cond.code yX11_bridged cX11_bridged 5 (some .int) ∈ gl_ := wg_ 1692 (by decide +kernel) rfl
set_option maxRecDepth 100000 in
theorem wc_X11_clash : Cond.code yX11_clash cX11_clash 5 (some .int) ∈ gl_ := wg_ 1809 (by decide +kernel) rfl
set_option maxRecDepth 100000 in
theorem wc_X11_comes : Cond.code yX11_comes cX11_comes 4 (some .int) ∈ gl_ := wg_ 1660 (by decide +kernel) rfl
set_option maxRecDepth 100000 in
theorem wc_X11_copy : Cond.code yX11_copy cX11_copy 4 none ∈ gl_ := wg_ 1863 (by decide +kernel) rfl
set_option maxRecDepth 100000 in
theorem wc_X11_count : Cond.code yX11_count cX11_count 4 (some .int) ∈ gl_ := wg_ 1924 (by decide +kernel) rfl
set_option maxRecDepth 100000 in
theorem wc_X11_cut : Cond.code yX11_cut cX11_cut 4 (some .long) ∈ gl_ := wg_ 1935 (by decide +kernel) rfl
set_option maxRecDepth 100000 in
theorem wc_X11_date : Cond.code yX11_date cX11_date 4 (some .int) ∈ gl_ := wg_ 1512 (by decide +kernel) rfl
set_option maxRecDepth 100000 in
theorem wc_X11_dateOf : Cond.code yX11_dateOf cX11_dateOf 4 (some .int) ∈ gl_ := wg_ 1541 (by decide +kernel) rfl
set_option maxRecDepth 100000 in
theorem wc_X11_day : Cond.code yX11_day cX11_day 6 (some .int) ∈ gl_ := wg_ 1545 (by decide +kernel) rfl
set_option maxRecDepth 100000 in
theorem wc_X11_dayAt : Cond.code yX11_dayAt cX11_dayAt 3 (some .int) ∈ gl_ := wg_ 1715 (by decide +kernel) rfl
set_option maxRecDepth 100000 in
theorem wc_X11_dayBy : Cond.code yX11_dayBy cX11_dayBy 7 (some .int) ∈ gl_ := wg_ 1553 (by decide +kernel) rfl
set_option maxRecDepth 100000 in
theorem wc_X11_divisor : Cond.code yX11_divisor cX11_divisor 5 (some .int) ∈ gl_ := wg_ 1627 (by decide +kernel) rfl
set_option maxRecDepth 100000 in
theorem wc_X11_drawn : Cond.code yX11_drawn cX11_drawn 5 (some .int) ∈ gl_ := wg_ 1903 (by decide +kernel) rfl
set_option maxRecDepth 100000 in
theorem wc_X11_end : Cond.code yX11_end cX11_end 2 (some .int) ∈ gl_ := wg_ 1367 (by decide +kernel) rfl
set_option maxRecDepth 100000 in
theorem wc_X11_ends : Cond.code yX11_ends cX11_ends 4 (some .int) ∈ gl_ := wg_ 1895 (by decide +kernel) rfl
set_option maxRecDepth 100000 in
theorem wc_X11_errs : Cond.code yX11_errs cX11_errs 2 none ∈ gl_ := wg_ 1416 (by decide +kernel) rfl
set_option maxRecDepth 100000 in
theorem wc_X11_fault : Cond.code yX11_fault cX11_fault 2 (some .int) ∈ gl_ := wg_ 1371 (by decide +kernel) rfl
set_option maxRecDepth 100000 in
theorem wc_X11_feast : Cond.code yX11_feast cX11_feast 3 (some .int) ∈ gl_ := wg_ 1495 (by decide +kernel) rfl
set_option maxRecDepth 100000 in
theorem wc_X11_feed : Cond.code yX11_feed cX11_feed 7 (some .int) ∈ gl_ := wg_ 1363 (by decide +kernel) rfl
set_option maxRecDepth 100000 in
theorem wc_X11_findBridge : Cond.code yX11_findBridge cX11_findBridge 8 none ∈ gl_ := wg_ 1688 (by decide +kernel) rfl
set_option maxRecDepth 100000 in
theorem wc_X11_findClash : Cond.code yX11_findClash cX11_findClash 9 none ∈ gl_ := wg_ 1817 (by decide +kernel) rfl
set_option maxRecDepth 100000 in
theorem wc_X11_findSaints : Cond.code yX11_findSaints cX11_findSaints 9 none ∈ gl_ := wg_ 1674 (by decide +kernel) rfl
set_option maxRecDepth 100000 in
theorem wc_X11_findWait : Cond.code yX11_findWait cX11_findWait 6 none ∈ gl_ := wg_ 1616 (by decide +kernel) rfl
set_option maxRecDepth 100000 in
theorem wc_X11_fit : Cond.code yX11_fit cX11_fit 8 (some .int) ∈ gl_ := wg_ 1753 (by decide +kernel) rfl
set_option maxRecDepth 100000 in
theorem wc_X11_fits : Cond.code yX11_fits cX11_fits 5 (some .int) ∈ gl_ := wg_ 1732 (by decide +kernel) rfl
set_option maxRecDepth 100000 in
theorem wc_X11_fitsOf : Cond.code yX11_fitsOf cX11_fitsOf 6 (some .int) ∈ gl_ := wg_ 1741 (by decide +kernel) rfl
set_option maxRecDepth 100000 in
theorem wc_X11_found : Cond.code yX11_found cX11_found 6 (some .int) ∈ gl_ := wg_ 1883 (by decide +kernel) rfl
set_option maxRecDepth 100000 in
theorem wc_X11_founded : Cond.code yX11_founded cX11_founded 6 (some .long) ∈ gl_ := wg_ 1679 (by decide +kernel) rfl
set_option maxRecDepth 100000 in
theorem wc_X11_freshLand : Cond.code yX11_freshLand cX11_freshLand 1 (some .int) ∈ gl_ := wg_ 1456 (by decide +kernel) rfl
set_option maxRecDepth 100000 in
theorem wc_X11_gains : Cond.code yX11_gains cX11_gains 7 (some .int) ∈ gl_ := wg_ 1801 (by decide +kernel) rfl
set_option maxRecDepth 100000 in
theorem wc_X11_game : Cond.code yX11_game cX11_game 5 (some .int) ∈ gl_ := wg_ 1850 (by decide +kernel) rfl
set_option maxRecDepth 100000 in
theorem wc_X11_goRain : Cond.code yX11_goRain cX11_goRain 10 none ∈ gl_ := wg_ 1912 (by decide +kernel) rfl
set_option maxRecDepth 100000 in
theorem wc_X11_good : Cond.code yX11_good cX11_good 1 (some .boolean) ∈ gl_ := wg_ 1393 (by decide +kernel) rfl
set_option maxRecDepth 100000 in
theorem wc_X11_grant : Cond.code yX11_grant cX11_grant 5 (some .int) ∈ gl_ := wg_ 1891 (by decide +kernel) rfl
set_option maxRecDepth 100000 in
theorem wc_X11_holdOn : Cond.code yX11_holdOn cX11_holdOn 4 (some .int) ∈ gl_ := wg_ 1781 (by decide +kernel) rfl
set_option maxRecDepth 100000 in
theorem wc_X11_holds : Cond.code yX11_holds cX11_holds 2 (some .int) ∈ gl_ := wg_ 1777 (by decide +kernel) rfl
set_option maxRecDepth 100000 in
theorem wc_X11_idle : Cond.code yX11_idle cX11_idle 5 (some .int) ∈ gl_ := wg_ 1728 (by decide +kernel) rfl
set_option maxRecDepth 100000 in
theorem wc_X11_image : Cond.code yX11_image cX11_image 3 (some .int) ∈ gl_ := wg_ 1351 (by decide +kernel) rfl
set_option maxRecDepth 100000 in
theorem wc_X11_in : Cond.code yX11_in cX11_in 6 (some .boolean) ∈ gl_ := wg_ 1355 (by decide +kernel) rfl
set_option maxRecDepth 100000 in
theorem wc_X11_init : Cond.code yX11_init cX11_init 1 none ∈ gl_ := wg_ 1229 (by decide +kernel) rfl
set_option maxRecDepth 100000 in
theorem wc_X11_intAt : Cond.code yX11_intAt cX11_intAt 3 (some .int) ∈ gl_ := wg_ 1711 (by decide +kernel) rfl
set_option maxRecDepth 100000 in
theorem wc_X11_is : Cond.code yX11_is cX11_is 4 (some .boolean) ∈ gl_ := wg_ 1410 (by decide +kernel) rfl
set_option maxRecDepth 100000 in
theorem wc_X11_isBegin : Cond.code yX11_isBegin cX11_isBegin 6 (some .boolean) ∈ gl_ := wg_ 1837 (by decide +kernel) rfl
set_option maxRecDepth 100000 in
theorem wc_X11_isClash : Cond.code yX11_isClash cX11_isClash 5 (some .boolean) ∈ gl_ := wg_ 1813 (by decide +kernel) rfl
set_option maxRecDepth 100000 in
theorem wc_X11_isCounted : Cond.code yX11_isCounted cX11_isCounted 3 (some .boolean) ∈ gl_ := wg_ 1652 (by decide +kernel) rfl
set_option maxRecDepth 100000 in
theorem wc_X11_isDate : Cond.code yX11_isDate cX11_isDate 8 (some .boolean) ∈ gl_ := wg_ 1549 (by decide +kernel) rfl
set_option maxRecDepth 100000 in
theorem wc_X11_isDay : Cond.code yX11_isDay cX11_isDay 2 (some .boolean) ∈ gl_ := wg_ 1515 (by decide +kernel) rfl
set_option maxRecDepth 100000 in
theorem wc_X11_isGame : Cond.code yX11_isGame cX11_isGame 5 (some .boolean) ∈ gl_ := wg_ 1854 (by decide +kernel) rfl
set_option maxRecDepth 100000 in
theorem wc_X11_isLand : Cond.code yX11_isLand cX11_isLand 3 (some .boolean) ∈ gl_ := wg_ 1470 (by decide +kernel) rfl
set_option maxRecDepth 100000 in
theorem wc_X11_isMonth : Cond.code yX11_isMonth cX11_isMonth 4 (some .boolean) ∈ gl_ := wg_ 1483 (by decide +kernel) rfl
set_option maxRecDepth 100000 in
theorem wc_X11_isSeed : Cond.code yX11_isSeed cX11_isSeed 1 (some .boolean) ∈ gl_ := wg_ 1906 (by decide +kernel) rfl
set_option maxRecDepth 100000 in
theorem wc_X11_isSeen : Cond.code yX11_isSeen cX11_isSeen 5 (some .boolean) ∈ gl_ := wg_ 1745 (by decide +kernel) rfl
set_option maxRecDepth 100000 in
theorem wc_X11_isSet : Cond.code yX11_isSet cX11_isSet 2 (some .boolean) ∈ gl_ := wg_ 1589 (by decide +kernel) rfl
set_option maxRecDepth 100000 in
theorem wc_X11_isSlot : Cond.code yX11_isSlot cX11_isSlot 1 (some .boolean) ∈ gl_ := wg_ 1703 (by decide +kernel) rfl
set_option maxRecDepth 100000 in
theorem wc_X11_isSpan : Cond.code yX11_isSpan cX11_isSpan 2 (some .boolean) ∈ gl_ := wg_ 1604 (by decide +kernel) rfl
set_option maxRecDepth 100000 in
theorem wc_X11_isWar : Cond.code yX11_isWar cX11_isWar 1 (some .boolean) ∈ gl_ := wg_ 1577 (by decide +kernel) rfl
set_option maxRecDepth 100000 in
theorem wc_X11_isWeekday : Cond.code yX11_isWeekday cX11_isWeekday 3 (some .boolean) ∈ gl_ := wg_ 1639 (by decide +kernel) rfl
set_option maxRecDepth 100000 in
theorem wc_X11_isYear : Cond.code yX11_isYear cX11_isYear 2 (some .boolean) ∈ gl_ := wg_ 1486 (by decide +kernel) rfl
set_option maxRecDepth 100000 in
theorem wc_X11_keepChange : Cond.code yX11_keepChange cX11_keepChange 5 none ∈ gl_ := wg_ 1887 (by decide +kernel) rfl
set_option maxRecDepth 100000 in
theorem wc_X11_land : Cond.code yX11_land cX11_land 3 (some .int) ∈ gl_ := wg_ 1466 (by decide +kernel) rfl
set_option maxRecDepth 100000 in
theorem wc_X11_lay : Cond.code yX11_lay cX11_lay 2 none ∈ gl_ := wg_ 1519 (by decide +kernel) rfl
set_option maxRecDepth 100000 in
theorem wc_X11_layDates : Cond.code yX11_layDates cX11_layDates 7 none ∈ gl_ := wg_ 1523 (by decide +kernel) rfl
set_option maxRecDepth 100000 in
theorem wc_X11_layWhy : Cond.code yX11_layWhy cX11_layWhy 5 none ∈ gl_ := wg_ 1530 (by decide +kernel) rfl
set_option maxRecDepth 100000 in
theorem wc_X11_leaves : Cond.code yX11_leaves cX11_leaves 5 (some .int) ∈ gl_ := wg_ 1773 (by decide +kernel) rfl
set_option maxRecDepth 100000 in
theorem wc_X11_lengthOf : Cond.code yX11_lengthOf cX11_lengthOf 4 (some .int) ∈ gl_ := wg_ 1491 (by decide +kernel) rfl
set_option maxRecDepth 100000 in
theorem wc_X11_luck : Cond.code yX11_luck cX11_luck 8 (some .int) ∈ gl_ := wg_ 1920 (by decide +kernel) rfl
set_option maxRecDepth 100000 in
theorem wc_X11_many : Cond.code yX11_many cX11_many 4 (some .int) ∈ gl_ := wg_ 1601 (by decide +kernel) rfl
set_option maxRecDepth 100000 in
theorem wc_X11_manyOf : Cond.code yX11_manyOf cX11_manyOf 6 (some .int) ∈ gl_ := wg_ 1608 (by decide +kernel) rfl
set_option maxRecDepth 100000 in
theorem wc_X11_march : Cond.code yX11_march cX11_march 6 (some .int) ∈ gl_ := wg_ 1805 (by decide +kernel) rfl
set_option maxRecDepth 100000 in
theorem wc_X11_may : Cond.code yX11_may cX11_may 3 (some .int) ∈ gl_ := wg_ 1561 (by decide +kernel) rfl
set_option maxRecDepth 100000 in
theorem wc_X11_mayAll : Cond.code yX11_mayAll cX11_mayAll 3 (some .boolean) ∈ gl_ := wg_ 1597 (by decide +kernel) rfl
set_option maxRecDepth 100000 in
theorem wc_X11_mayOn : Cond.code yX11_mayOn cX11_mayOn 3 (some .boolean) ∈ gl_ := wg_ 1565 (by decide +kernel) rfl
set_option maxRecDepth 100000 in
theorem wc_X11_meets : Cond.code yX11_meets cX11_meets 8 (some .int) ∈ gl_ := wg_ 1631 (by decide +kernel) rfl
set_option maxRecDepth 100000 in
theorem wc_X11_month : Cond.code yX11_month cX11_month 4 (some .int) ∈ gl_ := wg_ 1479 (by decide +kernel) rfl
set_option maxRecDepth 100000 in
theorem wc_X11_most : Cond.code yX11_most cX11_most 3 (some .int) ∈ gl_ := wg_ 1789 (by decide +kernel) rfl
set_option maxRecDepth 100000 in
theorem wc_X11_needs : Cond.code yX11_needs cX11_needs 2 none ∈ gl_ := wg_ 1402 (by decide +kernel) rfl
set_option maxRecDepth 100000 in
theorem wc_X11_next : Cond.code yX11_next cX11_next 4 (some .int) ∈ gl_ := wg_ 1585 (by decide +kernel) rfl
set_option maxRecDepth 100000 in
theorem wc_X11_number : Cond.code yX11_number cX11_number 4 (some .int) ∈ gl_ := wg_ 1425 (by decide +kernel) rfl
set_option maxRecDepth 100000 in
theorem wc_X11_numberAt : Cond.code yX11_numberAt cX11_numberAt 3 (some .long) ∈ gl_ := wg_ 1707 (by decide +kernel) rfl
set_option maxRecDepth 100000 in
theorem wc_X11_of : Cond.code yX11_of cX11_of 3 (some .int) ∈ gl_ := wg_ 1475 (by decide +kernel) rfl
set_option maxRecDepth 100000 in
theorem wc_X11_ofFeast : Cond.code yX11_ofFeast cX11_ofFeast 3 (some .int) ∈ gl_ := wg_ 1500 (by decide +kernel) rfl
set_option maxRecDepth 100000 in
theorem wc_X11_ofTruce : Cond.code yX11_ofTruce cX11_ofTruce 3 (some .int) ∈ gl_ := wg_ 1508 (by decide +kernel) rfl
set_option maxRecDepth 100000 in
theorem wc_X11_older : Cond.code yX11_older cX11_older 6 (some .int) ∈ gl_ := wg_ 1719 (by decide +kernel) rfl
set_option maxRecDepth 100000 in
theorem wc_X11_oldest : Cond.code yX11_oldest cX11_oldest 5 (some .int) ∈ gl_ := wg_ 1696 (by decide +kernel) rfl
set_option maxRecDepth 100000 in
theorem wc_X11_overlap : Cond.code yX11_overlap cX11_overlap 4 (some .int) ∈ gl_ := wg_ 1785 (by decide +kernel) rfl
set_option maxRecDepth 100000 in
theorem wc_X11_paste : Cond.code yX11_paste cX11_paste 7 (some .int) ∈ gl_ := wg_ 1939 (by decide +kernel) rfl
set_option maxRecDepth 100000 in
theorem wc_X11_period : Cond.code yX11_period cX11_period 4 (some .int) ∈ gl_ := wg_ 1644 (by decide +kernel) rfl
set_option maxRecDepth 100000 in
theorem wc_X11_place : Cond.code yX11_place cX11_place 5 (some .int) ∈ gl_ := wg_ 1821 (by decide +kernel) rfl
set_option maxRecDepth 100000 in
theorem wc_X11_play : Cond.code yX11_play cX11_play 7 none ∈ gl_ := wg_ 1859 (by decide +kernel) rfl
set_option maxRecDepth 100000 in
theorem wc_X11_rank : Cond.code yX11_rank cX11_rank 2 (some .int) ∈ gl_ := wg_ 1875 (by decide +kernel) rfl
set_option maxRecDepth 100000 in
theorem wc_X11_readFeast : Cond.code yX11_readFeast cX11_readFeast 3 none ∈ gl_ := wg_ 1452 (by decide +kernel) rfl
set_option maxRecDepth 100000 in
theorem wc_X11_readLand : Cond.code yX11_readLand cX11_readLand 2 none ∈ gl_ := wg_ 1436 (by decide +kernel) rfl
set_option maxRecDepth 100000 in
theorem wc_X11_readLine : Cond.code yX11_readLine cX11_readLine 1 none ∈ gl_ := wg_ 1397 (by decide +kernel) rfl
set_option maxRecDepth 100000 in
theorem wc_X11_readMonths : Cond.code yX11_readMonths cX11_readMonths 4 none ∈ gl_ := wg_ 1444 (by decide +kernel) rfl
set_option maxRecDepth 100000 in
theorem wc_X11_readNext : Cond.code yX11_readNext cX11_readNext 2 none ∈ gl_ := wg_ 1429 (by decide +kernel) rfl
set_option maxRecDepth 100000 in
theorem wc_X11_readTruce : Cond.code yX11_readTruce cX11_readTruce 2 none ∈ gl_ := wg_ 1461 (by decide +kernel) rfl
set_option maxRecDepth 100000 in
theorem wc_X11_row : Cond.code yX11_row cX11_row 5 (some .int) ∈ gl_ := wg_ 1928 (by decide +kernel) rfl
set_option maxRecDepth 100000 in
theorem wc_X11_saints : Cond.code yX11_saints cX11_saints 6 (some .int) ∈ gl_ := wg_ 1664 (by decide +kernel) rfl
set_option maxRecDepth 100000 in
theorem wc_X11_see : Cond.code yX11_see cX11_see 2 (some .int) ∈ gl_ := wg_ 1383 (by decide +kernel) rfl
set_option maxRecDepth 100000 in
theorem wc_X11_seen : Cond.code yX11_seen cX11_seen 4 (some .int) ∈ gl_ := wg_ 1749 (by decide +kernel) rfl
set_option maxRecDepth 100000 in
theorem wc_X11_share : Cond.code yX11_share cX11_share 7 (some .int) ∈ gl_ := wg_ 1624 (by decide +kernel) rfl
set_option maxRecDepth 100000 in
theorem wc_X11_spot : Cond.code yX11_spot cX11_spot 2 (some .int) ∈ gl_ := wg_ 1526 (by decide +kernel) rfl
set_option maxRecDepth 100000 in
theorem wc_X11_sure : Cond.code yX11_sure cX11_sure 10 (some .int) ∈ gl_ := wg_ 1757 (by decide +kernel) rfl
set_option maxRecDepth 100000 in
theorem wc_X11_takes : Cond.code yX11_takes cX11_takes 3 (some .boolean) ∈ gl_ := wg_ 1406 (by decide +kernel) rfl
set_option maxRecDepth 100000 in
theorem wc_X11_takes_ : Cond.code yX11_takes_ cX11_takes_ 8 (some .int) ∈ gl_ := wg_ 1879 (by decide +kernel) rfl
set_option maxRecDepth 100000 in
theorem wc_X11_told : Cond.code yX11_told cX11_told 4 (some .int) ∈ gl_ := wg_ 1421 (by decide +kernel) rfl
set_option maxRecDepth 100000 in
theorem wc_X11_truce : Cond.code yX11_truce cX11_truce 3 (some .int) ∈ gl_ := wg_ 1504 (by decide +kernel) rfl
set_option maxRecDepth 100000 in
theorem wc_X11_turn : Cond.code yX11_turn cX11_turn 4 none ∈ gl_ := wg_ 1866 (by decide +kernel) rfl
set_option maxRecDepth 100000 in
theorem wc_X11_undo : Cond.code yX11_undo cX11_undo 4 (some .int) ∈ gl_ := wg_ 1899 (by decide +kernel) rfl
set_option maxRecDepth 100000 in
theorem wc_X11_waiting : Cond.code yX11_waiting cX11_waiting 4 (some .int) ∈ gl_ := wg_ 1620 (by decide +kernel) rfl
set_option maxRecDepth 100000 in
theorem wc_X11_waits : Cond.code yX11_waits cX11_waits 4 (some .int) ∈ gl_ := wg_ 1612 (by decide +kernel) rfl
set_option maxRecDepth 100000 in
theorem wc_X11_war : Cond.code yX11_war cX11_war 2 (some .int) ∈ gl_ := wg_ 1375 (by decide +kernel) rfl
set_option maxRecDepth 100000 in
theorem wc_X11_weekday : Cond.code yX11_weekday cX11_weekday 3 (some .int) ∈ gl_ := wg_ 1534 (by decide +kernel) rfl
set_option maxRecDepth 100000 in
theorem wc_X11_who : Cond.code yX11_who cX11_who 2 (some .int) ∈ gl_ := wg_ 1573 (by decide +kernel) rfl
set_option maxRecDepth 100000 in
theorem wc_X11_whoOn : Cond.code yX11_whoOn cX11_whoOn 4 (some .int) ∈ gl_ := wg_ 1581 (by decide +kernel) rfl
set_option maxRecDepth 100000 in
theorem wc_X11_why : Cond.code yX11_why cX11_why 3 (some .int) ∈ gl_ := wg_ 1569 (by decide +kernel) rfl
set_option maxRecDepth 100000 in
theorem wc_X11_worstOf : Cond.code yX11_worstOf cX11_worstOf 9 (some .int) ∈ gl_ := wg_ 1769 (by decide +kernel) rfl
set_option maxRecDepth 100000 in
theorem wc_X11_write : Cond.code yX11_write cX11_write 5 (some .int) ∈ gl_ := wg_ 1932 (by decide +kernel) rfl
set_option maxRecDepth 100000 in
theorem wc_X11_yearLength : Cond.code yX11_yearLength cX11_yearLength 5 (some .int) ∈ gl_ := wg_ 1557 (by decide +kernel) rfl
set_option maxRecDepth 100000 in
theorem wc_X11_years : Cond.code yX11_years cX11_years 4 (some .int) ∈ gl_ := wg_ 1656 (by decide +kernel) rfl
set_option maxRecDepth 100000 in
theorem wc_X1_appendMonth : Cond.code yX1_appendMonth cX1_appendMonth 2 none ∈ gl_ := wg_ 597 (by decide +kernel) rfl
set_option maxRecDepth 100000 in
theorem wc_X1_clear : Cond.code yX1_clear cX1_clear 1 none ∈ gl_ := wg_ 585 (by decide +kernel) rfl
set_option maxRecDepth 100000 in
theorem wc_X1_copyOf : Cond.code yX1_copyOf cX1_copyOf 2 none ∈ gl_ := wg_ 1191 (by decide +kernel) rfl
set_option maxRecDepth 100000 in
theorem wc_X1_dayOn : Cond.code yX1_dayOn cX1_dayOn 7 (some .int) ∈ gl_ := wg_ 706 (by decide +kernel) rfl
set_option maxRecDepth 100000 in
theorem wc_X1_hasWeekday : Cond.code yX1_hasWeekday cX1_hasWeekday 2 (some .boolean) ∈ gl_ := wg_ 810 (by decide +kernel) rfl
set_option maxRecDepth 100000 in
theorem wc_X1_init : Cond.code yX1_init cX1_init 1 none ∈ gl_ := wg_ 166 (by decide +kernel) rfl
set_option maxRecDepth 100000 in
theorem wc_X1_isLeapYear : Cond.code yX1_isLeapYear cX1_isLeapYear 2 (some .boolean) ∈ gl_ := wg_ 659 (by decide +kernel) rfl
set_option maxRecDepth 100000 in
theorem wc_X1_leapCycle : Cond.code yX1_leapCycle cX1_leapCycle 1 (some .int) ∈ gl_ := wg_ 818 (by decide +kernel) rfl
set_option maxRecDepth 100000 in
theorem wc_X1_lengthIn : Cond.code yX1_lengthIn cX1_lengthIn 3 (some .int) ∈ gl_ := wg_ 655 (by decide +kernel) rfl
set_option maxRecDepth 100000 in
theorem wc_X2_datedAtRest : Cond.code yX2_datedAtRest cX2_datedAtRest 4 (some .int) ∈ gl_ := wg_ 927 (by decide +kernel) rfl
set_option maxRecDepth 100000 in
theorem wc_X2_daysApart : Cond.code yX2_daysApart cX2_daysApart 4 (some .int) ∈ gl_ := wg_ 915 (by decide +kernel) rfl
set_option maxRecDepth 100000 in
theorem wc_X2_earlierThan : Cond.code yX2_earlierThan cX2_earlierThan 4 (some .int) ∈ gl_ := wg_ 907 (by decide +kernel) rfl
set_option maxRecDepth 100000 in
theorem wc_X2_init : Cond.code yX2_init cX2_init 1 none ∈ gl_ := wg_ 337 (by decide +kernel) rfl
set_option maxRecDepth 100000 in
theorem wc_X2_placeOfOldest : Cond.code yX2_placeOfOldest cX2_placeOfOldest 3 (some .int) ∈ gl_ := wg_ 899 (by decide +kernel) rfl
set_option maxRecDepth 100000 in
theorem wc_X2_read : Cond.code yX2_read cX2_read 5 (some .boolean) ∈ gl_ := wg_ 889 (by decide +kernel) rfl
set_option maxRecDepth 100000 in
theorem wc_X3_init : Cond.code yX3_init cX3_init 1 none ∈ gl_ := wg_ 126 (by decide +kernel) rfl
set_option maxRecDepth 100000 in
theorem wc_X3_isWord : Cond.code yX3_isWord cX3_isWord 3 (some .boolean) ∈ gl_ := wg_ 507 (by decide +kernel) rfl
set_option maxRecDepth 100000 in
theorem wc_X3_needNumber : Cond.code yX3_needNumber cX3_needNumber 4 (some .int) ∈ gl_ := wg_ 572 (by decide +kernel) rfl
set_option maxRecDepth 100000 in
theorem wc_X3_needWord : Cond.code yX3_needWord cX3_needWord 2 none ∈ gl_ := wg_ 564 (by decide +kernel) rfl
set_option maxRecDepth 100000 in
theorem wc_X3_read : Cond.code yX3_read cX3_read 4 none ∈ gl_ := wg_ 489 (by decide +kernel) rfl
set_option maxRecDepth 100000 in
theorem wc_X3_readFeast : Cond.code yX3_readFeast cX3_readFeast 6 none ∈ gl_ := wg_ 605 (by decide +kernel) rfl
set_option maxRecDepth 100000 in
theorem wc_X3_readLand : Cond.code yX3_readLand cX3_readLand 3 none ∈ gl_ := wg_ 581 (by decide +kernel) rfl
set_option maxRecDepth 100000 in
theorem wc_X3_readLine : Cond.code yX3_readLine cX3_readLine 3 none ∈ gl_ := wg_ 502 (by decide +kernel) rfl
set_option maxRecDepth 100000 in
theorem wc_X3_readMonths : Cond.code yX3_readMonths cX3_readMonths 4 none ∈ gl_ := wg_ 593 (by decide +kernel) rfl
set_option maxRecDepth 100000 in
theorem wc_X3_readRain : Cond.code yX3_readRain cX3_readRain 2 none ∈ gl_ := wg_ 559 (by decide +kernel) rfl
set_option maxRecDepth 100000 in
theorem wc_X3_readTruce : Cond.code yX3_readTruce cX3_readTruce 5 none ∈ gl_ := wg_ 618 (by decide +kernel) rfl
set_option maxRecDepth 100000 in
theorem wc_X3_refuse : Cond.code yX3_refuse cX3_refuse 2 none ∈ gl_ := wg_ 568 (by decide +kernel) rfl
set_option maxRecDepth 100000 in
theorem wc_X3_startLine : Cond.code yX3_startLine cX3_startLine 2 none ∈ gl_ := wg_ 577 (by decide +kernel) rfl
set_option maxRecDepth 100000 in
theorem wc_X3_step : Cond.code yX3_step cX3_step 1 none ∈ gl_ := wg_ 497 (by decide +kernel) rfl
set_option maxRecDepth 100000 in
theorem wc_X4_areSmall : Cond.code yX4_areSmall cX4_areSmall 4 (some .boolean) ∈ gl_ := wg_ 893 (by decide +kernel) rfl
set_option maxRecDepth 100000 in
theorem wc_X4_cut : Cond.code yX4_cut cX4_cut 3 (some .long) ∈ gl_ := wg_ 1215 (by decide +kernel) rfl
set_option maxRecDepth 100000 in
theorem wc_X4_hasStretch : Cond.code yX4_hasStretch cX4_hasStretch 3 (some .boolean) ∈ gl_ := wg_ 1223 (by decide +kernel) rfl
set_option maxRecDepth 100000 in
theorem wc_X4_init : Cond.code yX4_init cX4_init 1 none ∈ gl_ := wg_ 403 (by decide +kernel) rfl
set_option maxRecDepth 100000 in
theorem wc_X4_renew : Cond.code yX4_renew cX4_renew 3 none ∈ gl_ := wg_ 1204 (by decide +kernel) rfl
set_option maxRecDepth 100000 in
theorem wc_X5_cover : Cond.code yX5_cover cX5_cover 6 none ∈ gl_ := wg_ 857 (by decide +kernel) rfl
set_option maxRecDepth 100000 in
theorem wc_X5_init : Cond.code yX5_init cX5_init 1 none ∈ gl_ := wg_ 319 (by decide +kernel) rfl
set_option maxRecDepth 100000 in
theorem wc_X5_openDays : Cond.code yX5_openDays cX5_openDays 6 none ∈ gl_ := wg_ 852 (by decide +kernel) rfl
set_option maxRecDepth 100000 in
theorem wc_X5_seek : Cond.code yX5_seek cX5_seek 9 none ∈ gl_ := wg_ 846 (by decide +kernel) rfl
set_option maxRecDepth 100000 in
theorem wc_X6_fightersOnAll : Cond.code yX6_fightersOnAll cX6_fightersOnAll 4 (some .int) ∈ gl_ := wg_ 962 (by decide +kernel) rfl
set_option maxRecDepth 100000 in
theorem wc_X6_fightersOnSome : Cond.code yX6_fightersOnSome cX6_fightersOnSome 4 (some .int) ∈ gl_ := wg_ 966 (by decide +kernel) rfl
set_option maxRecDepth 100000 in
theorem wc_X6_fitsAll : Cond.code yX6_fitsAll cX6_fitsAll 6 (some .boolean) ∈ gl_ := wg_ 949 (by decide +kernel) rfl
set_option maxRecDepth 100000 in
theorem wc_X6_gather : Cond.code yX6_gather cX6_gather 6 none ∈ gl_ := wg_ 945 (by decide +kernel) rfl
set_option maxRecDepth 100000 in
theorem wc_X6_init : Cond.code yX6_init cX6_init 1 none ∈ gl_ := wg_ 354 (by decide +kernel) rfl
set_option maxRecDepth 100000 in
theorem wc_X6_isTold : Cond.code yX6_isTold cX6_isTold 8 (some .boolean) ∈ gl_ := wg_ 940 (by decide +kernel) rfl
set_option maxRecDepth 100000 in
theorem wc_X6_seekQuestion : Cond.code yX6_seekQuestion cX6_seekQuestion 4 none ∈ gl_ := wg_ 974 (by decide +kernel) rfl
set_option maxRecDepth 100000 in
theorem wc_X6_tryQuestion : Cond.code yX6_tryQuestion cX6_tryQuestion 7 none ∈ gl_ := wg_ 978 (by decide +kernel) rfl
set_option maxRecDepth 100000 in
theorem wc_X7_bestTake : Cond.code yX7_bestTake cX7_bestTake 3 (some .int) ∈ gl_ := wg_ 1077 (by decide +kernel) rfl
set_option maxRecDepth 100000 in
theorem wc_X7_init : Cond.code yX7_init cX7_init 1 none ∈ gl_ := wg_ 380 (by decide +kernel) rfl
set_option maxRecDepth 100000 in
theorem wc_X7_listTurns : Cond.code yX7_listTurns cX7_listTurns 7 none ∈ gl_ := wg_ 1072 (by decide +kernel) rfl
set_option maxRecDepth 100000 in
theorem wc_X7_play : Cond.code yX7_play cX7_play 8 none ∈ gl_ := wg_ 1068 (by decide +kernel) rfl
set_option maxRecDepth 100000 in
theorem wc_X7_winnerOf : Cond.code yX7_winnerOf cX7_winnerOf 4 (some .int) ∈ gl_ := wg_ 1085 (by decide +kernel) rfl
set_option maxRecDepth 100000 in
theorem wc_X7_worth : Cond.code yX7_worth cX7_worth 5 (some .int) ∈ gl_ := wg_ 1081 (by decide +kernel) rfl
set_option maxRecDepth 100000 in
theorem wc_X8_append : Cond.code yX8_append cX8_append 3 none ∈ gl_ := wg_ 477 (by decide +kernel) rfl
set_option maxRecDepth 100000 in
theorem wc_X8_init : Cond.code yX8_init cX8_init 1 none ∈ gl_ := wg_ 109 (by decide +kernel) rfl
set_option maxRecDepth 100000 in
theorem wc_X9_appendTruce : Cond.code yX9_appendTruce cX9_appendTruce 5 none ∈ gl_ := wg_ 623 (by decide +kernel) rfl
set_option maxRecDepth 100000 in
theorem wc_X9_clear : Cond.code yX9_clear cX9_clear 1 none ∈ gl_ := wg_ 493 (by decide +kernel) rfl
set_option maxRecDepth 100000 in
theorem wc_X9_copyOf : Cond.code yX9_copyOf cX9_copyOf 3 none ∈ gl_ := wg_ 1187 (by decide +kernel) rfl
set_option maxRecDepth 100000 in
theorem wc_X9_dayOfDate : Cond.code yX9_dayOfDate cX9_dayOfDate 6 (some .int) ∈ gl_ := wg_ 726 (by decide +kernel) rfl
set_option maxRecDepth 100000 in
theorem wc_X9_hasLand : Cond.code yX9_hasLand cX9_hasLand 2 (some .boolean) ∈ gl_ := wg_ 639 (by decide +kernel) rfl
set_option maxRecDepth 100000 in
theorem wc_X9_hasMonth : Cond.code yX9_hasMonth cX9_hasMonth 3 (some .boolean) ∈ gl_ := wg_ 647 (by decide +kernel) rfl
set_option maxRecDepth 100000 in
theorem wc_X9_hasPlainDate : Cond.code yX9_hasPlainDate cX9_hasPlainDate 4 (some .boolean) ∈ gl_ := wg_ 1097 (by decide +kernel) rfl
set_option maxRecDepth 100000 in
theorem wc_X9_init : Cond.code yX9_init cX9_init 2 none ∈ gl_ := wg_ 159 (by decide +kernel) rfl
set_option maxRecDepth 100000 in
theorem wc_X9_insertFeast : Cond.code yX9_insertFeast cX9_insertFeast 7 none ∈ gl_ := wg_ 610 (by decide +kernel) rfl
set_option maxRecDepth 100000 in
theorem wc_X9_latestFeastOf : Cond.code yX9_latestFeastOf cX9_latestFeastOf 3 (some .int) ∈ gl_ := wg_ 1127 (by decide +kernel) rfl
set_option maxRecDepth 100000 in
theorem wc_X9_noteChange : Cond.code yX9_noteChange cX9_noteChange 3 none ∈ gl_ := wg_ 1106 (by decide +kernel) rfl
set_option maxRecDepth 100000 in
theorem wc_X9_noteEnded : Cond.code yX9_noteEnded cX9_noteEnded 2 none ∈ gl_ := wg_ 1131 (by decide +kernel) rfl
set_option maxRecDepth 100000 in
theorem wc_X9_noteFounded : Cond.code yX9_noteFounded cX9_noteFounded 1 none ∈ gl_ := wg_ 1102 (by decide +kernel) rfl
set_option maxRecDepth 100000 in
theorem wc_X9_noteGranted : Cond.code yX9_noteGranted cX9_noteGranted 1 none ∈ gl_ := wg_ 1119 (by decide +kernel) rfl
set_option maxRecDepth 100000 in
theorem wc_X9_removeFeast : Cond.code yX9_removeFeast cX9_removeFeast 3 none ∈ gl_ := wg_ 1135 (by decide +kernel) rfl
set_option maxRecDepth 100000 in
theorem wc_X9_takeBackLatest : Cond.code yX9_takeBackLatest cX9_takeBackLatest 3 (some .int) ∈ gl_ := wg_ 1143 (by decide +kernel) rfl
set_option maxRecDepth 100000 in
theorem wc_X9_trucesOn : Cond.code yX9_trucesOn cX9_trucesOn 5 (some .int) ∈ gl_ := wg_ 994 (by decide +kernel) rfl
set_option maxRecDepth 100000 in
theorem wn_X10 : Cond.initialized RX10 ∈ gl_ := wg_ 78 (by decide +kernel) rfl
set_option maxRecDepth 100000 in
theorem wn_X0 : Cond.initialized RX0 ∈ gl_ := wg_ 83 (by decide +kernel) rfl
set_option maxRecDepth 100000 in
theorem wn_X1 : Cond.initialized RX1 ∈ gl_ := wg_ 82 (by decide +kernel) rfl
set_option maxRecDepth 100000 in
theorem wn_X2 : Cond.initialized RX2 ∈ gl_ := wg_ 85 (by decide +kernel) rfl
set_option maxRecDepth 100000 in
theorem wn_X3 : Cond.initialized RX3 ∈ gl_ := wg_ 80 (by decide +kernel) rfl
set_option maxRecDepth 100000 in
theorem wn_X4 : Cond.initialized RX4 ∈ gl_ := wg_ 88 (by decide +kernel) rfl
set_option maxRecDepth 100000 in
theorem wn_X5 : Cond.initialized RX5 ∈ gl_ := wg_ 84 (by decide +kernel) rfl
set_option maxRecDepth 100000 in
theorem wn_X6 : Cond.initialized RX6 ∈ gl_ := wg_ 86 (by decide +kernel) rfl
set_option maxRecDepth 100000 in
theorem wn_X7 : Cond.initialized RX7 ∈ gl_ := wg_ 87 (by decide +kernel) rfl
set_option maxRecDepth 100000 in
theorem wn_X8 : Cond.initialized RX8 ∈ gl_ := wg_ 79 (by decide +kernel) rfl
set_option maxRecDepth 100000 in
theorem wn_X9 : Cond.initialized RX9 ∈ gl_ := wg_ 81 (by decide +kernel) rfl
set_option maxRecDepth 100000 in
theorem wn_L : Cond.initialized RL ∈ gl_ := wg_ 77 (by decide +kernel) rfl
set_option maxRecDepth 100000 in
theorem wn_X11 : Cond.initialized RX11 ∈ gl_ := wg_ 89 (by decide +kernel) rfl
set_option maxRecDepth 100000 in
theorem wn_J9 : Cond.initialized RJ9 ∈ gl_ := wg_ 95 (by decide +kernel) rfl
set_option maxRecDepth 100000 in
theorem wn_J0 : Cond.initialized RJ0 ∈ gl_ := wg_ 90 (by decide +kernel) rfl
set_option maxRecDepth 100000 in
theorem wn_J1 : Cond.initialized RJ1 ∈ gl_ := wg_ 91 (by decide +kernel) rfl
set_option maxRecDepth 100000 in
theorem wn_J2 : Cond.initialized RJ2 ∈ gl_ := wg_ 93 (by decide +kernel) rfl
set_option maxRecDepth 100000 in
theorem wn_J10 : Cond.initialized RJ10 ∈ gl_ := wg_ 94 (by decide +kernel) rfl
set_option maxRecDepth 100000 in
theorem wn_J7 : Cond.initialized RJ7 ∈ gl_ := wg_ 96 (by decide +kernel) rfl
set_option maxRecDepth 100000 in
theorem wn_J3 : Cond.initialized RJ3 ∈ gl_ := wg_ 92 (by decide +kernel) rfl
set_option maxRecDepth 100000 in
theorem wi_J0_charAt_5068e : Cond.instanceMethod yJ0_charAt_5068e ∈ gl_ := wg_ 519 (by decide +kernel) rfl
set_option maxRecDepth 100000 in
theorem wi_J0_coder_7d493 : Cond.instanceMethod yJ0_coder_7d493 ∈ gl_ := wg_ 513 (by decide +kernel) rfl
set_option maxRecDepth 100000 in
theorem wi_J0_isLatin1_aae02 : Cond.instanceMethod yJ0_isLatin1_aae02 ∈ gl_ := wg_ 523 (by decide +kernel) rfl
set_option maxRecDepth 100000 in
theorem wi_J0_length_8abf5 : Cond.instanceMethod yJ0_length_8abf5 ∈ gl_ := wg_ 509 (by decide +kernel) rfl
set_option maxRecDepth 100000 in
theorem wi_X0_ageBy : Cond.instanceMethod yX0_ageBy ∈ gl_ := wg_ 1009 (by decide +kernel) rfl
set_option maxRecDepth 100000 in
theorem wi_X0_allFight : Cond.instanceMethod yX0_allFight ∈ gl_ := wg_ 764 (by decide +kernel) rfl
set_option maxRecDepth 100000 in
theorem wi_X0_aloneOn : Cond.instanceMethod yX0_aloneOn ∈ gl_ := wg_ 1043 (by decide +kernel) rfl
set_option maxRecDepth 100000 in
theorem wi_X0_bringUpToDate : Cond.instanceMethod yX0_bringUpToDate ∈ gl_ := wg_ 684 (by decide +kernel) rfl
set_option maxRecDepth 100000 in
theorem wi_X0_clashDay : Cond.instanceMethod yX0_clashDay ∈ gl_ := wg_ 1027 (by decide +kernel) rfl
set_option maxRecDepth 100000 in
theorem wi_X0_daysAlone : Cond.instanceMethod yX0_daysAlone ∈ gl_ := wg_ 1039 (by decide +kernel) rfl
set_option maxRecDepth 100000 in
theorem wi_X0_fightingDays : Cond.instanceMethod yX0_fightingDays ∈ gl_ := wg_ 772 (by decide +kernel) rfl
set_option maxRecDepth 100000 in
theorem wi_X0_fillDates : Cond.instanceMethod yX0_fillDates ∈ gl_ := wg_ 691 (by decide +kernel) rfl
set_option maxRecDepth 100000 in
theorem wi_X0_fillFighters : Cond.instanceMethod yX0_fillFighters ∈ gl_ := wg_ 712 (by decide +kernel) rfl
set_option maxRecDepth 100000 in
theorem wi_X0_fillReasons : Cond.instanceMethod yX0_fillReasons ∈ gl_ := wg_ 696 (by decide +kernel) rfl
set_option maxRecDepth 100000 in
theorem wi_X0_forgetAll : Cond.instanceMethod yX0_forgetAll ∈ gl_ := wg_ 625 (by decide +kernel) rfl
set_option maxRecDepth 100000 in
theorem wi_X0_forgetReasons : Cond.instanceMethod yX0_forgetReasons ∈ gl_ := wg_ 1108 (by decide +kernel) rfl
set_option maxRecDepth 100000 in
theorem wi_X0_init : Cond.instanceMethod yX0_init ∈ gl_ := wg_ 277 (by decide +kernel) rfl
set_option maxRecDepth 100000 in
theorem wi_X0_markFeast : Cond.instanceMethod yX0_markFeast ∈ gl_ := wg_ 700 (by decide +kernel) rfl
set_option maxRecDepth 100000 in
theorem wi_X0_markReason : Cond.instanceMethod yX0_markReason ∈ gl_ := wg_ 708 (by decide +kernel) rfl
set_option maxRecDepth 100000 in
theorem wi_X0_monthDay : Cond.instanceMethod yX0_monthDay ∈ gl_ := wg_ 824 (by decide +kernel) rfl
set_option maxRecDepth 100000 in
theorem wi_X0_part : Cond.instanceMethod yX0_part ∈ gl_ := wg_ 716 (by decide +kernel) rfl
set_option maxRecDepth 100000 in
theorem wi_X0_reason : Cond.instanceMethod yX0_reason ∈ gl_ := wg_ 741 (by decide +kernel) rfl
set_option maxRecDepth 100000 in
theorem wi_X0_seekBeginning : Cond.instanceMethod yX0_seekBeginning ∈ gl_ := wg_ 1051 (by decide +kernel) rfl
set_option maxRecDepth 100000 in
theorem wi_X0_seekWait : Cond.instanceMethod yX0_seekWait ∈ gl_ := wg_ 781 (by decide +kernel) rfl
set_option maxRecDepth 100000 in
theorem wi_X10_age : Cond.instanceMethod yX10_age ∈ gl_ := wg_ 1005 (by decide +kernel) rfl
set_option maxRecDepth 100000 in
theorem wi_X10_alike : Cond.instanceMethod yX10_alike ∈ gl_ := wg_ 820 (by decide +kernel) rfl
set_option maxRecDepth 100000 in
theorem wi_X10_alone : Cond.instanceMethod yX10_alone ∈ gl_ := wg_ 1035 (by decide +kernel) rfl
set_option maxRecDepth 100000 in
theorem wi_X10_apart : Cond.instanceMethod yX10_apart ∈ gl_ := wg_ 909 (by decide +kernel) rfl
set_option maxRecDepth 100000 in
theorem wi_X10_ask : Cond.instanceMethod yX10_ask ∈ gl_ := wg_ 968 (by decide +kernel) rfl
set_option maxRecDepth 100000 in
theorem wi_X10_back : Cond.instanceMethod yX10_back ∈ gl_ := wg_ 1194 (by decide +kernel) rfl
set_option maxRecDepth 100000 in
theorem wi_X10_begin : Cond.instanceMethod yX10_begin ∈ gl_ := wg_ 1047 (by decide +kernel) rfl
set_option maxRecDepth 100000 in
theorem wi_X10_begins : Cond.instanceMethod yX10_begins ∈ gl_ := wg_ 1057 (by decide +kernel) rfl
set_option maxRecDepth 100000 in
theorem wi_X10_bridge : Cond.instanceMethod yX10_bridge ∈ gl_ := wg_ 868 (by decide +kernel) rfl
set_option maxRecDepth 100000 in
theorem wi_X10_bridged : Cond.instanceMethod yX10_bridged ∈ gl_ := wg_ 872 (by decide +kernel) rfl
set_option maxRecDepth 100000 in
theorem wi_X10_clash : Cond.instanceMethod yX10_clash ∈ gl_ := wg_ 1023 (by decide +kernel) rfl
set_option maxRecDepth 100000 in
theorem wi_X10_comes : Cond.instanceMethod yX10_comes ∈ gl_ := wg_ 832 (by decide +kernel) rfl
set_option maxRecDepth 100000 in
theorem wi_X10_count : Cond.instanceMethod yX10_count ∈ gl_ := wg_ 1173 (by decide +kernel) rfl
set_option maxRecDepth 100000 in
theorem wi_X10_date : Cond.instanceMethod yX10_date ∈ gl_ := wg_ 669 (by decide +kernel) rfl
set_option maxRecDepth 100000 in
theorem wi_X10_day : Cond.instanceMethod yX10_day ∈ gl_ := wg_ 720 (by decide +kernel) rfl
set_option maxRecDepth 100000 in
theorem wi_X10_drawn : Cond.instanceMethod yX10_drawn ∈ gl_ := wg_ 1146 (by decide +kernel) rfl
set_option maxRecDepth 100000 in
theorem wi_X10_end : Cond.instanceMethod yX10_end ∈ gl_ := wg_ 479 (by decide +kernel) rfl
set_option maxRecDepth 100000 in
theorem wi_X10_ends : Cond.instanceMethod yX10_ends ∈ gl_ := wg_ 1121 (by decide +kernel) rfl
set_option maxRecDepth 100000 in
theorem wi_X10_fault : Cond.instanceMethod yX10_fault ∈ gl_ := wg_ 629 (by decide +kernel) rfl
set_option maxRecDepth 100000 in
theorem wi_X10_feast : Cond.instanceMethod yX10_feast ∈ gl_ := wg_ 661 (by decide +kernel) rfl
set_option maxRecDepth 100000 in
theorem wi_X10_feed : Cond.instanceMethod yX10_feed ∈ gl_ := wg_ 471 (by decide +kernel) rfl
set_option maxRecDepth 100000 in
theorem wi_X10_fightsInRain : Cond.instanceMethod yX10_fightsInRain ∈ gl_ := wg_ 1170 (by decide +kernel) rfl
set_option maxRecDepth 100000 in
theorem wi_X10_fit : Cond.instanceMethod yX10_fit ∈ gl_ := wg_ 952 (by decide +kernel) rfl
set_option maxRecDepth 100000 in
theorem wi_X10_fits : Cond.instanceMethod yX10_fits ∈ gl_ := wg_ 930 (by decide +kernel) rfl
set_option maxRecDepth 100000 in
theorem wi_X10_found : Cond.instanceMethod yX10_found ∈ gl_ := wg_ 1091 (by decide +kernel) rfl
set_option maxRecDepth 100000 in
theorem wi_X10_founded : Cond.instanceMethod yX10_founded ∈ gl_ := wg_ 863 (by decide +kernel) rfl
set_option maxRecDepth 100000 in
theorem wi_X10_gains : Cond.instanceMethod yX10_gains ∈ gl_ := wg_ 1015 (by decide +kernel) rfl
set_option maxRecDepth 100000 in
theorem wi_X10_game : Cond.instanceMethod yX10_game ∈ gl_ := wg_ 1061 (by decide +kernel) rfl
set_option maxRecDepth 100000 in
theorem wi_X10_grant : Cond.instanceMethod yX10_grant ∈ gl_ := wg_ 1112 (by decide +kernel) rfl
set_option maxRecDepth 100000 in
theorem wi_X10_holds : Cond.instanceMethod yX10_holds ∈ gl_ := wg_ 988 (by decide +kernel) rfl
set_option maxRecDepth 100000 in
theorem wi_X10_idle : Cond.instanceMethod yX10_idle ∈ gl_ := wg_ 921 (by decide +kernel) rfl
set_option maxRecDepth 100000 in
theorem wi_X10_image : Cond.instanceMethod yX10_image ∈ gl_ := wg_ 1181 (by decide +kernel) rfl
set_option maxRecDepth 100000 in
theorem wi_X10_init : Cond.instanceMethod yX10_init ∈ gl_ := wg_ 100 (by decide +kernel) rfl
set_option maxRecDepth 100000 in
theorem wi_X10_isDayOfWar : Cond.instanceMethod yX10_isDayOfWar ∈ gl_ := wg_ 750 (by decide +kernel) rfl
set_option maxRecDepth 100000 in
theorem wi_X10_isLandAndDay : Cond.instanceMethod yX10_isLandAndDay ∈ gl_ := wg_ 674 (by decide +kernel) rfl
set_option maxRecDepth 100000 in
theorem wi_X10_isPair : Cond.instanceMethod yX10_isPair ∈ gl_ := wg_ 805 (by decide +kernel) rfl
set_option maxRecDepth 100000 in
theorem wi_X10_isPairAndDay : Cond.instanceMethod yX10_isPairAndDay ∈ gl_ := wg_ 801 (by decide +kernel) rfl
set_option maxRecDepth 100000 in
theorem wi_X10_isSaintly : Cond.instanceMethod yX10_isSaintly ∈ gl_ := wg_ 841 (by decide +kernel) rfl
set_option maxRecDepth 100000 in
theorem wi_X10_isSetInSpan : Cond.instanceMethod yX10_isSetInSpan ∈ gl_ := wg_ 758 (by decide +kernel) rfl
set_option maxRecDepth 100000 in
theorem wi_X10_land : Cond.instanceMethod yX10_land ∈ gl_ := wg_ 633 (by decide +kernel) rfl
set_option maxRecDepth 100000 in
theorem wi_X10_leaves : Cond.instanceMethod yX10_leaves ∈ gl_ := wg_ 984 (by decide +kernel) rfl
set_option maxRecDepth 100000 in
theorem wi_X10_luck : Cond.instanceMethod yX10_luck ∈ gl_ := wg_ 1165 (by decide +kernel) rfl
set_option maxRecDepth 100000 in
theorem wi_X10_many : Cond.instanceMethod yX10_many ∈ gl_ := wg_ 768 (by decide +kernel) rfl
set_option maxRecDepth 100000 in
theorem wi_X10_march : Cond.instanceMethod yX10_march ∈ gl_ := wg_ 1019 (by decide +kernel) rfl
set_option maxRecDepth 100000 in
theorem wi_X10_may : Cond.instanceMethod yX10_may ∈ gl_ := wg_ 733 (by decide +kernel) rfl
set_option maxRecDepth 100000 in
theorem wi_X10_meets : Cond.instanceMethod yX10_meets ∈ gl_ := wg_ 796 (by decide +kernel) rfl
set_option maxRecDepth 100000 in
theorem wi_X10_month : Cond.instanceMethod yX10_month ∈ gl_ := wg_ 641 (by decide +kernel) rfl
set_option maxRecDepth 100000 in
theorem wi_X10_most : Cond.instanceMethod yX10_most ∈ gl_ := wg_ 1000 (by decide +kernel) rfl
set_option maxRecDepth 100000 in
theorem wi_X10_next : Cond.instanceMethod yX10_next ∈ gl_ := wg_ 753 (by decide +kernel) rfl
set_option maxRecDepth 100000 in
theorem wi_X10_older : Cond.instanceMethod yX10_older ∈ gl_ := wg_ 901 (by decide +kernel) rfl
set_option maxRecDepth 100000 in
theorem wi_X10_oldest : Cond.instanceMethod yX10_oldest ∈ gl_ := wg_ 876 (by decide +kernel) rfl
set_option maxRecDepth 100000 in
theorem wi_X10_overlap : Cond.instanceMethod yX10_overlap ∈ gl_ := wg_ 996 (by decide +kernel) rfl
set_option maxRecDepth 100000 in
theorem wi_X10_paste : Cond.instanceMethod yX10_paste ∈ gl_ := wg_ 1217 (by decide +kernel) rfl
set_option maxRecDepth 100000 in
theorem wi_X10_period : Cond.instanceMethod yX10_period ∈ gl_ := wg_ 812 (by decide +kernel) rfl
set_option maxRecDepth 100000 in
theorem wi_X10_place : Cond.instanceMethod yX10_place ∈ gl_ := wg_ 1031 (by decide +kernel) rfl
set_option maxRecDepth 100000 in
theorem wi_X10_readOrders : Cond.instanceMethod yX10_readOrders ∈ gl_ := wg_ 881 (by decide +kernel) rfl
set_option maxRecDepth 100000 in
theorem wi_X10_readSights : Cond.instanceMethod yX10_readSights ∈ gl_ := wg_ 935 (by decide +kernel) rfl
set_option maxRecDepth 100000 in
theorem wi_X10_row : Cond.instanceMethod yX10_row ∈ gl_ := wg_ 1198 (by decide +kernel) rfl
set_option maxRecDepth 100000 in
theorem wi_X10_saints : Cond.instanceMethod yX10_saints ∈ gl_ := wg_ 836 (by decide +kernel) rfl
set_option maxRecDepth 100000 in
theorem wi_X10_share : Cond.instanceMethod yX10_share ∈ gl_ := wg_ 789 (by decide +kernel) rfl
set_option maxRecDepth 100000 in
theorem wi_X10_slotsWithRow : Cond.instanceMethod yX10_slotsWithRow ∈ gl_ := wg_ 1178 (by decide +kernel) rfl
set_option maxRecDepth 100000 in
theorem wi_X10_sure : Cond.instanceMethod yX10_sure ∈ gl_ := wg_ 956 (by decide +kernel) rfl
set_option maxRecDepth 100000 in
theorem wi_X10_takes : Cond.instanceMethod yX10_takes ∈ gl_ := wg_ 1087 (by decide +kernel) rfl
set_option maxRecDepth 100000 in
theorem wi_X10_told : Cond.instanceMethod yX10_told ∈ gl_ := wg_ 681 (by decide +kernel) rfl
set_option maxRecDepth 100000 in
theorem wi_X10_truce : Cond.instanceMethod yX10_truce ∈ gl_ := wg_ 665 (by decide +kernel) rfl
set_option maxRecDepth 100000 in
theorem wi_X10_undo : Cond.instanceMethod yX10_undo ∈ gl_ := wg_ 1137 (by decide +kernel) rfl
set_option maxRecDepth 100000 in
theorem wi_X10_waiting : Cond.instanceMethod yX10_waiting ∈ gl_ := wg_ 785 (by decide +kernel) rfl
set_option maxRecDepth 100000 in
theorem wi_X10_waits : Cond.instanceMethod yX10_waits ∈ gl_ := wg_ 777 (by decide +kernel) rfl
set_option maxRecDepth 100000 in
theorem wi_X10_war : Cond.instanceMethod yX10_war ∈ gl_ := wg_ 483 (by decide +kernel) rfl
set_option maxRecDepth 100000 in
theorem wi_X10_who : Cond.instanceMethod yX10_who ∈ gl_ := wg_ 745 (by decide +kernel) rfl
set_option maxRecDepth 100000 in
theorem wi_X10_why : Cond.instanceMethod yX10_why ∈ gl_ := wg_ 737 (by decide +kernel) rfl
set_option maxRecDepth 100000 in
theorem wi_X10_write : Cond.instanceMethod yX10_write ∈ gl_ := wg_ 1209 (by decide +kernel) rfl
set_option maxRecDepth 100000 in
theorem wi_X10_years : Cond.instanceMethod yX10_years ∈ gl_ := wg_ 828 (by decide +kernel) rfl
set_option maxRecDepth 100000 in
theorem wi_X11_advance : Cond.instanceMethod yX11_advance ∈ gl_ := wg_ 1378 (by decide +kernel) rfl
set_option maxRecDepth 100000 in
theorem wi_X11_age : Cond.instanceMethod yX11_age ∈ gl_ := wg_ 1791 (by decide +kernel) rfl
set_option maxRecDepth 100000 in
theorem wi_X11_ageOf : Cond.instanceMethod yX11_ageOf ∈ gl_ := wg_ 1796 (by decide +kernel) rfl
set_option maxRecDepth 100000 in
theorem wi_X11_alike : Cond.instanceMethod yX11_alike ∈ gl_ := wg_ 1646 (by decide +kernel) rfl
set_option maxRecDepth 100000 in
theorem wi_X11_allLands : Cond.instanceMethod yX11_allLands ∈ gl_ := wg_ 1592 (by decide +kernel) rfl
set_option maxRecDepth 100000 in
theorem wi_X11_alone : Cond.instanceMethod yX11_alone ∈ gl_ := wg_ 1823 (by decide +kernel) rfl
set_option maxRecDepth 100000 in
theorem wi_X11_aloneOf : Cond.instanceMethod yX11_aloneOf ∈ gl_ := wg_ 1828 (by decide +kernel) rfl
set_option maxRecDepth 100000 in
theorem wi_X11_apart : Cond.instanceMethod yX11_apart ∈ gl_ := wg_ 1721 (by decide +kernel) rfl
set_option maxRecDepth 100000 in
theorem wi_X11_areSaints : Cond.instanceMethod yX11_areSaints ∈ gl_ := wg_ 1667 (by decide +kernel) rfl
set_option maxRecDepth 100000 in
theorem wi_X11_areTwo : Cond.instanceMethod yX11_areTwo ∈ gl_ := wg_ 1634 (by decide +kernel) rfl
set_option maxRecDepth 100000 in
theorem wi_X11_ask : Cond.instanceMethod yX11_ask ∈ gl_ := wg_ 1759 (by decide +kernel) rfl
set_option maxRecDepth 100000 in
theorem wi_X11_askOf : Cond.instanceMethod yX11_askOf ∈ gl_ := wg_ 1764 (by decide +kernel) rfl
set_option maxRecDepth 100000 in
theorem wi_X11_asksOrders : Cond.instanceMethod yX11_asksOrders ∈ gl_ := wg_ 1699 (by decide +kernel) rfl
set_option maxRecDepth 100000 in
theorem wi_X11_asksSeen : Cond.instanceMethod yX11_asksSeen ∈ gl_ := wg_ 1735 (by decide +kernel) rfl
set_option maxRecDepth 100000 in
theorem wi_X11_back : Cond.instanceMethod yX11_back ∈ gl_ := wg_ 1357 (by decide +kernel) rfl
set_option maxRecDepth 100000 in
theorem wi_X11_begin : Cond.instanceMethod yX11_begin ∈ gl_ := wg_ 1831 (by decide +kernel) rfl
set_option maxRecDepth 100000 in
theorem wi_X11_beginOf : Cond.instanceMethod yX11_beginOf ∈ gl_ := wg_ 1841 (by decide +kernel) rfl
set_option maxRecDepth 100000 in
theorem wi_X11_begins : Cond.instanceMethod yX11_begins ∈ gl_ := wg_ 1844 (by decide +kernel) rfl
set_option maxRecDepth 100000 in
theorem wi_X11_bridge : Cond.instanceMethod yX11_bridge ∈ gl_ := wg_ 1682 (by decide +kernel) rfl
set_option maxRecDepth 100000 in
theorem wi_X11_bridged : Cond.instanceMethod yX11_bridged ∈ gl_ := wg_ 1690 (by decide +kernel) rfl
set_option maxRecDepth 100000 in
theorem wi_X11_clash : Cond.instanceMethod yX11_clash ∈ gl_ := wg_ 1807 (by decide +kernel) rfl
set_option maxRecDepth 100000 in
theorem wi_X11_comes : Cond.instanceMethod yX11_comes ∈ gl_ := wg_ 1658 (by decide +kernel) rfl
set_option maxRecDepth 100000 in
theorem wi_X11_copy : Cond.instanceMethod yX11_copy ∈ gl_ := wg_ 1862 (by decide +kernel) rfl
set_option maxRecDepth 100000 in
theorem wi_X11_count : Cond.instanceMethod yX11_count ∈ gl_ := wg_ 1922 (by decide +kernel) rfl
set_option maxRecDepth 100000 in
theorem wi_X11_date : Cond.instanceMethod yX11_date ∈ gl_ := wg_ 1510 (by decide +kernel) rfl
set_option maxRecDepth 100000 in
theorem wi_X11_dateOf : Cond.instanceMethod yX11_dateOf ∈ gl_ := wg_ 1540 (by decide +kernel) rfl
set_option maxRecDepth 100000 in
theorem wi_X11_day : Cond.instanceMethod yX11_day ∈ gl_ := wg_ 1543 (by decide +kernel) rfl
set_option maxRecDepth 100000 in
theorem wi_X11_dayAt : Cond.instanceMethod yX11_dayAt ∈ gl_ := wg_ 1714 (by decide +kernel) rfl
set_option maxRecDepth 100000 in
theorem wi_X11_dayBy : Cond.instanceMethod yX11_dayBy ∈ gl_ := wg_ 1552 (by decide +kernel) rfl
set_option maxRecDepth 100000 in
theorem wi_X11_drawn : Cond.instanceMethod yX11_drawn ∈ gl_ := wg_ 1901 (by decide +kernel) rfl
set_option maxRecDepth 100000 in
theorem wi_X11_end : Cond.instanceMethod yX11_end ∈ gl_ := wg_ 1365 (by decide +kernel) rfl
set_option maxRecDepth 100000 in
theorem wi_X11_ends : Cond.instanceMethod yX11_ends ∈ gl_ := wg_ 1893 (by decide +kernel) rfl
set_option maxRecDepth 100000 in
theorem wi_X11_errs : Cond.instanceMethod yX11_errs ∈ gl_ := wg_ 1415 (by decide +kernel) rfl
set_option maxRecDepth 100000 in
theorem wi_X11_fault : Cond.instanceMethod yX11_fault ∈ gl_ := wg_ 1369 (by decide +kernel) rfl
set_option maxRecDepth 100000 in
theorem wi_X11_feast : Cond.instanceMethod yX11_feast ∈ gl_ := wg_ 1493 (by decide +kernel) rfl
set_option maxRecDepth 100000 in
theorem wi_X11_feed : Cond.instanceMethod yX11_feed ∈ gl_ := wg_ 1361 (by decide +kernel) rfl
set_option maxRecDepth 100000 in
theorem wi_X11_findBridge : Cond.instanceMethod yX11_findBridge ∈ gl_ := wg_ 1687 (by decide +kernel) rfl
set_option maxRecDepth 100000 in
theorem wi_X11_findClash : Cond.instanceMethod yX11_findClash ∈ gl_ := wg_ 1816 (by decide +kernel) rfl
set_option maxRecDepth 100000 in
theorem wi_X11_findSaints : Cond.instanceMethod yX11_findSaints ∈ gl_ := wg_ 1673 (by decide +kernel) rfl
set_option maxRecDepth 100000 in
theorem wi_X11_findWait : Cond.instanceMethod yX11_findWait ∈ gl_ := wg_ 1615 (by decide +kernel) rfl
set_option maxRecDepth 100000 in
theorem wi_X11_fit : Cond.instanceMethod yX11_fit ∈ gl_ := wg_ 1751 (by decide +kernel) rfl
set_option maxRecDepth 100000 in
theorem wi_X11_fits : Cond.instanceMethod yX11_fits ∈ gl_ := wg_ 1730 (by decide +kernel) rfl
set_option maxRecDepth 100000 in
theorem wi_X11_fitsOf : Cond.instanceMethod yX11_fitsOf ∈ gl_ := wg_ 1740 (by decide +kernel) rfl
set_option maxRecDepth 100000 in
theorem wi_X11_found : Cond.instanceMethod yX11_found ∈ gl_ := wg_ 1881 (by decide +kernel) rfl
set_option maxRecDepth 100000 in
theorem wi_X11_founded : Cond.instanceMethod yX11_founded ∈ gl_ := wg_ 1677 (by decide +kernel) rfl
set_option maxRecDepth 100000 in
theorem wi_X11_freshLand : Cond.instanceMethod yX11_freshLand ∈ gl_ := wg_ 1455 (by decide +kernel) rfl
set_option maxRecDepth 100000 in
theorem wi_X11_gains : Cond.instanceMethod yX11_gains ∈ gl_ := wg_ 1799 (by decide +kernel) rfl
set_option maxRecDepth 100000 in
theorem wi_X11_game : Cond.instanceMethod yX11_game ∈ gl_ := wg_ 1848 (by decide +kernel) rfl
set_option maxRecDepth 100000 in
theorem wi_X11_goRain : Cond.instanceMethod yX11_goRain ∈ gl_ := wg_ 1911 (by decide +kernel) rfl
set_option maxRecDepth 100000 in
theorem wi_X11_good : Cond.instanceMethod yX11_good ∈ gl_ := wg_ 1392 (by decide +kernel) rfl
set_option maxRecDepth 100000 in
theorem wi_X11_grant : Cond.instanceMethod yX11_grant ∈ gl_ := wg_ 1889 (by decide +kernel) rfl
set_option maxRecDepth 100000 in
theorem wi_X11_holdOn : Cond.instanceMethod yX11_holdOn ∈ gl_ := wg_ 1780 (by decide +kernel) rfl
set_option maxRecDepth 100000 in
theorem wi_X11_holds : Cond.instanceMethod yX11_holds ∈ gl_ := wg_ 1775 (by decide +kernel) rfl
set_option maxRecDepth 100000 in
theorem wi_X11_idle : Cond.instanceMethod yX11_idle ∈ gl_ := wg_ 1726 (by decide +kernel) rfl
set_option maxRecDepth 100000 in
theorem wi_X11_image : Cond.instanceMethod yX11_image ∈ gl_ := wg_ 1349 (by decide +kernel) rfl
set_option maxRecDepth 100000 in
theorem wi_X11_init : Cond.instanceMethod yX11_init ∈ gl_ := wg_ 1228 (by decide +kernel) rfl
set_option maxRecDepth 100000 in
theorem wi_X11_intAt : Cond.instanceMethod yX11_intAt ∈ gl_ := wg_ 1710 (by decide +kernel) rfl
set_option maxRecDepth 100000 in
theorem wi_X11_is : Cond.instanceMethod yX11_is ∈ gl_ := wg_ 1409 (by decide +kernel) rfl
set_option maxRecDepth 100000 in
theorem wi_X11_isBegin : Cond.instanceMethod yX11_isBegin ∈ gl_ := wg_ 1836 (by decide +kernel) rfl
set_option maxRecDepth 100000 in
theorem wi_X11_isClash : Cond.instanceMethod yX11_isClash ∈ gl_ := wg_ 1812 (by decide +kernel) rfl
set_option maxRecDepth 100000 in
theorem wi_X11_isCounted : Cond.instanceMethod yX11_isCounted ∈ gl_ := wg_ 1651 (by decide +kernel) rfl
set_option maxRecDepth 100000 in
theorem wi_X11_isDate : Cond.instanceMethod yX11_isDate ∈ gl_ := wg_ 1548 (by decide +kernel) rfl
set_option maxRecDepth 100000 in
theorem wi_X11_isGame : Cond.instanceMethod yX11_isGame ∈ gl_ := wg_ 1853 (by decide +kernel) rfl
set_option maxRecDepth 100000 in
theorem wi_X11_isLand : Cond.instanceMethod yX11_isLand ∈ gl_ := wg_ 1469 (by decide +kernel) rfl
set_option maxRecDepth 100000 in
theorem wi_X11_isMonth : Cond.instanceMethod yX11_isMonth ∈ gl_ := wg_ 1482 (by decide +kernel) rfl
set_option maxRecDepth 100000 in
theorem wi_X11_isSeen : Cond.instanceMethod yX11_isSeen ∈ gl_ := wg_ 1744 (by decide +kernel) rfl
set_option maxRecDepth 100000 in
theorem wi_X11_isSet : Cond.instanceMethod yX11_isSet ∈ gl_ := wg_ 1588 (by decide +kernel) rfl
set_option maxRecDepth 100000 in
theorem wi_X11_isWar : Cond.instanceMethod yX11_isWar ∈ gl_ := wg_ 1576 (by decide +kernel) rfl
set_option maxRecDepth 100000 in
theorem wi_X11_isWeekday : Cond.instanceMethod yX11_isWeekday ∈ gl_ := wg_ 1638 (by decide +kernel) rfl
set_option maxRecDepth 100000 in
theorem wi_X11_keepChange : Cond.instanceMethod yX11_keepChange ∈ gl_ := wg_ 1886 (by decide +kernel) rfl
set_option maxRecDepth 100000 in
theorem wi_X11_land : Cond.instanceMethod yX11_land ∈ gl_ := wg_ 1464 (by decide +kernel) rfl
set_option maxRecDepth 100000 in
theorem wi_X11_lay : Cond.instanceMethod yX11_lay ∈ gl_ := wg_ 1518 (by decide +kernel) rfl
set_option maxRecDepth 100000 in
theorem wi_X11_layDates : Cond.instanceMethod yX11_layDates ∈ gl_ := wg_ 1522 (by decide +kernel) rfl
set_option maxRecDepth 100000 in
theorem wi_X11_layWhy : Cond.instanceMethod yX11_layWhy ∈ gl_ := wg_ 1529 (by decide +kernel) rfl
set_option maxRecDepth 100000 in
theorem wi_X11_leaves : Cond.instanceMethod yX11_leaves ∈ gl_ := wg_ 1771 (by decide +kernel) rfl
set_option maxRecDepth 100000 in
theorem wi_X11_lengthOf : Cond.instanceMethod yX11_lengthOf ∈ gl_ := wg_ 1490 (by decide +kernel) rfl
set_option maxRecDepth 100000 in
theorem wi_X11_luck : Cond.instanceMethod yX11_luck ∈ gl_ := wg_ 1918 (by decide +kernel) rfl
set_option maxRecDepth 100000 in
theorem wi_X11_many : Cond.instanceMethod yX11_many ∈ gl_ := wg_ 1599 (by decide +kernel) rfl
set_option maxRecDepth 100000 in
theorem wi_X11_manyOf : Cond.instanceMethod yX11_manyOf ∈ gl_ := wg_ 1607 (by decide +kernel) rfl
set_option maxRecDepth 100000 in
theorem wi_X11_march : Cond.instanceMethod yX11_march ∈ gl_ := wg_ 1803 (by decide +kernel) rfl
set_option maxRecDepth 100000 in
theorem wi_X11_may : Cond.instanceMethod yX11_may ∈ gl_ := wg_ 1559 (by decide +kernel) rfl
set_option maxRecDepth 100000 in
theorem wi_X11_mayAll : Cond.instanceMethod yX11_mayAll ∈ gl_ := wg_ 1596 (by decide +kernel) rfl
set_option maxRecDepth 100000 in
theorem wi_X11_mayOn : Cond.instanceMethod yX11_mayOn ∈ gl_ := wg_ 1564 (by decide +kernel) rfl
set_option maxRecDepth 100000 in
theorem wi_X11_meets : Cond.instanceMethod yX11_meets ∈ gl_ := wg_ 1629 (by decide +kernel) rfl
set_option maxRecDepth 100000 in
theorem wi_X11_month : Cond.instanceMethod yX11_month ∈ gl_ := wg_ 1477 (by decide +kernel) rfl
set_option maxRecDepth 100000 in
theorem wi_X11_most : Cond.instanceMethod yX11_most ∈ gl_ := wg_ 1787 (by decide +kernel) rfl
set_option maxRecDepth 100000 in
theorem wi_X11_needs : Cond.instanceMethod yX11_needs ∈ gl_ := wg_ 1401 (by decide +kernel) rfl
set_option maxRecDepth 100000 in
theorem wi_X11_next : Cond.instanceMethod yX11_next ∈ gl_ := wg_ 1583 (by decide +kernel) rfl
set_option maxRecDepth 100000 in
theorem wi_X11_number : Cond.instanceMethod yX11_number ∈ gl_ := wg_ 1424 (by decide +kernel) rfl
set_option maxRecDepth 100000 in
theorem wi_X11_numberAt : Cond.instanceMethod yX11_numberAt ∈ gl_ := wg_ 1706 (by decide +kernel) rfl
set_option maxRecDepth 100000 in
theorem wi_X11_of : Cond.instanceMethod yX11_of ∈ gl_ := wg_ 1474 (by decide +kernel) rfl
set_option maxRecDepth 100000 in
theorem wi_X11_ofFeast : Cond.instanceMethod yX11_ofFeast ∈ gl_ := wg_ 1499 (by decide +kernel) rfl
set_option maxRecDepth 100000 in
theorem wi_X11_ofTruce : Cond.instanceMethod yX11_ofTruce ∈ gl_ := wg_ 1507 (by decide +kernel) rfl
set_option maxRecDepth 100000 in
theorem wi_X11_older : Cond.instanceMethod yX11_older ∈ gl_ := wg_ 1717 (by decide +kernel) rfl
set_option maxRecDepth 100000 in
theorem wi_X11_oldest : Cond.instanceMethod yX11_oldest ∈ gl_ := wg_ 1694 (by decide +kernel) rfl
set_option maxRecDepth 100000 in
theorem wi_X11_overlap : Cond.instanceMethod yX11_overlap ∈ gl_ := wg_ 1783 (by decide +kernel) rfl
set_option maxRecDepth 100000 in
theorem wi_X11_paste : Cond.instanceMethod yX11_paste ∈ gl_ := wg_ 1937 (by decide +kernel) rfl
set_option maxRecDepth 100000 in
theorem wi_X11_period : Cond.instanceMethod yX11_period ∈ gl_ := wg_ 1642 (by decide +kernel) rfl
set_option maxRecDepth 100000 in
theorem wi_X11_place : Cond.instanceMethod yX11_place ∈ gl_ := wg_ 1819 (by decide +kernel) rfl
set_option maxRecDepth 100000 in
theorem wi_X11_play : Cond.instanceMethod yX11_play ∈ gl_ := wg_ 1858 (by decide +kernel) rfl
set_option maxRecDepth 100000 in
theorem wi_X11_readFeast : Cond.instanceMethod yX11_readFeast ∈ gl_ := wg_ 1451 (by decide +kernel) rfl
set_option maxRecDepth 100000 in
theorem wi_X11_readLand : Cond.instanceMethod yX11_readLand ∈ gl_ := wg_ 1435 (by decide +kernel) rfl
set_option maxRecDepth 100000 in
theorem wi_X11_readLine : Cond.instanceMethod yX11_readLine ∈ gl_ := wg_ 1396 (by decide +kernel) rfl
set_option maxRecDepth 100000 in
theorem wi_X11_readMonths : Cond.instanceMethod yX11_readMonths ∈ gl_ := wg_ 1443 (by decide +kernel) rfl
set_option maxRecDepth 100000 in
theorem wi_X11_readNext : Cond.instanceMethod yX11_readNext ∈ gl_ := wg_ 1428 (by decide +kernel) rfl
set_option maxRecDepth 100000 in
theorem wi_X11_readTruce : Cond.instanceMethod yX11_readTruce ∈ gl_ := wg_ 1460 (by decide +kernel) rfl
set_option maxRecDepth 100000 in
theorem wi_X11_row : Cond.instanceMethod yX11_row ∈ gl_ := wg_ 1926 (by decide +kernel) rfl
set_option maxRecDepth 100000 in
theorem wi_X11_saints : Cond.instanceMethod yX11_saints ∈ gl_ := wg_ 1662 (by decide +kernel) rfl
set_option maxRecDepth 100000 in
theorem wi_X11_see : Cond.instanceMethod yX11_see ∈ gl_ := wg_ 1382 (by decide +kernel) rfl
set_option maxRecDepth 100000 in
theorem wi_X11_seen : Cond.instanceMethod yX11_seen ∈ gl_ := wg_ 1748 (by decide +kernel) rfl
set_option maxRecDepth 100000 in
theorem wi_X11_share : Cond.instanceMethod yX11_share ∈ gl_ := wg_ 1622 (by decide +kernel) rfl
set_option maxRecDepth 100000 in
theorem wi_X11_sure : Cond.instanceMethod yX11_sure ∈ gl_ := wg_ 1755 (by decide +kernel) rfl
set_option maxRecDepth 100000 in
theorem wi_X11_takes : Cond.instanceMethod yX11_takes ∈ gl_ := wg_ 1405 (by decide +kernel) rfl
set_option maxRecDepth 100000 in
theorem wi_X11_takes_ : Cond.instanceMethod yX11_takes_ ∈ gl_ := wg_ 1877 (by decide +kernel) rfl
set_option maxRecDepth 100000 in
theorem wi_X11_told : Cond.instanceMethod yX11_told ∈ gl_ := wg_ 1420 (by decide +kernel) rfl
set_option maxRecDepth 100000 in
theorem wi_X11_truce : Cond.instanceMethod yX11_truce ∈ gl_ := wg_ 1502 (by decide +kernel) rfl
set_option maxRecDepth 100000 in
theorem wi_X11_undo : Cond.instanceMethod yX11_undo ∈ gl_ := wg_ 1897 (by decide +kernel) rfl
set_option maxRecDepth 100000 in
theorem wi_X11_waiting : Cond.instanceMethod yX11_waiting ∈ gl_ := wg_ 1618 (by decide +kernel) rfl
set_option maxRecDepth 100000 in
theorem wi_X11_waits : Cond.instanceMethod yX11_waits ∈ gl_ := wg_ 1610 (by decide +kernel) rfl
set_option maxRecDepth 100000 in
theorem wi_X11_war : Cond.instanceMethod yX11_war ∈ gl_ := wg_ 1373 (by decide +kernel) rfl
set_option maxRecDepth 100000 in
theorem wi_X11_weekday : Cond.instanceMethod yX11_weekday ∈ gl_ := wg_ 1533 (by decide +kernel) rfl
set_option maxRecDepth 100000 in
theorem wi_X11_who : Cond.instanceMethod yX11_who ∈ gl_ := wg_ 1571 (by decide +kernel) rfl
set_option maxRecDepth 100000 in
theorem wi_X11_whoOn : Cond.instanceMethod yX11_whoOn ∈ gl_ := wg_ 1580 (by decide +kernel) rfl
set_option maxRecDepth 100000 in
theorem wi_X11_why : Cond.instanceMethod yX11_why ∈ gl_ := wg_ 1567 (by decide +kernel) rfl
set_option maxRecDepth 100000 in
theorem wi_X11_worstOf : Cond.instanceMethod yX11_worstOf ∈ gl_ := wg_ 1768 (by decide +kernel) rfl
set_option maxRecDepth 100000 in
theorem wi_X11_write : Cond.instanceMethod yX11_write ∈ gl_ := wg_ 1930 (by decide +kernel) rfl
set_option maxRecDepth 100000 in
theorem wi_X11_yearLength : Cond.instanceMethod yX11_yearLength ∈ gl_ := wg_ 1556 (by decide +kernel) rfl
set_option maxRecDepth 100000 in
theorem wi_X11_years : Cond.instanceMethod yX11_years ∈ gl_ := wg_ 1654 (by decide +kernel) rfl
set_option maxRecDepth 100000 in
theorem wi_X1_appendMonth : Cond.instanceMethod yX1_appendMonth ∈ gl_ := wg_ 595 (by decide +kernel) rfl
set_option maxRecDepth 100000 in
theorem wi_X1_clear : Cond.instanceMethod yX1_clear ∈ gl_ := wg_ 583 (by decide +kernel) rfl
set_option maxRecDepth 100000 in
theorem wi_X1_copyOf : Cond.instanceMethod yX1_copyOf ∈ gl_ := wg_ 1189 (by decide +kernel) rfl
set_option maxRecDepth 100000 in
theorem wi_X1_dayOn : Cond.instanceMethod yX1_dayOn ∈ gl_ := wg_ 704 (by decide +kernel) rfl
set_option maxRecDepth 100000 in
theorem wi_X1_hasWeekday : Cond.instanceMethod yX1_hasWeekday ∈ gl_ := wg_ 808 (by decide +kernel) rfl
set_option maxRecDepth 100000 in
theorem wi_X1_init : Cond.instanceMethod yX1_init ∈ gl_ := wg_ 165 (by decide +kernel) rfl
set_option maxRecDepth 100000 in
theorem wi_X1_isLeapYear : Cond.instanceMethod yX1_isLeapYear ∈ gl_ := wg_ 657 (by decide +kernel) rfl
set_option maxRecDepth 100000 in
theorem wi_X1_leapCycle : Cond.instanceMethod yX1_leapCycle ∈ gl_ := wg_ 816 (by decide +kernel) rfl
set_option maxRecDepth 100000 in
theorem wi_X1_lengthIn : Cond.instanceMethod yX1_lengthIn ∈ gl_ := wg_ 653 (by decide +kernel) rfl
set_option maxRecDepth 100000 in
theorem wi_X2_datedAtRest : Cond.instanceMethod yX2_datedAtRest ∈ gl_ := wg_ 925 (by decide +kernel) rfl
set_option maxRecDepth 100000 in
theorem wi_X2_daysApart : Cond.instanceMethod yX2_daysApart ∈ gl_ := wg_ 913 (by decide +kernel) rfl
set_option maxRecDepth 100000 in
theorem wi_X2_earlierThan : Cond.instanceMethod yX2_earlierThan ∈ gl_ := wg_ 905 (by decide +kernel) rfl
set_option maxRecDepth 100000 in
theorem wi_X2_init : Cond.instanceMethod yX2_init ∈ gl_ := wg_ 336 (by decide +kernel) rfl
set_option maxRecDepth 100000 in
theorem wi_X2_placeOfOldest : Cond.instanceMethod yX2_placeOfOldest ∈ gl_ := wg_ 897 (by decide +kernel) rfl
set_option maxRecDepth 100000 in
theorem wi_X2_read : Cond.instanceMethod yX2_read ∈ gl_ := wg_ 887 (by decide +kernel) rfl
set_option maxRecDepth 100000 in
theorem wi_X3_init : Cond.instanceMethod yX3_init ∈ gl_ := wg_ 125 (by decide +kernel) rfl
set_option maxRecDepth 100000 in
theorem wi_X3_isWord : Cond.instanceMethod yX3_isWord ∈ gl_ := wg_ 505 (by decide +kernel) rfl
set_option maxRecDepth 100000 in
theorem wi_X3_needNumber : Cond.instanceMethod yX3_needNumber ∈ gl_ := wg_ 570 (by decide +kernel) rfl
set_option maxRecDepth 100000 in
theorem wi_X3_needWord : Cond.instanceMethod yX3_needWord ∈ gl_ := wg_ 562 (by decide +kernel) rfl
set_option maxRecDepth 100000 in
theorem wi_X3_read : Cond.instanceMethod yX3_read ∈ gl_ := wg_ 487 (by decide +kernel) rfl
set_option maxRecDepth 100000 in
theorem wi_X3_readFeast : Cond.instanceMethod yX3_readFeast ∈ gl_ := wg_ 603 (by decide +kernel) rfl
set_option maxRecDepth 100000 in
theorem wi_X3_readLand : Cond.instanceMethod yX3_readLand ∈ gl_ := wg_ 579 (by decide +kernel) rfl
set_option maxRecDepth 100000 in
theorem wi_X3_readLine : Cond.instanceMethod yX3_readLine ∈ gl_ := wg_ 500 (by decide +kernel) rfl
set_option maxRecDepth 100000 in
theorem wi_X3_readMonths : Cond.instanceMethod yX3_readMonths ∈ gl_ := wg_ 591 (by decide +kernel) rfl
set_option maxRecDepth 100000 in
theorem wi_X3_readRain : Cond.instanceMethod yX3_readRain ∈ gl_ := wg_ 557 (by decide +kernel) rfl
set_option maxRecDepth 100000 in
theorem wi_X3_readTruce : Cond.instanceMethod yX3_readTruce ∈ gl_ := wg_ 616 (by decide +kernel) rfl
set_option maxRecDepth 100000 in
theorem wi_X3_refuse : Cond.instanceMethod yX3_refuse ∈ gl_ := wg_ 566 (by decide +kernel) rfl
set_option maxRecDepth 100000 in
theorem wi_X3_startLine : Cond.instanceMethod yX3_startLine ∈ gl_ := wg_ 575 (by decide +kernel) rfl
set_option maxRecDepth 100000 in
theorem wi_X3_step : Cond.instanceMethod yX3_step ∈ gl_ := wg_ 495 (by decide +kernel) rfl
set_option maxRecDepth 100000 in
theorem wi_X4_areSmall : Cond.instanceMethod yX4_areSmall ∈ gl_ := wg_ 891 (by decide +kernel) rfl
set_option maxRecDepth 100000 in
theorem wi_X4_cut : Cond.instanceMethod yX4_cut ∈ gl_ := wg_ 1213 (by decide +kernel) rfl
set_option maxRecDepth 100000 in
theorem wi_X4_hasStretch : Cond.instanceMethod yX4_hasStretch ∈ gl_ := wg_ 1221 (by decide +kernel) rfl
set_option maxRecDepth 100000 in
theorem wi_X4_init : Cond.instanceMethod yX4_init ∈ gl_ := wg_ 402 (by decide +kernel) rfl
set_option maxRecDepth 100000 in
theorem wi_X4_renew : Cond.instanceMethod yX4_renew ∈ gl_ := wg_ 1202 (by decide +kernel) rfl
set_option maxRecDepth 100000 in
theorem wi_X5_cover : Cond.instanceMethod yX5_cover ∈ gl_ := wg_ 855 (by decide +kernel) rfl
set_option maxRecDepth 100000 in
theorem wi_X5_init : Cond.instanceMethod yX5_init ∈ gl_ := wg_ 318 (by decide +kernel) rfl
set_option maxRecDepth 100000 in
theorem wi_X5_openDays : Cond.instanceMethod yX5_openDays ∈ gl_ := wg_ 850 (by decide +kernel) rfl
set_option maxRecDepth 100000 in
theorem wi_X5_seek : Cond.instanceMethod yX5_seek ∈ gl_ := wg_ 844 (by decide +kernel) rfl
set_option maxRecDepth 100000 in
theorem wi_X6_fightersOnAll : Cond.instanceMethod yX6_fightersOnAll ∈ gl_ := wg_ 960 (by decide +kernel) rfl
set_option maxRecDepth 100000 in
theorem wi_X6_fightersOnSome : Cond.instanceMethod yX6_fightersOnSome ∈ gl_ := wg_ 964 (by decide +kernel) rfl
set_option maxRecDepth 100000 in
theorem wi_X6_fitsAll : Cond.instanceMethod yX6_fitsAll ∈ gl_ := wg_ 947 (by decide +kernel) rfl
set_option maxRecDepth 100000 in
theorem wi_X6_gather : Cond.instanceMethod yX6_gather ∈ gl_ := wg_ 943 (by decide +kernel) rfl
set_option maxRecDepth 100000 in
theorem wi_X6_init : Cond.instanceMethod yX6_init ∈ gl_ := wg_ 353 (by decide +kernel) rfl
set_option maxRecDepth 100000 in
theorem wi_X6_isTold : Cond.instanceMethod yX6_isTold ∈ gl_ := wg_ 938 (by decide +kernel) rfl
set_option maxRecDepth 100000 in
theorem wi_X6_seekQuestion : Cond.instanceMethod yX6_seekQuestion ∈ gl_ := wg_ 972 (by decide +kernel) rfl
set_option maxRecDepth 100000 in
theorem wi_X6_tryQuestion : Cond.instanceMethod yX6_tryQuestion ∈ gl_ := wg_ 976 (by decide +kernel) rfl
set_option maxRecDepth 100000 in
theorem wi_X7_bestTake : Cond.instanceMethod yX7_bestTake ∈ gl_ := wg_ 1075 (by decide +kernel) rfl
set_option maxRecDepth 100000 in
theorem wi_X7_init : Cond.instanceMethod yX7_init ∈ gl_ := wg_ 379 (by decide +kernel) rfl
set_option maxRecDepth 100000 in
theorem wi_X7_listTurns : Cond.instanceMethod yX7_listTurns ∈ gl_ := wg_ 1070 (by decide +kernel) rfl
set_option maxRecDepth 100000 in
theorem wi_X7_play : Cond.instanceMethod yX7_play ∈ gl_ := wg_ 1066 (by decide +kernel) rfl
set_option maxRecDepth 100000 in
theorem wi_X7_winnerOf : Cond.instanceMethod yX7_winnerOf ∈ gl_ := wg_ 1083 (by decide +kernel) rfl
set_option maxRecDepth 100000 in
theorem wi_X7_worth : Cond.instanceMethod yX7_worth ∈ gl_ := wg_ 1079 (by decide +kernel) rfl
set_option maxRecDepth 100000 in
theorem wi_X8_append : Cond.instanceMethod yX8_append ∈ gl_ := wg_ 475 (by decide +kernel) rfl
set_option maxRecDepth 100000 in
theorem wi_X8_init : Cond.instanceMethod yX8_init ∈ gl_ := wg_ 108 (by decide +kernel) rfl
set_option maxRecDepth 100000 in
theorem wi_X9_appendTruce : Cond.instanceMethod yX9_appendTruce ∈ gl_ := wg_ 621 (by decide +kernel) rfl
set_option maxRecDepth 100000 in
theorem wi_X9_clear : Cond.instanceMethod yX9_clear ∈ gl_ := wg_ 491 (by decide +kernel) rfl
set_option maxRecDepth 100000 in
theorem wi_X9_copyOf : Cond.instanceMethod yX9_copyOf ∈ gl_ := wg_ 1185 (by decide +kernel) rfl
set_option maxRecDepth 100000 in
theorem wi_X9_dayOfDate : Cond.instanceMethod yX9_dayOfDate ∈ gl_ := wg_ 724 (by decide +kernel) rfl
set_option maxRecDepth 100000 in
theorem wi_X9_hasLand : Cond.instanceMethod yX9_hasLand ∈ gl_ := wg_ 637 (by decide +kernel) rfl
set_option maxRecDepth 100000 in
theorem wi_X9_hasMonth : Cond.instanceMethod yX9_hasMonth ∈ gl_ := wg_ 645 (by decide +kernel) rfl
set_option maxRecDepth 100000 in
theorem wi_X9_hasPlainDate : Cond.instanceMethod yX9_hasPlainDate ∈ gl_ := wg_ 1095 (by decide +kernel) rfl
set_option maxRecDepth 100000 in
theorem wi_X9_init : Cond.instanceMethod yX9_init ∈ gl_ := wg_ 158 (by decide +kernel) rfl
set_option maxRecDepth 100000 in
theorem wi_X9_insertFeast : Cond.instanceMethod yX9_insertFeast ∈ gl_ := wg_ 608 (by decide +kernel) rfl
set_option maxRecDepth 100000 in
theorem wi_X9_latestFeastOf : Cond.instanceMethod yX9_latestFeastOf ∈ gl_ := wg_ 1125 (by decide +kernel) rfl
set_option maxRecDepth 100000 in
theorem wi_X9_noteChange : Cond.instanceMethod yX9_noteChange ∈ gl_ := wg_ 1104 (by decide +kernel) rfl
set_option maxRecDepth 100000 in
theorem wi_X9_noteEnded : Cond.instanceMethod yX9_noteEnded ∈ gl_ := wg_ 1129 (by decide +kernel) rfl
set_option maxRecDepth 100000 in
theorem wi_X9_noteFounded : Cond.instanceMethod yX9_noteFounded ∈ gl_ := wg_ 1100 (by decide +kernel) rfl
set_option maxRecDepth 100000 in
theorem wi_X9_noteGranted : Cond.instanceMethod yX9_noteGranted ∈ gl_ := wg_ 1117 (by decide +kernel) rfl
set_option maxRecDepth 100000 in
theorem wi_X9_removeFeast : Cond.instanceMethod yX9_removeFeast ∈ gl_ := wg_ 1133 (by decide +kernel) rfl
set_option maxRecDepth 100000 in
theorem wi_X9_takeBackLatest : Cond.instanceMethod yX9_takeBackLatest ∈ gl_ := wg_ 1141 (by decide +kernel) rfl
set_option maxRecDepth 100000 in
theorem wi_X9_trucesOn : Cond.instanceMethod yX9_trucesOn ∈ gl_ := wg_ 992 (by decide +kernel) rfl
set_option maxRecDepth 100000 in
theorem ws_J0_charAt_5068e : Cond.selects RJ0 yJ0_charAt_5068e yJ0_charAt_5068e ∈ gl_ := wg_ 520 (by decide +kernel) rfl
set_option maxRecDepth 100000 in
theorem ws_J0_coder_7d493 : Cond.selects RJ0 yJ0_coder_7d493 yJ0_coder_7d493 ∈ gl_ := wg_ 514 (by decide +kernel) rfl
set_option maxRecDepth 100000 in
theorem ws_J0_isLatin1_aae02 : Cond.selects RJ0 yJ0_isLatin1_aae02 yJ0_isLatin1_aae02 ∈ gl_ := wg_ 524 (by decide +kernel) rfl
set_option maxRecDepth 100000 in
theorem ws_J0_length_8abf5 : Cond.selects RJ0 yJ0_length_8abf5 yJ0_length_8abf5 ∈ gl_ := wg_ 510 (by decide +kernel) rfl
set_option maxRecDepth 100000 in
theorem ws_X0_ageBy : Cond.selects RX0 yX0_ageBy yX0_ageBy ∈ gl_ := wg_ 1010 (by decide +kernel) rfl
set_option maxRecDepth 100000 in
theorem ws_X0_allFight : Cond.selects RX0 yX0_allFight yX0_allFight ∈ gl_ := wg_ 765 (by decide +kernel) rfl
set_option maxRecDepth 100000 in
theorem ws_X0_aloneOn : Cond.selects RX0 yX0_aloneOn yX0_aloneOn ∈ gl_ := wg_ 1044 (by decide +kernel) rfl
set_option maxRecDepth 100000 in
theorem ws_X0_bringUpToDate : Cond.selects RX0 yX0_bringUpToDate yX0_bringUpToDate ∈ gl_ := wg_ 685 (by decide +kernel) rfl
set_option maxRecDepth 100000 in
theorem ws_X0_clashDay : Cond.selects RX0 yX0_clashDay yX0_clashDay ∈ gl_ := wg_ 1028 (by decide +kernel) rfl
set_option maxRecDepth 100000 in
theorem ws_X0_daysAlone : Cond.selects RX0 yX0_daysAlone yX0_daysAlone ∈ gl_ := wg_ 1040 (by decide +kernel) rfl
set_option maxRecDepth 100000 in
theorem ws_X0_fightingDays : Cond.selects RX0 yX0_fightingDays yX0_fightingDays ∈ gl_ := wg_ 773 (by decide +kernel) rfl
set_option maxRecDepth 100000 in
theorem ws_X0_fillDates : Cond.selects RX0 yX0_fillDates yX0_fillDates ∈ gl_ := wg_ 692 (by decide +kernel) rfl
set_option maxRecDepth 100000 in
theorem ws_X0_fillFighters : Cond.selects RX0 yX0_fillFighters yX0_fillFighters ∈ gl_ := wg_ 713 (by decide +kernel) rfl
set_option maxRecDepth 100000 in
theorem ws_X0_fillReasons : Cond.selects RX0 yX0_fillReasons yX0_fillReasons ∈ gl_ := wg_ 697 (by decide +kernel) rfl
set_option maxRecDepth 100000 in
theorem ws_X0_forgetAll : Cond.selects RX0 yX0_forgetAll yX0_forgetAll ∈ gl_ := wg_ 626 (by decide +kernel) rfl
set_option maxRecDepth 100000 in
theorem ws_X0_forgetReasons : Cond.selects RX0 yX0_forgetReasons yX0_forgetReasons ∈ gl_ := wg_ 1109 (by decide +kernel) rfl
set_option maxRecDepth 100000 in
theorem ws_X0_markFeast : Cond.selects RX0 yX0_markFeast yX0_markFeast ∈ gl_ := wg_ 701 (by decide +kernel) rfl
set_option maxRecDepth 100000 in
theorem ws_X0_markReason : Cond.selects RX0 yX0_markReason yX0_markReason ∈ gl_ := wg_ 709 (by decide +kernel) rfl
set_option maxRecDepth 100000 in
theorem ws_X0_monthDay : Cond.selects RX0 yX0_monthDay yX0_monthDay ∈ gl_ := wg_ 825 (by decide +kernel) rfl
set_option maxRecDepth 100000 in
theorem ws_X0_part : Cond.selects RX0 yX0_part yX0_part ∈ gl_ := wg_ 717 (by decide +kernel) rfl
set_option maxRecDepth 100000 in
theorem ws_X0_reason : Cond.selects RX0 yX0_reason yX0_reason ∈ gl_ := wg_ 742 (by decide +kernel) rfl
set_option maxRecDepth 100000 in
theorem ws_X0_seekBeginning : Cond.selects RX0 yX0_seekBeginning yX0_seekBeginning ∈ gl_ := wg_ 1052 (by decide +kernel) rfl
set_option maxRecDepth 100000 in
theorem ws_X0_seekWait : Cond.selects RX0 yX0_seekWait yX0_seekWait ∈ gl_ := wg_ 782 (by decide +kernel) rfl
set_option maxRecDepth 100000 in
theorem ws_X10_age : Cond.selects RX10 yX10_age yX10_age ∈ gl_ := wg_ 1006 (by decide +kernel) rfl
set_option maxRecDepth 100000 in
theorem ws_X10_alike : Cond.selects RX10 yX10_alike yX10_alike ∈ gl_ := wg_ 821 (by decide +kernel) rfl
set_option maxRecDepth 100000 in
theorem ws_X10_alone : Cond.selects RX10 yX10_alone yX10_alone ∈ gl_ := wg_ 1036 (by decide +kernel) rfl
set_option maxRecDepth 100000 in
theorem ws_X10_apart : Cond.selects RX10 yX10_apart yX10_apart ∈ gl_ := wg_ 910 (by decide +kernel) rfl
set_option maxRecDepth 100000 in
theorem ws_X10_ask : Cond.selects RX10 yX10_ask yX10_ask ∈ gl_ := wg_ 969 (by decide +kernel) rfl
set_option maxRecDepth 100000 in
theorem ws_X10_back : Cond.selects RX10 yX10_back yX10_back ∈ gl_ := wg_ 1195 (by decide +kernel) rfl
set_option maxRecDepth 100000 in
theorem ws_X10_begin : Cond.selects RX10 yX10_begin yX10_begin ∈ gl_ := wg_ 1048 (by decide +kernel) rfl
set_option maxRecDepth 100000 in
theorem ws_X10_begins : Cond.selects RX10 yX10_begins yX10_begins ∈ gl_ := wg_ 1058 (by decide +kernel) rfl
set_option maxRecDepth 100000 in
theorem ws_X10_bridge : Cond.selects RX10 yX10_bridge yX10_bridge ∈ gl_ := wg_ 869 (by decide +kernel) rfl
set_option maxRecDepth 100000 in
theorem ws_X10_bridged : Cond.selects RX10 yX10_bridged yX10_bridged ∈ gl_ := wg_ 873 (by decide +kernel) rfl
set_option maxRecDepth 100000 in
theorem ws_X10_clash : Cond.selects RX10 yX10_clash yX10_clash ∈ gl_ := wg_ 1024 (by decide +kernel) rfl
set_option maxRecDepth 100000 in
theorem ws_X10_comes : Cond.selects RX10 yX10_comes yX10_comes ∈ gl_ := wg_ 833 (by decide +kernel) rfl
set_option maxRecDepth 100000 in
theorem ws_X10_count : Cond.selects RX10 yX10_count yX10_count ∈ gl_ := wg_ 1174 (by decide +kernel) rfl
set_option maxRecDepth 100000 in
theorem ws_X10_date : Cond.selects RX10 yX10_date yX10_date ∈ gl_ := wg_ 670 (by decide +kernel) rfl
set_option maxRecDepth 100000 in
theorem ws_X10_day : Cond.selects RX10 yX10_day yX10_day ∈ gl_ := wg_ 721 (by decide +kernel) rfl
set_option maxRecDepth 100000 in
theorem ws_X10_drawn : Cond.selects RX10 yX10_drawn yX10_drawn ∈ gl_ := wg_ 1147 (by decide +kernel) rfl
set_option maxRecDepth 100000 in
theorem ws_X10_end : Cond.selects RX10 yX10_end yX10_end ∈ gl_ := wg_ 480 (by decide +kernel) rfl
set_option maxRecDepth 100000 in
theorem ws_X10_ends : Cond.selects RX10 yX10_ends yX10_ends ∈ gl_ := wg_ 1122 (by decide +kernel) rfl
set_option maxRecDepth 100000 in
theorem ws_X10_fault : Cond.selects RX10 yX10_fault yX10_fault ∈ gl_ := wg_ 630 (by decide +kernel) rfl
set_option maxRecDepth 100000 in
theorem ws_X10_feast : Cond.selects RX10 yX10_feast yX10_feast ∈ gl_ := wg_ 662 (by decide +kernel) rfl
set_option maxRecDepth 100000 in
theorem ws_X10_feed : Cond.selects RX10 yX10_feed yX10_feed ∈ gl_ := wg_ 472 (by decide +kernel) rfl
set_option maxRecDepth 100000 in
theorem ws_X10_fightsInRain : Cond.selects RX10 yX10_fightsInRain yX10_fightsInRain ∈ gl_ := wg_ 9 (by decide +kernel) rfl
set_option maxRecDepth 100000 in
theorem ws_X10_fit : Cond.selects RX10 yX10_fit yX10_fit ∈ gl_ := wg_ 953 (by decide +kernel) rfl
set_option maxRecDepth 100000 in
theorem ws_X10_fits : Cond.selects RX10 yX10_fits yX10_fits ∈ gl_ := wg_ 931 (by decide +kernel) rfl
set_option maxRecDepth 100000 in
theorem ws_X10_found : Cond.selects RX10 yX10_found yX10_found ∈ gl_ := wg_ 1092 (by decide +kernel) rfl
set_option maxRecDepth 100000 in
theorem ws_X10_founded : Cond.selects RX10 yX10_founded yX10_founded ∈ gl_ := wg_ 864 (by decide +kernel) rfl
set_option maxRecDepth 100000 in
theorem ws_X10_gains : Cond.selects RX10 yX10_gains yX10_gains ∈ gl_ := wg_ 1016 (by decide +kernel) rfl
set_option maxRecDepth 100000 in
theorem ws_X10_game : Cond.selects RX10 yX10_game yX10_game ∈ gl_ := wg_ 1062 (by decide +kernel) rfl
set_option maxRecDepth 100000 in
theorem ws_X10_grant : Cond.selects RX10 yX10_grant yX10_grant ∈ gl_ := wg_ 1113 (by decide +kernel) rfl
set_option maxRecDepth 100000 in
theorem ws_X10_holds : Cond.selects RX10 yX10_holds yX10_holds ∈ gl_ := wg_ 989 (by decide +kernel) rfl
set_option maxRecDepth 100000 in
theorem ws_X10_idle : Cond.selects RX10 yX10_idle yX10_idle ∈ gl_ := wg_ 922 (by decide +kernel) rfl
set_option maxRecDepth 100000 in
theorem ws_X10_image : Cond.selects RX10 yX10_image yX10_image ∈ gl_ := wg_ 1182 (by decide +kernel) rfl
set_option maxRecDepth 100000 in
theorem ws_X10_isDayOfWar : Cond.selects RX10 yX10_isDayOfWar yX10_isDayOfWar ∈ gl_ := wg_ 2 (by decide +kernel) rfl
set_option maxRecDepth 100000 in
theorem ws_X10_isLandAndDay : Cond.selects RX10 yX10_isLandAndDay yX10_isLandAndDay ∈ gl_ := wg_ 0 (by decide +kernel) rfl
set_option maxRecDepth 100000 in
theorem ws_X10_isPair : Cond.selects RX10 yX10_isPair yX10_isPair ∈ gl_ := wg_ 5 (by decide +kernel) rfl
set_option maxRecDepth 100000 in
theorem ws_X10_isPairAndDay : Cond.selects RX10 yX10_isPairAndDay yX10_isPairAndDay ∈ gl_ := wg_ 4 (by decide +kernel) rfl
set_option maxRecDepth 100000 in
theorem ws_X10_isSaintly : Cond.selects RX10 yX10_isSaintly yX10_isSaintly ∈ gl_ := wg_ 6 (by decide +kernel) rfl
set_option maxRecDepth 100000 in
theorem ws_X10_isSetInSpan : Cond.selects RX10 yX10_isSetInSpan yX10_isSetInSpan ∈ gl_ := wg_ 3 (by decide +kernel) rfl
set_option maxRecDepth 100000 in
theorem ws_X10_land : Cond.selects RX10 yX10_land yX10_land ∈ gl_ := wg_ 634 (by decide +kernel) rfl
set_option maxRecDepth 100000 in
theorem ws_X10_leaves : Cond.selects RX10 yX10_leaves yX10_leaves ∈ gl_ := wg_ 985 (by decide +kernel) rfl
set_option maxRecDepth 100000 in
theorem ws_X10_luck : Cond.selects RX10 yX10_luck yX10_luck ∈ gl_ := wg_ 1166 (by decide +kernel) rfl
set_option maxRecDepth 100000 in
theorem ws_X10_many : Cond.selects RX10 yX10_many yX10_many ∈ gl_ := wg_ 769 (by decide +kernel) rfl
set_option maxRecDepth 100000 in
theorem ws_X10_march : Cond.selects RX10 yX10_march yX10_march ∈ gl_ := wg_ 1020 (by decide +kernel) rfl
set_option maxRecDepth 100000 in
theorem ws_X10_may : Cond.selects RX10 yX10_may yX10_may ∈ gl_ := wg_ 734 (by decide +kernel) rfl
set_option maxRecDepth 100000 in
theorem ws_X10_meets : Cond.selects RX10 yX10_meets yX10_meets ∈ gl_ := wg_ 797 (by decide +kernel) rfl
set_option maxRecDepth 100000 in
theorem ws_X10_month : Cond.selects RX10 yX10_month yX10_month ∈ gl_ := wg_ 642 (by decide +kernel) rfl
set_option maxRecDepth 100000 in
theorem ws_X10_most : Cond.selects RX10 yX10_most yX10_most ∈ gl_ := wg_ 1001 (by decide +kernel) rfl
set_option maxRecDepth 100000 in
theorem ws_X10_next : Cond.selects RX10 yX10_next yX10_next ∈ gl_ := wg_ 754 (by decide +kernel) rfl
set_option maxRecDepth 100000 in
theorem ws_X10_older : Cond.selects RX10 yX10_older yX10_older ∈ gl_ := wg_ 902 (by decide +kernel) rfl
set_option maxRecDepth 100000 in
theorem ws_X10_oldest : Cond.selects RX10 yX10_oldest yX10_oldest ∈ gl_ := wg_ 877 (by decide +kernel) rfl
set_option maxRecDepth 100000 in
theorem ws_X10_overlap : Cond.selects RX10 yX10_overlap yX10_overlap ∈ gl_ := wg_ 997 (by decide +kernel) rfl
set_option maxRecDepth 100000 in
theorem ws_X10_paste : Cond.selects RX10 yX10_paste yX10_paste ∈ gl_ := wg_ 1218 (by decide +kernel) rfl
set_option maxRecDepth 100000 in
theorem ws_X10_period : Cond.selects RX10 yX10_period yX10_period ∈ gl_ := wg_ 813 (by decide +kernel) rfl
set_option maxRecDepth 100000 in
theorem ws_X10_place : Cond.selects RX10 yX10_place yX10_place ∈ gl_ := wg_ 1032 (by decide +kernel) rfl
set_option maxRecDepth 100000 in
theorem ws_X10_readOrders : Cond.selects RX10 yX10_readOrders yX10_readOrders ∈ gl_ := wg_ 7 (by decide +kernel) rfl
set_option maxRecDepth 100000 in
theorem ws_X10_readSights : Cond.selects RX10 yX10_readSights yX10_readSights ∈ gl_ := wg_ 8 (by decide +kernel) rfl
set_option maxRecDepth 100000 in
theorem ws_X10_row : Cond.selects RX10 yX10_row yX10_row ∈ gl_ := wg_ 1199 (by decide +kernel) rfl
set_option maxRecDepth 100000 in
theorem ws_X10_saints : Cond.selects RX10 yX10_saints yX10_saints ∈ gl_ := wg_ 837 (by decide +kernel) rfl
set_option maxRecDepth 100000 in
theorem ws_X10_share : Cond.selects RX10 yX10_share yX10_share ∈ gl_ := wg_ 790 (by decide +kernel) rfl
set_option maxRecDepth 100000 in
theorem ws_X10_slotsWithRow : Cond.selects RX10 yX10_slotsWithRow yX10_slotsWithRow ∈ gl_ := wg_ 10 (by decide +kernel) rfl
set_option maxRecDepth 100000 in
theorem ws_X10_sure : Cond.selects RX10 yX10_sure yX10_sure ∈ gl_ := wg_ 957 (by decide +kernel) rfl
set_option maxRecDepth 100000 in
theorem ws_X10_takes : Cond.selects RX10 yX10_takes yX10_takes ∈ gl_ := wg_ 1088 (by decide +kernel) rfl
set_option maxRecDepth 100000 in
theorem ws_X10_told : Cond.selects RX10 yX10_told yX10_told ∈ gl_ := wg_ 1 (by decide +kernel) rfl
set_option maxRecDepth 100000 in
theorem ws_X10_truce : Cond.selects RX10 yX10_truce yX10_truce ∈ gl_ := wg_ 666 (by decide +kernel) rfl
set_option maxRecDepth 100000 in
theorem ws_X10_undo : Cond.selects RX10 yX10_undo yX10_undo ∈ gl_ := wg_ 1138 (by decide +kernel) rfl
set_option maxRecDepth 100000 in
theorem ws_X10_waiting : Cond.selects RX10 yX10_waiting yX10_waiting ∈ gl_ := wg_ 786 (by decide +kernel) rfl
set_option maxRecDepth 100000 in
theorem ws_X10_waits : Cond.selects RX10 yX10_waits yX10_waits ∈ gl_ := wg_ 778 (by decide +kernel) rfl
set_option maxRecDepth 100000 in
theorem ws_X10_war : Cond.selects RX10 yX10_war yX10_war ∈ gl_ := wg_ 484 (by decide +kernel) rfl
set_option maxRecDepth 100000 in
theorem ws_X10_who : Cond.selects RX10 yX10_who yX10_who ∈ gl_ := wg_ 746 (by decide +kernel) rfl
set_option maxRecDepth 100000 in
theorem ws_X10_why : Cond.selects RX10 yX10_why yX10_why ∈ gl_ := wg_ 738 (by decide +kernel) rfl
set_option maxRecDepth 100000 in
theorem ws_X10_write : Cond.selects RX10 yX10_write yX10_write ∈ gl_ := wg_ 1210 (by decide +kernel) rfl
set_option maxRecDepth 100000 in
theorem ws_X10_years : Cond.selects RX10 yX10_years yX10_years ∈ gl_ := wg_ 829 (by decide +kernel) rfl
set_option maxRecDepth 100000 in
theorem ws_X11_advance : Cond.selects RX11 yX11_advance yX11_advance ∈ gl_ := wg_ 11 (by decide +kernel) rfl
set_option maxRecDepth 100000 in
theorem ws_X11_age : Cond.selects RX11 yX11_age yX11_age ∈ gl_ := wg_ 1792 (by decide +kernel) rfl
set_option maxRecDepth 100000 in
theorem ws_X11_ageOf : Cond.selects RX11 yX11_ageOf yX11_ageOf ∈ gl_ := wg_ 66 (by decide +kernel) rfl
set_option maxRecDepth 100000 in
theorem ws_X11_alike : Cond.selects RX11 yX11_alike yX11_alike ∈ gl_ := wg_ 1647 (by decide +kernel) rfl
set_option maxRecDepth 100000 in
theorem ws_X11_allLands : Cond.selects RX11 yX11_allLands yX11_allLands ∈ gl_ := wg_ 45 (by decide +kernel) rfl
set_option maxRecDepth 100000 in
theorem ws_X11_alone : Cond.selects RX11 yX11_alone yX11_alone ∈ gl_ := wg_ 1824 (by decide +kernel) rfl
set_option maxRecDepth 100000 in
theorem ws_X11_aloneOf : Cond.selects RX11 yX11_aloneOf yX11_aloneOf ∈ gl_ := wg_ 69 (by decide +kernel) rfl
set_option maxRecDepth 100000 in
theorem ws_X11_apart : Cond.selects RX11 yX11_apart yX11_apart ∈ gl_ := wg_ 1722 (by decide +kernel) rfl
set_option maxRecDepth 100000 in
theorem ws_X11_areSaints : Cond.selects RX11 yX11_areSaints yX11_areSaints ∈ gl_ := wg_ 52 (by decide +kernel) rfl
set_option maxRecDepth 100000 in
theorem ws_X11_areTwo : Cond.selects RX11 yX11_areTwo yX11_areTwo ∈ gl_ := wg_ 49 (by decide +kernel) rfl
set_option maxRecDepth 100000 in
theorem ws_X11_ask : Cond.selects RX11 yX11_ask yX11_ask ∈ gl_ := wg_ 1760 (by decide +kernel) rfl
set_option maxRecDepth 100000 in
theorem ws_X11_askOf : Cond.selects RX11 yX11_askOf yX11_askOf ∈ gl_ := wg_ 63 (by decide +kernel) rfl
set_option maxRecDepth 100000 in
theorem ws_X11_asksOrders : Cond.selects RX11 yX11_asksOrders yX11_asksOrders ∈ gl_ := wg_ 55 (by decide +kernel) rfl
set_option maxRecDepth 100000 in
theorem ws_X11_asksSeen : Cond.selects RX11 yX11_asksSeen yX11_asksSeen ∈ gl_ := wg_ 59 (by decide +kernel) rfl
set_option maxRecDepth 100000 in
theorem ws_X11_back : Cond.selects RX11 yX11_back yX11_back ∈ gl_ := wg_ 1358 (by decide +kernel) rfl
set_option maxRecDepth 100000 in
theorem ws_X11_begin : Cond.selects RX11 yX11_begin yX11_begin ∈ gl_ := wg_ 1832 (by decide +kernel) rfl
set_option maxRecDepth 100000 in
theorem ws_X11_beginOf : Cond.selects RX11 yX11_beginOf yX11_beginOf ∈ gl_ := wg_ 71 (by decide +kernel) rfl
set_option maxRecDepth 100000 in
theorem ws_X11_begins : Cond.selects RX11 yX11_begins yX11_begins ∈ gl_ := wg_ 1845 (by decide +kernel) rfl
set_option maxRecDepth 100000 in
theorem ws_X11_bridge : Cond.selects RX11 yX11_bridge yX11_bridge ∈ gl_ := wg_ 1683 (by decide +kernel) rfl
set_option maxRecDepth 100000 in
theorem ws_X11_bridged : Cond.selects RX11 yX11_bridged yX11_bridged ∈ gl_ := wg_ 1691 (by decide +kernel) rfl
set_option maxRecDepth 100000 in
theorem ws_X11_clash : Cond.selects RX11 yX11_clash yX11_clash ∈ gl_ := wg_ 1808 (by decide +kernel) rfl
set_option maxRecDepth 100000 in
theorem ws_X11_comes : Cond.selects RX11 yX11_comes yX11_comes ∈ gl_ := wg_ 1659 (by decide +kernel) rfl
set_option maxRecDepth 100000 in
theorem ws_X11_copy : Cond.selects RX11 yX11_copy yX11_copy ∈ gl_ := wg_ 74 (by decide +kernel) rfl
set_option maxRecDepth 100000 in
theorem ws_X11_count : Cond.selects RX11 yX11_count yX11_count ∈ gl_ := wg_ 1923 (by decide +kernel) rfl
set_option maxRecDepth 100000 in
theorem ws_X11_date : Cond.selects RX11 yX11_date yX11_date ∈ gl_ := wg_ 1511 (by decide +kernel) rfl
set_option maxRecDepth 100000 in
theorem ws_X11_dateOf : Cond.selects RX11 yX11_dateOf yX11_dateOf ∈ gl_ := wg_ 37 (by decide +kernel) rfl
set_option maxRecDepth 100000 in
theorem ws_X11_day : Cond.selects RX11 yX11_day yX11_day ∈ gl_ := wg_ 1544 (by decide +kernel) rfl
set_option maxRecDepth 100000 in
theorem ws_X11_dayAt : Cond.selects RX11 yX11_dayAt yX11_dayAt ∈ gl_ := wg_ 58 (by decide +kernel) rfl
set_option maxRecDepth 100000 in
theorem ws_X11_dayBy : Cond.selects RX11 yX11_dayBy yX11_dayBy ∈ gl_ := wg_ 39 (by decide +kernel) rfl
set_option maxRecDepth 100000 in
theorem ws_X11_drawn : Cond.selects RX11 yX11_drawn yX11_drawn ∈ gl_ := wg_ 1902 (by decide +kernel) rfl
set_option maxRecDepth 100000 in
theorem ws_X11_end : Cond.selects RX11 yX11_end yX11_end ∈ gl_ := wg_ 1366 (by decide +kernel) rfl
set_option maxRecDepth 100000 in
theorem ws_X11_ends : Cond.selects RX11 yX11_ends yX11_ends ∈ gl_ := wg_ 1894 (by decide +kernel) rfl
set_option maxRecDepth 100000 in
theorem ws_X11_errs : Cond.selects RX11 yX11_errs yX11_errs ∈ gl_ := wg_ 18 (by decide +kernel) rfl
set_option maxRecDepth 100000 in
theorem ws_X11_fault : Cond.selects RX11 yX11_fault yX11_fault ∈ gl_ := wg_ 1370 (by decide +kernel) rfl
set_option maxRecDepth 100000 in
theorem ws_X11_feast : Cond.selects RX11 yX11_feast yX11_feast ∈ gl_ := wg_ 1494 (by decide +kernel) rfl
set_option maxRecDepth 100000 in
theorem ws_X11_feed : Cond.selects RX11 yX11_feed yX11_feed ∈ gl_ := wg_ 1362 (by decide +kernel) rfl
set_option maxRecDepth 100000 in
theorem ws_X11_findBridge : Cond.selects RX11 yX11_findBridge yX11_findBridge ∈ gl_ := wg_ 54 (by decide +kernel) rfl
set_option maxRecDepth 100000 in
theorem ws_X11_findClash : Cond.selects RX11 yX11_findClash yX11_findClash ∈ gl_ := wg_ 68 (by decide +kernel) rfl
set_option maxRecDepth 100000 in
theorem ws_X11_findSaints : Cond.selects RX11 yX11_findSaints yX11_findSaints ∈ gl_ := wg_ 53 (by decide +kernel) rfl
set_option maxRecDepth 100000 in
theorem ws_X11_findWait : Cond.selects RX11 yX11_findWait yX11_findWait ∈ gl_ := wg_ 48 (by decide +kernel) rfl
set_option maxRecDepth 100000 in
theorem ws_X11_fit : Cond.selects RX11 yX11_fit yX11_fit ∈ gl_ := wg_ 1752 (by decide +kernel) rfl
set_option maxRecDepth 100000 in
theorem ws_X11_fits : Cond.selects RX11 yX11_fits yX11_fits ∈ gl_ := wg_ 1731 (by decide +kernel) rfl
set_option maxRecDepth 100000 in
theorem ws_X11_fitsOf : Cond.selects RX11 yX11_fitsOf yX11_fitsOf ∈ gl_ := wg_ 60 (by decide +kernel) rfl
set_option maxRecDepth 100000 in
theorem ws_X11_found : Cond.selects RX11 yX11_found yX11_found ∈ gl_ := wg_ 1882 (by decide +kernel) rfl
set_option maxRecDepth 100000 in
theorem ws_X11_founded : Cond.selects RX11 yX11_founded yX11_founded ∈ gl_ := wg_ 1678 (by decide +kernel) rfl
set_option maxRecDepth 100000 in
theorem ws_X11_freshLand : Cond.selects RX11 yX11_freshLand yX11_freshLand ∈ gl_ := wg_ 25 (by decide +kernel) rfl
set_option maxRecDepth 100000 in
theorem ws_X11_gains : Cond.selects RX11 yX11_gains yX11_gains ∈ gl_ := wg_ 1800 (by decide +kernel) rfl
set_option maxRecDepth 100000 in
theorem ws_X11_game : Cond.selects RX11 yX11_game yX11_game ∈ gl_ := wg_ 1849 (by decide +kernel) rfl
set_option maxRecDepth 100000 in
theorem ws_X11_goRain : Cond.selects RX11 yX11_goRain yX11_goRain ∈ gl_ := wg_ 76 (by decide +kernel) rfl
set_option maxRecDepth 100000 in
theorem ws_X11_good : Cond.selects RX11 yX11_good yX11_good ∈ gl_ := wg_ 13 (by decide +kernel) rfl
set_option maxRecDepth 100000 in
theorem ws_X11_grant : Cond.selects RX11 yX11_grant yX11_grant ∈ gl_ := wg_ 1890 (by decide +kernel) rfl
set_option maxRecDepth 100000 in
theorem ws_X11_holdOn : Cond.selects RX11 yX11_holdOn yX11_holdOn ∈ gl_ := wg_ 65 (by decide +kernel) rfl
set_option maxRecDepth 100000 in
theorem ws_X11_holds : Cond.selects RX11 yX11_holds yX11_holds ∈ gl_ := wg_ 1776 (by decide +kernel) rfl
set_option maxRecDepth 100000 in
theorem ws_X11_idle : Cond.selects RX11 yX11_idle yX11_idle ∈ gl_ := wg_ 1727 (by decide +kernel) rfl
set_option maxRecDepth 100000 in
theorem ws_X11_image : Cond.selects RX11 yX11_image yX11_image ∈ gl_ := wg_ 1350 (by decide +kernel) rfl
set_option maxRecDepth 100000 in
theorem ws_X11_intAt : Cond.selects RX11 yX11_intAt yX11_intAt ∈ gl_ := wg_ 57 (by decide +kernel) rfl
set_option maxRecDepth 100000 in
theorem ws_X11_is : Cond.selects RX11 yX11_is yX11_is ∈ gl_ := wg_ 17 (by decide +kernel) rfl
set_option maxRecDepth 100000 in
theorem ws_X11_isBegin : Cond.selects RX11 yX11_isBegin yX11_isBegin ∈ gl_ := wg_ 70 (by decide +kernel) rfl
set_option maxRecDepth 100000 in
theorem ws_X11_isClash : Cond.selects RX11 yX11_isClash yX11_isClash ∈ gl_ := wg_ 67 (by decide +kernel) rfl
set_option maxRecDepth 100000 in
theorem ws_X11_isCounted : Cond.selects RX11 yX11_isCounted yX11_isCounted ∈ gl_ := wg_ 51 (by decide +kernel) rfl
set_option maxRecDepth 100000 in
theorem ws_X11_isDate : Cond.selects RX11 yX11_isDate yX11_isDate ∈ gl_ := wg_ 38 (by decide +kernel) rfl
set_option maxRecDepth 100000 in
theorem ws_X11_isGame : Cond.selects RX11 yX11_isGame yX11_isGame ∈ gl_ := wg_ 72 (by decide +kernel) rfl
set_option maxRecDepth 100000 in
theorem ws_X11_isLand : Cond.selects RX11 yX11_isLand yX11_isLand ∈ gl_ := wg_ 27 (by decide +kernel) rfl
set_option maxRecDepth 100000 in
theorem ws_X11_isMonth : Cond.selects RX11 yX11_isMonth yX11_isMonth ∈ gl_ := wg_ 29 (by decide +kernel) rfl
set_option maxRecDepth 100000 in
theorem ws_X11_isSeen : Cond.selects RX11 yX11_isSeen yX11_isSeen ∈ gl_ := wg_ 61 (by decide +kernel) rfl
set_option maxRecDepth 100000 in
theorem ws_X11_isSet : Cond.selects RX11 yX11_isSet yX11_isSet ∈ gl_ := wg_ 44 (by decide +kernel) rfl
set_option maxRecDepth 100000 in
theorem ws_X11_isWar : Cond.selects RX11 yX11_isWar yX11_isWar ∈ gl_ := wg_ 42 (by decide +kernel) rfl
set_option maxRecDepth 100000 in
theorem ws_X11_isWeekday : Cond.selects RX11 yX11_isWeekday yX11_isWeekday ∈ gl_ := wg_ 50 (by decide +kernel) rfl
set_option maxRecDepth 100000 in
theorem ws_X11_keepChange : Cond.selects RX11 yX11_keepChange yX11_keepChange ∈ gl_ := wg_ 75 (by decide +kernel) rfl
set_option maxRecDepth 100000 in
theorem ws_X11_land : Cond.selects RX11 yX11_land yX11_land ∈ gl_ := wg_ 1465 (by decide +kernel) rfl
set_option maxRecDepth 100000 in
theorem ws_X11_lay : Cond.selects RX11 yX11_lay yX11_lay ∈ gl_ := wg_ 33 (by decide +kernel) rfl
set_option maxRecDepth 100000 in
theorem ws_X11_layDates : Cond.selects RX11 yX11_layDates yX11_layDates ∈ gl_ := wg_ 34 (by decide +kernel) rfl
set_option maxRecDepth 100000 in
theorem ws_X11_layWhy : Cond.selects RX11 yX11_layWhy yX11_layWhy ∈ gl_ := wg_ 35 (by decide +kernel) rfl
set_option maxRecDepth 100000 in
theorem ws_X11_leaves : Cond.selects RX11 yX11_leaves yX11_leaves ∈ gl_ := wg_ 1772 (by decide +kernel) rfl
set_option maxRecDepth 100000 in
theorem ws_X11_lengthOf : Cond.selects RX11 yX11_lengthOf yX11_lengthOf ∈ gl_ := wg_ 30 (by decide +kernel) rfl
set_option maxRecDepth 100000 in
theorem ws_X11_luck : Cond.selects RX11 yX11_luck yX11_luck ∈ gl_ := wg_ 1919 (by decide +kernel) rfl
set_option maxRecDepth 100000 in
theorem ws_X11_many : Cond.selects RX11 yX11_many yX11_many ∈ gl_ := wg_ 1600 (by decide +kernel) rfl
set_option maxRecDepth 100000 in
theorem ws_X11_manyOf : Cond.selects RX11 yX11_manyOf yX11_manyOf ∈ gl_ := wg_ 47 (by decide +kernel) rfl
set_option maxRecDepth 100000 in
theorem ws_X11_march : Cond.selects RX11 yX11_march yX11_march ∈ gl_ := wg_ 1804 (by decide +kernel) rfl
set_option maxRecDepth 100000 in
theorem ws_X11_may : Cond.selects RX11 yX11_may yX11_may ∈ gl_ := wg_ 1560 (by decide +kernel) rfl
set_option maxRecDepth 100000 in
theorem ws_X11_mayAll : Cond.selects RX11 yX11_mayAll yX11_mayAll ∈ gl_ := wg_ 46 (by decide +kernel) rfl
set_option maxRecDepth 100000 in
theorem ws_X11_mayOn : Cond.selects RX11 yX11_mayOn yX11_mayOn ∈ gl_ := wg_ 41 (by decide +kernel) rfl
set_option maxRecDepth 100000 in
theorem ws_X11_meets : Cond.selects RX11 yX11_meets yX11_meets ∈ gl_ := wg_ 1630 (by decide +kernel) rfl
set_option maxRecDepth 100000 in
theorem ws_X11_month : Cond.selects RX11 yX11_month yX11_month ∈ gl_ := wg_ 1478 (by decide +kernel) rfl
set_option maxRecDepth 100000 in
theorem ws_X11_most : Cond.selects RX11 yX11_most yX11_most ∈ gl_ := wg_ 1788 (by decide +kernel) rfl
set_option maxRecDepth 100000 in
theorem ws_X11_needs : Cond.selects RX11 yX11_needs yX11_needs ∈ gl_ := wg_ 15 (by decide +kernel) rfl
set_option maxRecDepth 100000 in
theorem ws_X11_next : Cond.selects RX11 yX11_next yX11_next ∈ gl_ := wg_ 1584 (by decide +kernel) rfl
set_option maxRecDepth 100000 in
theorem ws_X11_number : Cond.selects RX11 yX11_number yX11_number ∈ gl_ := wg_ 20 (by decide +kernel) rfl
set_option maxRecDepth 100000 in
theorem ws_X11_numberAt : Cond.selects RX11 yX11_numberAt yX11_numberAt ∈ gl_ := wg_ 56 (by decide +kernel) rfl
set_option maxRecDepth 100000 in
theorem ws_X11_of : Cond.selects RX11 yX11_of yX11_of ∈ gl_ := wg_ 28 (by decide +kernel) rfl
set_option maxRecDepth 100000 in
theorem ws_X11_ofFeast : Cond.selects RX11 yX11_ofFeast yX11_ofFeast ∈ gl_ := wg_ 31 (by decide +kernel) rfl
set_option maxRecDepth 100000 in
theorem ws_X11_ofTruce : Cond.selects RX11 yX11_ofTruce yX11_ofTruce ∈ gl_ := wg_ 32 (by decide +kernel) rfl
set_option maxRecDepth 100000 in
theorem ws_X11_older : Cond.selects RX11 yX11_older yX11_older ∈ gl_ := wg_ 1718 (by decide +kernel) rfl
set_option maxRecDepth 100000 in
theorem ws_X11_oldest : Cond.selects RX11 yX11_oldest yX11_oldest ∈ gl_ := wg_ 1695 (by decide +kernel) rfl
set_option maxRecDepth 100000 in
theorem ws_X11_overlap : Cond.selects RX11 yX11_overlap yX11_overlap ∈ gl_ := wg_ 1784 (by decide +kernel) rfl
set_option maxRecDepth 100000 in
theorem ws_X11_paste : Cond.selects RX11 yX11_paste yX11_paste ∈ gl_ := wg_ 1938 (by decide +kernel) rfl
set_option maxRecDepth 100000 in
theorem ws_X11_period : Cond.selects RX11 yX11_period yX11_period ∈ gl_ := wg_ 1643 (by decide +kernel) rfl
set_option maxRecDepth 100000 in
theorem ws_X11_place : Cond.selects RX11 yX11_place yX11_place ∈ gl_ := wg_ 1820 (by decide +kernel) rfl
set_option maxRecDepth 100000 in
theorem ws_X11_play : Cond.selects RX11 yX11_play yX11_play ∈ gl_ := wg_ 73 (by decide +kernel) rfl
set_option maxRecDepth 100000 in
theorem ws_X11_readFeast : Cond.selects RX11 yX11_readFeast yX11_readFeast ∈ gl_ := wg_ 24 (by decide +kernel) rfl
set_option maxRecDepth 100000 in
theorem ws_X11_readLand : Cond.selects RX11 yX11_readLand yX11_readLand ∈ gl_ := wg_ 22 (by decide +kernel) rfl
set_option maxRecDepth 100000 in
theorem ws_X11_readLine : Cond.selects RX11 yX11_readLine yX11_readLine ∈ gl_ := wg_ 14 (by decide +kernel) rfl
set_option maxRecDepth 100000 in
theorem ws_X11_readMonths : Cond.selects RX11 yX11_readMonths yX11_readMonths ∈ gl_ := wg_ 23 (by decide +kernel) rfl
set_option maxRecDepth 100000 in
theorem ws_X11_readNext : Cond.selects RX11 yX11_readNext yX11_readNext ∈ gl_ := wg_ 21 (by decide +kernel) rfl
set_option maxRecDepth 100000 in
theorem ws_X11_readTruce : Cond.selects RX11 yX11_readTruce yX11_readTruce ∈ gl_ := wg_ 26 (by decide +kernel) rfl
set_option maxRecDepth 100000 in
theorem ws_X11_row : Cond.selects RX11 yX11_row yX11_row ∈ gl_ := wg_ 1927 (by decide +kernel) rfl
set_option maxRecDepth 100000 in
theorem ws_X11_saints : Cond.selects RX11 yX11_saints yX11_saints ∈ gl_ := wg_ 1663 (by decide +kernel) rfl
set_option maxRecDepth 100000 in
theorem ws_X11_see : Cond.selects RX11 yX11_see yX11_see ∈ gl_ := wg_ 12 (by decide +kernel) rfl
set_option maxRecDepth 100000 in
theorem ws_X11_seen : Cond.selects RX11 yX11_seen yX11_seen ∈ gl_ := wg_ 62 (by decide +kernel) rfl
set_option maxRecDepth 100000 in
theorem ws_X11_share : Cond.selects RX11 yX11_share yX11_share ∈ gl_ := wg_ 1623 (by decide +kernel) rfl
set_option maxRecDepth 100000 in
theorem ws_X11_sure : Cond.selects RX11 yX11_sure yX11_sure ∈ gl_ := wg_ 1756 (by decide +kernel) rfl
set_option maxRecDepth 100000 in
theorem ws_X11_takes : Cond.selects RX11 yX11_takes yX11_takes ∈ gl_ := wg_ 16 (by decide +kernel) rfl
set_option maxRecDepth 100000 in
theorem ws_X11_takes_ : Cond.selects RX11 yX11_takes_ yX11_takes_ ∈ gl_ := wg_ 1878 (by decide +kernel) rfl
set_option maxRecDepth 100000 in
theorem ws_X11_told : Cond.selects RX11 yX11_told yX11_told ∈ gl_ := wg_ 19 (by decide +kernel) rfl
set_option maxRecDepth 100000 in
theorem ws_X11_truce : Cond.selects RX11 yX11_truce yX11_truce ∈ gl_ := wg_ 1503 (by decide +kernel) rfl
set_option maxRecDepth 100000 in
theorem ws_X11_undo : Cond.selects RX11 yX11_undo yX11_undo ∈ gl_ := wg_ 1898 (by decide +kernel) rfl
set_option maxRecDepth 100000 in
theorem ws_X11_waiting : Cond.selects RX11 yX11_waiting yX11_waiting ∈ gl_ := wg_ 1619 (by decide +kernel) rfl
set_option maxRecDepth 100000 in
theorem ws_X11_waits : Cond.selects RX11 yX11_waits yX11_waits ∈ gl_ := wg_ 1611 (by decide +kernel) rfl
set_option maxRecDepth 100000 in
theorem ws_X11_war : Cond.selects RX11 yX11_war yX11_war ∈ gl_ := wg_ 1374 (by decide +kernel) rfl
set_option maxRecDepth 100000 in
theorem ws_X11_weekday : Cond.selects RX11 yX11_weekday yX11_weekday ∈ gl_ := wg_ 36 (by decide +kernel) rfl
set_option maxRecDepth 100000 in
theorem ws_X11_who : Cond.selects RX11 yX11_who yX11_who ∈ gl_ := wg_ 1572 (by decide +kernel) rfl
set_option maxRecDepth 100000 in
theorem ws_X11_whoOn : Cond.selects RX11 yX11_whoOn yX11_whoOn ∈ gl_ := wg_ 43 (by decide +kernel) rfl
set_option maxRecDepth 100000 in
theorem ws_X11_why : Cond.selects RX11 yX11_why yX11_why ∈ gl_ := wg_ 1568 (by decide +kernel) rfl
set_option maxRecDepth 100000 in
theorem ws_X11_worstOf : Cond.selects RX11 yX11_worstOf yX11_worstOf ∈ gl_ := wg_ 64 (by decide +kernel) rfl
set_option maxRecDepth 100000 in
theorem ws_X11_write : Cond.selects RX11 yX11_write yX11_write ∈ gl_ := wg_ 1931 (by decide +kernel) rfl
set_option maxRecDepth 100000 in
theorem ws_X11_yearLength : Cond.selects RX11 yX11_yearLength yX11_yearLength ∈ gl_ := wg_ 40 (by decide +kernel) rfl
set_option maxRecDepth 100000 in
theorem ws_X11_years : Cond.selects RX11 yX11_years yX11_years ∈ gl_ := wg_ 1655 (by decide +kernel) rfl
set_option maxRecDepth 100000 in
theorem ws_X1_appendMonth : Cond.selects RX1 yX1_appendMonth yX1_appendMonth ∈ gl_ := wg_ 596 (by decide +kernel) rfl
set_option maxRecDepth 100000 in
theorem ws_X1_clear : Cond.selects RX1 yX1_clear yX1_clear ∈ gl_ := wg_ 584 (by decide +kernel) rfl
set_option maxRecDepth 100000 in
theorem ws_X1_copyOf : Cond.selects RX1 yX1_copyOf yX1_copyOf ∈ gl_ := wg_ 1190 (by decide +kernel) rfl
set_option maxRecDepth 100000 in
theorem ws_X1_dayOn : Cond.selects RX1 yX1_dayOn yX1_dayOn ∈ gl_ := wg_ 705 (by decide +kernel) rfl
set_option maxRecDepth 100000 in
theorem ws_X1_hasWeekday : Cond.selects RX1 yX1_hasWeekday yX1_hasWeekday ∈ gl_ := wg_ 809 (by decide +kernel) rfl
set_option maxRecDepth 100000 in
theorem ws_X1_isLeapYear : Cond.selects RX1 yX1_isLeapYear yX1_isLeapYear ∈ gl_ := wg_ 658 (by decide +kernel) rfl
set_option maxRecDepth 100000 in
theorem ws_X1_leapCycle : Cond.selects RX1 yX1_leapCycle yX1_leapCycle ∈ gl_ := wg_ 817 (by decide +kernel) rfl
set_option maxRecDepth 100000 in
theorem ws_X1_lengthIn : Cond.selects RX1 yX1_lengthIn yX1_lengthIn ∈ gl_ := wg_ 654 (by decide +kernel) rfl
set_option maxRecDepth 100000 in
theorem ws_X2_datedAtRest : Cond.selects RX2 yX2_datedAtRest yX2_datedAtRest ∈ gl_ := wg_ 926 (by decide +kernel) rfl
set_option maxRecDepth 100000 in
theorem ws_X2_daysApart : Cond.selects RX2 yX2_daysApart yX2_daysApart ∈ gl_ := wg_ 914 (by decide +kernel) rfl
set_option maxRecDepth 100000 in
theorem ws_X2_earlierThan : Cond.selects RX2 yX2_earlierThan yX2_earlierThan ∈ gl_ := wg_ 906 (by decide +kernel) rfl
set_option maxRecDepth 100000 in
theorem ws_X2_placeOfOldest : Cond.selects RX2 yX2_placeOfOldest yX2_placeOfOldest ∈ gl_ := wg_ 898 (by decide +kernel) rfl
set_option maxRecDepth 100000 in
theorem ws_X2_read : Cond.selects RX2 yX2_read yX2_read ∈ gl_ := wg_ 888 (by decide +kernel) rfl
set_option maxRecDepth 100000 in
theorem ws_X3_isWord : Cond.selects RX3 yX3_isWord yX3_isWord ∈ gl_ := wg_ 506 (by decide +kernel) rfl
set_option maxRecDepth 100000 in
theorem ws_X3_needNumber : Cond.selects RX3 yX3_needNumber yX3_needNumber ∈ gl_ := wg_ 571 (by decide +kernel) rfl
set_option maxRecDepth 100000 in
theorem ws_X3_needWord : Cond.selects RX3 yX3_needWord yX3_needWord ∈ gl_ := wg_ 563 (by decide +kernel) rfl
set_option maxRecDepth 100000 in
theorem ws_X3_read : Cond.selects RX3 yX3_read yX3_read ∈ gl_ := wg_ 488 (by decide +kernel) rfl
set_option maxRecDepth 100000 in
theorem ws_X3_readFeast : Cond.selects RX3 yX3_readFeast yX3_readFeast ∈ gl_ := wg_ 604 (by decide +kernel) rfl
set_option maxRecDepth 100000 in
theorem ws_X3_readLand : Cond.selects RX3 yX3_readLand yX3_readLand ∈ gl_ := wg_ 580 (by decide +kernel) rfl
set_option maxRecDepth 100000 in
theorem ws_X3_readLine : Cond.selects RX3 yX3_readLine yX3_readLine ∈ gl_ := wg_ 501 (by decide +kernel) rfl
set_option maxRecDepth 100000 in
theorem ws_X3_readMonths : Cond.selects RX3 yX3_readMonths yX3_readMonths ∈ gl_ := wg_ 592 (by decide +kernel) rfl
set_option maxRecDepth 100000 in
theorem ws_X3_readRain : Cond.selects RX3 yX3_readRain yX3_readRain ∈ gl_ := wg_ 558 (by decide +kernel) rfl
set_option maxRecDepth 100000 in
theorem ws_X3_readTruce : Cond.selects RX3 yX3_readTruce yX3_readTruce ∈ gl_ := wg_ 617 (by decide +kernel) rfl
set_option maxRecDepth 100000 in
theorem ws_X3_refuse : Cond.selects RX3 yX3_refuse yX3_refuse ∈ gl_ := wg_ 567 (by decide +kernel) rfl
set_option maxRecDepth 100000 in
theorem ws_X3_startLine : Cond.selects RX3 yX3_startLine yX3_startLine ∈ gl_ := wg_ 576 (by decide +kernel) rfl
set_option maxRecDepth 100000 in
theorem ws_X3_step : Cond.selects RX3 yX3_step yX3_step ∈ gl_ := wg_ 496 (by decide +kernel) rfl
set_option maxRecDepth 100000 in
theorem ws_X4_areSmall : Cond.selects RX4 yX4_areSmall yX4_areSmall ∈ gl_ := wg_ 892 (by decide +kernel) rfl
set_option maxRecDepth 100000 in
theorem ws_X4_cut : Cond.selects RX4 yX4_cut yX4_cut ∈ gl_ := wg_ 1214 (by decide +kernel) rfl
set_option maxRecDepth 100000 in
theorem ws_X4_hasStretch : Cond.selects RX4 yX4_hasStretch yX4_hasStretch ∈ gl_ := wg_ 1222 (by decide +kernel) rfl
set_option maxRecDepth 100000 in
theorem ws_X4_renew : Cond.selects RX4 yX4_renew yX4_renew ∈ gl_ := wg_ 1203 (by decide +kernel) rfl
set_option maxRecDepth 100000 in
theorem ws_X5_cover : Cond.selects RX5 yX5_cover yX5_cover ∈ gl_ := wg_ 856 (by decide +kernel) rfl
set_option maxRecDepth 100000 in
theorem ws_X5_openDays : Cond.selects RX5 yX5_openDays yX5_openDays ∈ gl_ := wg_ 851 (by decide +kernel) rfl
set_option maxRecDepth 100000 in
theorem ws_X5_seek : Cond.selects RX5 yX5_seek yX5_seek ∈ gl_ := wg_ 845 (by decide +kernel) rfl
set_option maxRecDepth 100000 in
theorem ws_X6_fightersOnAll : Cond.selects RX6 yX6_fightersOnAll yX6_fightersOnAll ∈ gl_ := wg_ 961 (by decide +kernel) rfl
set_option maxRecDepth 100000 in
theorem ws_X6_fightersOnSome : Cond.selects RX6 yX6_fightersOnSome yX6_fightersOnSome ∈ gl_ := wg_ 965 (by decide +kernel) rfl
set_option maxRecDepth 100000 in
theorem ws_X6_fitsAll : Cond.selects RX6 yX6_fitsAll yX6_fitsAll ∈ gl_ := wg_ 948 (by decide +kernel) rfl
set_option maxRecDepth 100000 in
theorem ws_X6_gather : Cond.selects RX6 yX6_gather yX6_gather ∈ gl_ := wg_ 944 (by decide +kernel) rfl
set_option maxRecDepth 100000 in
theorem ws_X6_isTold : Cond.selects RX6 yX6_isTold yX6_isTold ∈ gl_ := wg_ 939 (by decide +kernel) rfl
set_option maxRecDepth 100000 in
theorem ws_X6_seekQuestion : Cond.selects RX6 yX6_seekQuestion yX6_seekQuestion ∈ gl_ := wg_ 973 (by decide +kernel) rfl
set_option maxRecDepth 100000 in
theorem ws_X6_tryQuestion : Cond.selects RX6 yX6_tryQuestion yX6_tryQuestion ∈ gl_ := wg_ 977 (by decide +kernel) rfl
set_option maxRecDepth 100000 in
theorem ws_X7_bestTake : Cond.selects RX7 yX7_bestTake yX7_bestTake ∈ gl_ := wg_ 1076 (by decide +kernel) rfl
set_option maxRecDepth 100000 in
theorem ws_X7_listTurns : Cond.selects RX7 yX7_listTurns yX7_listTurns ∈ gl_ := wg_ 1071 (by decide +kernel) rfl
set_option maxRecDepth 100000 in
theorem ws_X7_play : Cond.selects RX7 yX7_play yX7_play ∈ gl_ := wg_ 1067 (by decide +kernel) rfl
set_option maxRecDepth 100000 in
theorem ws_X7_winnerOf : Cond.selects RX7 yX7_winnerOf yX7_winnerOf ∈ gl_ := wg_ 1084 (by decide +kernel) rfl
set_option maxRecDepth 100000 in
theorem ws_X7_worth : Cond.selects RX7 yX7_worth yX7_worth ∈ gl_ := wg_ 1080 (by decide +kernel) rfl
set_option maxRecDepth 100000 in
theorem ws_X8_append : Cond.selects RX8 yX8_append yX8_append ∈ gl_ := wg_ 476 (by decide +kernel) rfl
set_option maxRecDepth 100000 in
theorem ws_X9_appendTruce : Cond.selects RX9 yX9_appendTruce yX9_appendTruce ∈ gl_ := wg_ 622 (by decide +kernel) rfl
set_option maxRecDepth 100000 in
theorem ws_X9_clear : Cond.selects RX9 yX9_clear yX9_clear ∈ gl_ := wg_ 492 (by decide +kernel) rfl
set_option maxRecDepth 100000 in
theorem ws_X9_copyOf : Cond.selects RX9 yX9_copyOf yX9_copyOf ∈ gl_ := wg_ 1186 (by decide +kernel) rfl
set_option maxRecDepth 100000 in
theorem ws_X9_dayOfDate : Cond.selects RX9 yX9_dayOfDate yX9_dayOfDate ∈ gl_ := wg_ 725 (by decide +kernel) rfl
set_option maxRecDepth 100000 in
theorem ws_X9_hasLand : Cond.selects RX9 yX9_hasLand yX9_hasLand ∈ gl_ := wg_ 638 (by decide +kernel) rfl
set_option maxRecDepth 100000 in
theorem ws_X9_hasMonth : Cond.selects RX9 yX9_hasMonth yX9_hasMonth ∈ gl_ := wg_ 646 (by decide +kernel) rfl
set_option maxRecDepth 100000 in
theorem ws_X9_hasPlainDate : Cond.selects RX9 yX9_hasPlainDate yX9_hasPlainDate ∈ gl_ := wg_ 1096 (by decide +kernel) rfl
set_option maxRecDepth 100000 in
theorem ws_X9_insertFeast : Cond.selects RX9 yX9_insertFeast yX9_insertFeast ∈ gl_ := wg_ 609 (by decide +kernel) rfl
set_option maxRecDepth 100000 in
theorem ws_X9_latestFeastOf : Cond.selects RX9 yX9_latestFeastOf yX9_latestFeastOf ∈ gl_ := wg_ 1126 (by decide +kernel) rfl
set_option maxRecDepth 100000 in
theorem ws_X9_noteChange : Cond.selects RX9 yX9_noteChange yX9_noteChange ∈ gl_ := wg_ 1105 (by decide +kernel) rfl
set_option maxRecDepth 100000 in
theorem ws_X9_noteEnded : Cond.selects RX9 yX9_noteEnded yX9_noteEnded ∈ gl_ := wg_ 1130 (by decide +kernel) rfl
set_option maxRecDepth 100000 in
theorem ws_X9_noteFounded : Cond.selects RX9 yX9_noteFounded yX9_noteFounded ∈ gl_ := wg_ 1101 (by decide +kernel) rfl
set_option maxRecDepth 100000 in
theorem ws_X9_noteGranted : Cond.selects RX9 yX9_noteGranted yX9_noteGranted ∈ gl_ := wg_ 1118 (by decide +kernel) rfl
set_option maxRecDepth 100000 in
theorem ws_X9_removeFeast : Cond.selects RX9 yX9_removeFeast yX9_removeFeast ∈ gl_ := wg_ 1134 (by decide +kernel) rfl
set_option maxRecDepth 100000 in
theorem ws_X9_takeBackLatest : Cond.selects RX9 yX9_takeBackLatest yX9_takeBackLatest ∈ gl_ := wg_ 1142 (by decide +kernel) rfl
set_option maxRecDepth 100000 in
theorem ws_X9_trucesOn : Cond.selects RX9 yX9_trucesOn yX9_trucesOn ∈ gl_ := wg_ 993 (by decide +kernel) rfl
set_option maxRecDepth 100000 in
theorem wt_J0_checkIndex_df160 : Cond.static yJ0_checkIndex_df160 ∈ gl_ := wg_ 530 (by decide +kernel) rfl
set_option maxRecDepth 100000 in
theorem wt_J1_charAt_3b067 : Cond.static yJ1_charAt_3b067 ∈ gl_ := wg_ 527 (by decide +kernel) rfl
set_option maxRecDepth 100000 in
theorem wt_J2_charAt_3b067 : Cond.static yJ2_charAt_3b067 ∈ gl_ := wg_ 538 (by decide +kernel) rfl
set_option maxRecDepth 100000 in
theorem wt_J2_checkIndex_2214a : Cond.static yJ2_checkIndex_2214a ∈ gl_ := wg_ 541 (by decide +kernel) rfl
set_option maxRecDepth 100000 in
theorem wt_J2_getChar_3b067 : Cond.static yJ2_getChar_3b067 ∈ gl_ := wg_ 548 (by decide +kernel) rfl
set_option maxRecDepth 100000 in
theorem wt_J2_length_9d52b : Cond.static yJ2_length_9d52b ∈ gl_ := wg_ 544 (by decide +kernel) rfl
set_option maxRecDepth 100000 in
theorem wt_J3_checkIndex_8e157 : Cond.static yJ3_checkIndex_8e157 ∈ gl_ := wg_ 535 (by decide +kernel) rfl
set_option maxRecDepth 100000 in
theorem wt_J7_fill_031fb : Cond.static yJ7_fill_031fb ∈ gl_ := wg_ 688 (by decide +kernel) rfl
set_option maxRecDepth 100000 in
theorem wt_J7_fill_53178 : Cond.static yJ7_fill_53178 ∈ gl_ := wg_ 980 (by decide +kernel) rfl
set_option maxRecDepth 100000 in
theorem wt_J7_fill_d0a16 : Cond.static yJ7_fill_d0a16 ∈ gl_ := wg_ 1206 (by decide +kernel) rfl
set_option maxRecDepth 100000 in
theorem wt_J9_max_7cf53 : Cond.static yJ9_max_7cf53 ∈ gl_ := wg_ 918 (by decide +kernel) rfl
set_option maxRecDepth 100000 in
theorem wt_J9_min_7cf53 : Cond.static yJ9_min_7cf53 ∈ gl_ := wg_ 859 (by decide +kernel) rfl
set_option maxRecDepth 100000 in
theorem wt_X10_commonDivisor : Cond.static yX10_commonDivisor ∈ gl_ := wg_ 793 (by decide +kernel) rfl
set_option maxRecDepth 100000 in
theorem wt_X10_isDay : Cond.static yX10_isDay ∈ gl_ := wg_ 677 (by decide +kernel) rfl
set_option maxRecDepth 100000 in
theorem wt_X10_isRain : Cond.static yX10_isRain ∈ gl_ := wg_ 1150 (by decide +kernel) rfl
set_option maxRecDepth 100000 in
theorem wt_X10_isSlot : Cond.static yX10_isSlot ∈ gl_ := wg_ 884 (by decide +kernel) rfl
set_option maxRecDepth 100000 in
theorem wt_X10_isSpan : Cond.static yX10_isSpan ∈ gl_ := wg_ 761 (by decide +kernel) rfl
set_option maxRecDepth 100000 in
theorem wt_X10_isWet : Cond.static yX10_isWet ∈ gl_ := wg_ 1160 (by decide +kernel) rfl
set_option maxRecDepth 100000 in
theorem wt_X10_isYear : Cond.static yX10_isYear ∈ gl_ := wg_ 650 (by decide +kernel) rfl
set_option maxRecDepth 100000 in
theorem wt_X10_nextDraw : Cond.static yX10_nextDraw ∈ gl_ := wg_ 1154 (by decide +kernel) rfl
set_option maxRecDepth 100000 in
theorem wt_X11_behind : Cond.static yX11_behind ∈ gl_ := wg_ 1871 (by decide +kernel) rfl
set_option maxRecDepth 100000 in
theorem wt_X11_bestTake : Cond.static yX11_bestTake ∈ gl_ := wg_ 1868 (by decide +kernel) rfl
set_option maxRecDepth 100000 in
theorem wt_X11_bit : Cond.static yX11_bit ∈ gl_ := wg_ 1536 (by decide +kernel) rfl
set_option maxRecDepth 100000 in
theorem wt_X11_cut : Cond.static yX11_cut ∈ gl_ := wg_ 1934 (by decide +kernel) rfl
set_option maxRecDepth 100000 in
theorem wt_X11_divisor : Cond.static yX11_divisor ∈ gl_ := wg_ 1626 (by decide +kernel) rfl
set_option maxRecDepth 100000 in
theorem wt_X11_in : Cond.static yX11_in ∈ gl_ := wg_ 1354 (by decide +kernel) rfl
set_option maxRecDepth 100000 in
theorem wt_X11_isDay : Cond.static yX11_isDay ∈ gl_ := wg_ 1514 (by decide +kernel) rfl
set_option maxRecDepth 100000 in
theorem wt_X11_isSeed : Cond.static yX11_isSeed ∈ gl_ := wg_ 1905 (by decide +kernel) rfl
set_option maxRecDepth 100000 in
theorem wt_X11_isSlot : Cond.static yX11_isSlot ∈ gl_ := wg_ 1702 (by decide +kernel) rfl
set_option maxRecDepth 100000 in
theorem wt_X11_isSpan : Cond.static yX11_isSpan ∈ gl_ := wg_ 1603 (by decide +kernel) rfl
set_option maxRecDepth 100000 in
theorem wt_X11_isYear : Cond.static yX11_isYear ∈ gl_ := wg_ 1485 (by decide +kernel) rfl
set_option maxRecDepth 100000 in
theorem wt_X11_rank : Cond.static yX11_rank ∈ gl_ := wg_ 1874 (by decide +kernel) rfl
set_option maxRecDepth 100000 in
theorem wt_X11_spot : Cond.static yX11_spot ∈ gl_ := wg_ 1525 (by decide +kernel) rfl
set_option maxRecDepth 100000 in
theorem wt_X11_turn : Cond.static yX11_turn ∈ gl_ := wg_ 1865 (by decide +kernel) rfl
set_option maxRecDepth 100000 in
theorem wa_X1_40 : Cond.methodLink RX1 40 arraycopyName ∈ gl_ ∧ Cond.native arraycopyName ∈ gl_ ∧ Cond.static arraycopyName ∈ gl_ ∧ Cond.initialized "java/lang/System" ∈ gl_ := ⟨wg_ 1192 (by decide +kernel) rfl, wg_ 613 (by decide +kernel) rfl, wg_ 612 (by decide +kernel) rfl, wg_ 94 (by decide +kernel) rfl⟩
set_option maxRecDepth 100000 in
theorem wa_X9_51 : Cond.methodLink RX9 51 arraycopyName ∈ gl_ ∧ Cond.native arraycopyName ∈ gl_ ∧ Cond.static arraycopyName ∈ gl_ ∧ Cond.initialized "java/lang/System" ∈ gl_ := ⟨wg_ 611 (by decide +kernel) rfl, wg_ 613 (by decide +kernel) rfl, wg_ 612 (by decide +kernel) rfl, wg_ 94 (by decide +kernel) rfl⟩
set_option maxRecDepth 100000 in
theorem wa_X10_423 : Cond.methodLink RX10 423 arraycopyName ∈ gl_ ∧ Cond.native arraycopyName ∈ gl_ ∧ Cond.static arraycopyName ∈ gl_ ∧ Cond.initialized "java/lang/System" ∈ gl_ := ⟨wg_ 1224 (by decide +kernel) rfl, wg_ 613 (by decide +kernel) rfl, wg_ 612 (by decide +kernel) rfl, wg_ 94 (by decide +kernel) rfl⟩
end
section
/-- the shapes: kind (0 an object of class c, 1 int[], 2 byte[], 3 boolean[], 4 long[], 5 an array of references to class c), c, how many slots -/
def KTL_ : List (Nat × Nat × Nat) := [(0, 10, 14), (0, 8, 2), (2, 0, 1200), (0, 3, 8), (2, 0, 0), (0, 9, 10), (5, 1, 3), (1, 0, 48), (1, 0, 36), (1, 0, 360), (0, 1, 9), (1, 0, 8), (5, 9, 3), (3, 0, 3), (5, 4, 4), (0, 0, 9), (1, 0, 6000), (2, 0, 6000), (2, 0, 2000), (0, 5, 3), (3, 0, 69), (0, 2, 3), (1, 0, 15), (1, 0, 15), (0, 6, 5), (1, 0, 2000), (1, 0, 12), (0, 7, 5), (1, 0, 40), (1, 0, 41), (0, 4, 4), (4, 0, 60), (0, 11, 39), (1, 0, 495), (1, 0, 1485), (3, 0, 3), (2, 0, 1200), (1, 0, 5), (1, 0, 495), (1, 0, 6000), (1, 0, 6000), (1, 0, 6000), (1, 0, 6000), (3, 0, 70), (1, 0, 12), (1, 0, 41), (1, 0, 41), (1, 0, 41), (1, 0, 4), (1, 0, 4), (4, 0, 240), (4, 0, 60), (9, 0, 0), (9, 0, 0), (9, 0, 0), (9, 0, 0), (9, 0, 0), (9, 0, 0), (9, 0, 0), (9, 0, 0), (0, 0, 9), (0, 1, 9), (0, 2, 3), (0, 3, 8), (0, 4, 4), (0, 5, 3), (0, 6, 5), (0, 7, 5), (0, 8, 2), (0, 9, 10), (0, 10, 14), (0, 11, 39), (9, 0, 0), (9, 0, 0), (9, 0, 0), (9, 0, 0), (9, 0, 0), (9, 0, 0), (9, 0, 0), (9, 0, 0), (5, 1, 3), (5, 9, 3), (5, 4, 4)]
def KT_ (sh : Nat) : Nat × Nat × Nat := KTL_.getD sh (9, 0, 0)
def tys_Two (j : Nat) : Nat × Int × Int := match j with
  | 0 => (11, 0, 1000)
  | 1 => (13, 0, 1000)
  | 2 => (15, 0, 1000)
  | 3 => (15, 0, 1000)
  | 4 => (22, 0, 1000)
  | 5 => (23, 0, 1000)
  | 6 => (24, 0, 1000)
  | 7 => (25, 0, 1000)
  | 8 => (29, 0, 1000)
  | 9 => (31, 0, 1000)
  | 10 => (34, 0, 1000)
  | 11 => (37, 0, 1000)
  | 12 => (0, 0, 3)
  | _ => (0, (-1), 1200)
def tys_Tape (j : Nat) : Nat × Int × Int := match j with
  | 0 => (12, 0, 1000)
  | _ => (0, 0, 1200)
def tys_Reader (j : Nat) : Nat × Int × Int := match j with
  | 0 => (2, (-1), 1000)
  | 1 => (0, 0, 1200)
  | 2 => (0, 0, 4)
  | 3 => (0, 0, 1200)
  | 4 => (0, 0, 1200)
  | 5 => (0, 0, 1000009)
  | 6 => (0, 0, 3)
  | _ => (0, (-1), 1200)
def tys_War (j : Nat) : Nat × Int × Int := match j with
  | 0 => (0, 0, 1201)
  | 1 => (0, 0, 100)
  | 2 => (0, 0, 3)
  | 3 => (0, 0, 12)
  | 4 => (0, 0, 12)
  | 5 => (0, 0, 60)
  | 6 => (16, 0, 1000)
  | 7 => (17, 0, 1000)
  | 8 => (18, 0, 1000)
  | _ => (19, 0, 1000)
def tys_Land (j : Nat) : Nat × Int × Int := match j with
  | 0 => (0, 0, 999)
  | 1 => (0, 0, 10)
  | 2 => (0, 0, 1022)
  | 3 => (0, 0, 8)
  | 4 => (0, 0, 9)
  | 5 => (0, (-1), 7)
  | 6 => (0, 0, 9)
  | 7 => (0, 0, 480)
  | _ => (21, 0, 1000)
def tys_Almanac (j : Nat) : Nat × Int × Int := match j with
  | 0 => (26, 0, 1000)
  | 1 => (27, 0, 1000)
  | 2 => (28, 0, 1000)
  | 3 => (0, 0, 1)
  | 4 => (0, (-2147483648), 2147483647)
  | 5 => (0, (-2147483648), 2147483647)
  | 6 => (0, (-2147483648), 2147483647)
  | 7 => (0, (-2147483648), 2147483647)
  | _ => (0, (-2147483648), 2147483647)
def tys_Saints (j : Nat) : Nat × Int × Int := match j with
  | 0 => (30, 0, 1000)
  | 1 => (0, (-1), 69)
  | _ => (1, (-9223372036854775808), 9223372036854775807)
def tys_Orders (j : Nat) : Nat × Int × Int := match j with
  | 0 => (32, 0, 1000)
  | 1 => (33, 0, 1000)
  | _ => (0, 0, 15)
def tys_Seen (j : Nat) : Nat × Int × Int := match j with
  | 0 => (35, 0, 1000)
  | 1 => (0, 0, 2000)
  | 2 => (36, 0, 1000)
  | 3 => (0, (-2147483648), 2147483647)
  | _ => (0, (-2147483648), 2147483647)
def tys_Stones (j : Nat) : Nat × Int × Int := match j with
  | 0 => (38, 0, 1000)
  | 1 => (0, 0, 40)
  | 2 => (39, 0, 1000)
  | 3 => (0, (-2147483648), 2147483647)
  | _ => (0, (-2147483648), 2147483647)
def tys_Row (j : Nat) : Nat × Int × Int := match j with
  | 0 => (41, 0, 1000)
  | 1 => (0, 0, 1)
  | 2 => (0, 0, 3)
  | _ => (0, 0, 60)
def tys_Model (j : Nat) : Nat × Int × Int := match j with
  | 0 => (0, (-2147483648), 2147483647)
  | 1 => (43, 0, 1000)
  | 2 => (44, 0, 1000)
  | 3 => (45, 0, 1000)
  | 4 => (46, 0, 1000)
  | 5 => (0, 0, 1200)
  | 6 => (47, 0, 1000)
  | 7 => (0, 0, 1200)
  | 8 => (0, 0, 1200)
  | 9 => (0, 0, 1200)
  | 10 => (0, 0, 4)
  | 11 => (0, 0, 99999)
  | 12 => (0, 0, 3)
  | 13 => (0, (-1), 1200)
  | 14 => (48, 0, 1000)
  | 15 => (49, 0, 1000)
  | 16 => (50, 0, 1000)
  | 17 => (51, 0, 1000)
  | 18 => (52, 0, 1000)
  | 19 => (0, (-2147483648), 2147483647)
  | 20 => (0, (-2147483648), 2147483647)
  | 21 => (53, 0, 1000)
  | 22 => (0, (-1), 70)
  | 23 => (1, (-9223372036854775808), 9223372036854775807)
  | 24 => (54, 0, 1000)
  | 25 => (0, (-2147483648), 2147483647)
  | 26 => (0, (-2147483648), 2147483647)
  | 27 => (0, (-2147483648), 2147483647)
  | 28 => (0, (-2147483648), 2147483647)
  | 29 => (55, 0, 1000)
  | 30 => (56, 0, 1000)
  | 31 => (57, 0, 1000)
  | 32 => (0, 0, 100)
  | 33 => (0, 0, 100)
  | 34 => (0, 0, 100)
  | 35 => (58, 0, 1000)
  | 36 => (59, 0, 1000)
  | 37 => (60, 0, 1000)
  | _ => (61, 0, 1000)
def tyr_Almanac (j : Nat) : Nat × Int × Int := match j with
  | 0 => (2, (-1), 1000)
  | 1 => (2, (-1), 1000)
  | 2 => (2, (-1), 1000)
  | 3 => (0, 0, 1)
  | 4 => (0, (-2147483648), 2147483647)
  | 5 => (0, (-2147483648), 2147483647)
  | 6 => (0, (-2147483648), 2147483647)
  | 7 => (0, (-2147483648), 2147483647)
  | _ => (0, (-2147483648), 2147483647)
def tyr_Land (j : Nat) : Nat × Int × Int := match j with
  | 0 => (0, (-2147483648), 2147483647)
  | 1 => (0, (-2147483648), 2147483647)
  | 2 => (0, (-2147483648), 2147483647)
  | 3 => (0, (-2147483648), 2147483647)
  | 4 => (0, (-2147483648), 2147483647)
  | 5 => (0, (-2147483648), 2147483647)
  | 6 => (0, (-2147483648), 2147483647)
  | 7 => (0, (-2147483648), 2147483647)
  | _ => (2, (-1), 1000)
def tyr_Orders (j : Nat) : Nat × Int × Int := match j with
  | 0 => (2, (-1), 1000)
  | 1 => (2, (-1), 1000)
  | _ => (0, (-2147483648), 2147483647)
def tyr_Reader (j : Nat) : Nat × Int × Int := match j with
  | 0 => (2, (-1), 1000)
  | 1 => (0, (-2147483648), 2147483647)
  | 2 => (0, (-2147483648), 2147483647)
  | 3 => (0, (-2147483648), 2147483647)
  | 4 => (0, (-2147483648), 2147483647)
  | 5 => (0, (-2147483648), 2147483647)
  | 6 => (0, (-2147483648), 2147483647)
  | _ => (0, (-2147483648), 2147483647)
def tyr_Row (j : Nat) : Nat × Int × Int := match j with
  | 0 => (2, (-1), 1000)
  | 1 => (0, 0, 1)
  | 2 => (0, (-2147483648), 2147483647)
  | _ => (0, (-2147483648), 2147483647)
def tyr_Saints (j : Nat) : Nat × Int × Int := match j with
  | 0 => (2, (-1), 1000)
  | 1 => (0, (-2147483648), 2147483647)
  | _ => (1, (-9223372036854775808), 9223372036854775807)
def tyr_Seen (j : Nat) : Nat × Int × Int := match j with
  | 0 => (2, (-1), 1000)
  | 1 => (0, (-2147483648), 2147483647)
  | 2 => (2, (-1), 1000)
  | 3 => (0, (-2147483648), 2147483647)
  | _ => (0, (-2147483648), 2147483647)
def tyr_Stones (j : Nat) : Nat × Int × Int := match j with
  | 0 => (2, (-1), 1000)
  | 1 => (0, (-2147483648), 2147483647)
  | 2 => (2, (-1), 1000)
  | 3 => (0, (-2147483648), 2147483647)
  | _ => (0, (-2147483648), 2147483647)
def tyr_Tape (j : Nat) : Nat × Int × Int := match j with
  | 0 => (2, (-1), 1000)
  | _ => (0, (-2147483648), 2147483647)
def tyr_War (j : Nat) : Nat × Int × Int := match j with
  | 0 => (0, (-2147483648), 2147483647)
  | 1 => (0, (-2147483648), 2147483647)
  | 2 => (0, (-2147483648), 2147483647)
  | 3 => (0, (-2147483648), 2147483647)
  | 4 => (0, (-2147483648), 2147483647)
  | 5 => (0, (-2147483648), 2147483647)
  | 6 => (2, (-1), 1000)
  | 7 => (2, (-1), 1000)
  | 8 => (2, (-1), 1000)
  | _ => (2, (-1), 1000)
def tyr_Two (j : Nat) : Nat × Int × Int := match j with
  | 0 => (2, (-1), 1000)
  | 1 => (2, (-1), 1000)
  | 2 => (2, (-1), 1000)
  | 3 => (2, (-1), 1000)
  | 4 => (2, (-1), 1000)
  | 5 => (2, (-1), 1000)
  | 6 => (2, (-1), 1000)
  | 7 => (2, (-1), 1000)
  | 8 => (2, (-1), 1000)
  | 9 => (2, (-1), 1000)
  | 10 => (2, (-1), 1000)
  | 11 => (2, (-1), 1000)
  | 12 => (0, (-2147483648), 2147483647)
  | _ => (0, (-2147483648), 2147483647)
def tyr_Model (j : Nat) : Nat × Int × Int := match j with
  | 0 => (0, (-2147483648), 2147483647)
  | 1 => (2, (-1), 1000)
  | 2 => (2, (-1), 1000)
  | 3 => (2, (-1), 1000)
  | 4 => (2, (-1), 1000)
  | 5 => (0, (-2147483648), 2147483647)
  | 6 => (2, (-1), 1000)
  | 7 => (0, (-2147483648), 2147483647)
  | 8 => (0, (-2147483648), 2147483647)
  | 9 => (0, (-2147483648), 2147483647)
  | 10 => (0, (-2147483648), 2147483647)
  | 11 => (0, (-2147483648), 2147483647)
  | 12 => (0, (-2147483648), 2147483647)
  | 13 => (0, (-2147483648), 2147483647)
  | 14 => (2, (-1), 1000)
  | 15 => (2, (-1), 1000)
  | 16 => (2, (-1), 1000)
  | 17 => (2, (-1), 1000)
  | 18 => (2, (-1), 1000)
  | 19 => (0, (-2147483648), 2147483647)
  | 20 => (0, (-2147483648), 2147483647)
  | 21 => (2, (-1), 1000)
  | 22 => (0, (-2147483648), 2147483647)
  | 23 => (1, (-9223372036854775808), 9223372036854775807)
  | 24 => (2, (-1), 1000)
  | 25 => (0, (-2147483648), 2147483647)
  | 26 => (0, (-2147483648), 2147483647)
  | 27 => (0, (-2147483648), 2147483647)
  | 28 => (0, (-2147483648), 2147483647)
  | 29 => (2, (-1), 1000)
  | 30 => (2, (-1), 1000)
  | 31 => (2, (-1), 1000)
  | 32 => (0, (-2147483648), 2147483647)
  | 33 => (0, (-2147483648), 2147483647)
  | 34 => (0, (-2147483648), 2147483647)
  | 35 => (2, (-1), 1000)
  | 36 => (2, (-1), 1000)
  | 37 => (2, (-1), 1000)
  | _ => (2, (-1), 1000)
/-- the type of slot j of a shape: tag, least, greatest -/
def ty_ (sh j : Nat) : Nat × Int × Int := match sh with
  | 0 => tys_Two j
  | 1 => tys_Tape j
  | 2 => (0, (-128), 127)
  | 3 => tys_Reader j
  | 4 => (0, (-128), 127)
  | 5 => tys_War j
  | 6 => (20, 0, 1000)
  | 7 => (0, 0, 59)
  | 8 => (0, 0, 1999)
  | 9 => (0, 0, 59)
  | 10 => tys_Land j
  | 11 => (0, 0, 60)
  | 12 => (15, 0, 1000)
  | 13 => (0, 0, 1)
  | 14 => (40, 0, 1000)
  | 15 => tys_Almanac j
  | 16 => (0, (-1), 2147483647)
  | 17 => (0, (-128), 127)
  | 18 => (0, (-128), 127)
  | 19 => tys_Saints j
  | 20 => (0, 0, 1)
  | 21 => tys_Orders j
  | 22 => (0, 0, 1999)
  | 23 => (0, (-2), 1999)
  | 24 => tys_Seen j
  | 25 => (0, 0, 1999)
  | 26 => (0, 0, 2000)
  | 27 => tys_Stones j
  | 28 => (0, (-2147483648), 2147483647)
  | 29 => (0, (-2147483648), 2147483647)
  | 30 => tys_Row j
  | 31 => (1, (-9223372036854775808), 9223372036854775807)
  | 32 => tys_Model j
  | 33 => (0, (-1), 1999)
  | 34 => (0, (-1), 1999)
  | 35 => (0, 0, 1)
  | 36 => (0, (-128), 127)
  | 37 => (0, (-2147483648), 2147483647)
  | 38 => (0, (-1), 1999)
  | 39 => (0, (-1), 2000)
  | 40 => (0, (-1), 7)
  | 41 => (0, (-1), 68)
  | 42 => (0, 0, 4)
  | 43 => (0, 0, 1)
  | 44 => (0, 0, 2000)
  | 45 => (0, (-2147483648), 2147483647)
  | 46 => (0, (-2147483648), 2147483647)
  | 47 => (0, (-2147483648), 2147483647)
  | 48 => (0, (-1), 60)
  | 49 => (0, 0, 3)
  | 50 => (1, (-9223372036854775808), 9223372036854775807)
  | 51 => (1, (-9223372036854775808), 9223372036854775807)
  | 60 => tyr_Almanac j
  | 61 => tyr_Land j
  | 62 => tyr_Orders j
  | 63 => tyr_Reader j
  | 64 => tyr_Row j
  | 65 => tyr_Saints j
  | 66 => tyr_Seen j
  | 67 => tyr_Stones j
  | 68 => tyr_Tape j
  | 69 => tyr_War j
  | 70 => tyr_Two j
  | 71 => tyr_Model j
  | 80 => (2, (-1), 1000)
  | 81 => (2, (-1), 1000)
  | 82 => (2, (-1), 1000)
  | _ => (9, 0, 0)
def rt_Two (k : Int) (j : Nat) : Option Int := match j with
  | 0 => some (1)
  | 1 => some (3)
  | 4 => some (27)
  | 5 => some (28)
  | 6 => some (29)
  | 7 => some (30)
  | 8 => some (34)
  | 9 => some (36)
  | 10 => some (39)
  | 11 => some (42)
  | _ => none
def rt_Tape (k : Int) (j : Nat) : Option Int := match j with
  | 0 => some (2)
  | _ => none
def rt_War (k : Int) (j : Nat) : Option Int := match j with
  | 6 => some (k + 1)
  | 7 => some (k + 2)
  | 8 => some (k + 3)
  | 9 => some (k + 4)
  | _ => none
def rt_Land (k : Int) (j : Nat) : Option Int := match j with
  | 8 => some (k + 1)
  | _ => none
def rt_Almanac (k : Int) (j : Nat) : Option Int := match j with
  | 0 => some (31)
  | 1 => some (32)
  | 2 => some (33)
  | _ => none
def rt_Saints (k : Int) (j : Nat) : Option Int := match j with
  | 0 => some (35)
  | _ => none
def rt_Orders (k : Int) (j : Nat) : Option Int := match j with
  | 0 => some (37)
  | 1 => some (38)
  | _ => none
def rt_Seen (k : Int) (j : Nat) : Option Int := match j with
  | 0 => some (40)
  | 2 => some (41)
  | _ => none
def rt_Stones (k : Int) (j : Nat) : Option Int := match j with
  | 0 => some (43)
  | 2 => some (44)
  | _ => none
def rt_Row (k : Int) (j : Nat) : Option Int := match j with
  | 0 => some (k + 1)
  | _ => none
def rt_Model (k : Int) (j : Nat) : Option Int := match j with
  | 1 => some (87)
  | 2 => some (88)
  | 3 => some (89)
  | 4 => some (90)
  | 6 => some (91)
  | 14 => some (92)
  | 15 => some (93)
  | 16 => some (94)
  | 17 => some (95)
  | 18 => some (96)
  | 21 => some (97)
  | 24 => some (98)
  | 29 => some (99)
  | 30 => some (100)
  | 31 => some (101)
  | 35 => some (102)
  | 36 => some (103)
  | 37 => some (104)
  | 38 => some (105)
  | _ => none
/-- the object that a reference of object k of a shape is (slot j, or place z of an array), where it is always the same -/
def rt_ (sh : Nat) (k : Int) (j : Nat) (z : Int) : Option Int := match sh with
  | 0 => rt_Two k j
  | 1 => rt_Tape k j
  | 5 => rt_War k j
  | 6 => some (k + 4 + 2 * z)
  | 10 => rt_Land k j
  | 12 => some (45 + 11 * z)
  | 14 => some (78 + 2 * z)
  | 15 => rt_Almanac k j
  | 19 => rt_Saints k j
  | 21 => rt_Orders k j
  | 24 => rt_Seen k j
  | 27 => rt_Stones k j
  | 30 => rt_Row k j
  | 32 => rt_Model k j
  | _ => none
def warS_ : List Nat := [5, 6, 7, 8, 9, 10, 11, 10, 11, 10, 11]
def SHS_ : List Nat := [0, 1, 2, 3, 4, 5, 6, 7, 8, 9, 10, 11, 10, 11, 10, 11, 5, 6, 7, 8, 9, 10, 11, 10, 11, 10, 11, 12, 13, 14, 15, 16, 17, 18, 19, 20, 21, 22, 23, 24, 25, 26, 27, 28, 29, 5, 6, 7, 8, 9, 10, 11, 10, 11, 10, 11, 5, 6, 7, 8, 9, 10, 11, 10, 11, 10, 11, 5, 6, 7, 8, 9, 10, 11, 10, 11, 10, 11, 30, 31, 30, 31, 30, 31, 30, 31, 32, 33, 34, 35, 36, 37, 38, 39, 40, 41, 42, 43, 44, 45, 46, 47, 48, 49, 50, 51]
abbrev cls_ : List vw_C := [(RX0, TX0, 9), (RX1, TX1, 9), (RX2, TX2, 3), (RX3, TX3, 8), (RX4, TX4, 4), (RX5, TX5, 3), (RX6, TX6, 5), (RX7, TX7, 5), (RX8, TX8, 2), (RX9, TX9, 10), (RX10, TX10, 14), (RX11, TX11, 39)]
def tyF_ (c j : Nat) : FieldType := match c with
  | 0 => tyX0 j
  | 1 => tyX1 j
  | 2 => tyX2 j
  | 3 => tyX3 j
  | 4 => tyX4 j
  | 5 => tyX5 j
  | 6 => tyX6 j
  | 7 => tyX7 j
  | 8 => tyX8 j
  | 9 => tyX9 j
  | 10 => tyX10 j
  | 11 => tyX11 j
  | _ => .int
end
section
/-! THE MEMORY AS NUMBERS. A value is a pair (tag, z): 0 an int, 1 a long, 2 a reference that may be null or of any shape, 4 a fixed address (0 the script, i + 1 a string constant), 9 nothing, 10 + sh a reference to an object of shape sh. A memory gives each slot of each object its number. -/
abbrev Sv_t : Type := Nat × Int
abbrev Me_t : Type := Int → Int → Int
def val_ (cs : Nat → Nat) (ad : List Nat) (v : Sv_t) : Value := match v.1 with
  | 0 => .int (Int32.ofInt v.2)
  | 1 => .long (Int64.ofInt v.2)
  | 4 => .ref (cs v.2.toNat)
  | _ => if v.2 < 0 then .null else .ref (ad.getD v.2.toNat 0)
/-- the value is one of its tag -/
def tv_ (shs : List Nat) (v : Sv_t) : Prop := match v.1 with
  | 0 => -2147483648 ≤ v.2 ∧ v.2 ≤ 2147483647
  | 1 => -9223372036854775808 ≤ v.2 ∧ v.2 ≤ 9223372036854775807
  | 2 => v.2 < 0 ∨ v.2.toNat < shs.length
  | 4 => True
  | 9 => True
  | t + 10 => 0 ≤ v.2 ∧ shs[v.2.toNat]? = some t
  | _ => False
def sz_ (sh : Nat) : Nat := (KT_ sh).2.2
/-- z may stand in slot j (place j) of object k of shape sh -/
def ok_ (shs : List Nat) (sh : Nat) (k : Int) (j : Nat) (z : Int) : Prop := tv_ shs ((ty_ sh j).1, z) ∧ ((ty_ sh j).1 < 2 → (ty_ sh j).2.1 ≤ z ∧ z ≤ (ty_ sh j).2.2) ∧ ∀ r, rt_ sh k j (j : Int) = some r → z = r
def MT_ (shs : List Nat) (σ : Me_t) : Prop := ∀ (k sh : Nat), shs[k]? = some sh → ∀ j : Nat, j < sz_ sh → ok_ shs sh (k : Int) j (σ (k : Int) (j : Int))
def ups_ (σ : Me_t) (o j z : Int) : Me_t := fun a b => if a = o ∧ b = j then z else σ a b
theorem ups_s {σ : Me_t} {o j z : Int} : ups_ σ o j z o j = z := by simp [ups_]
theorem ups_n {σ : Me_t} {o j z a b : Int} (h : a ≠ o ∨ b ≠ j) : ups_ σ o j z a b = σ a b := by
  unfold ups_
  rw [if_neg]
  rintro ⟨h1, h2⟩
  rcases h with h | h
  · exact h h1
  · exact h h2
def ent_ (cs : Nat → Nat) (tc : Nat → ClassId) (ad : List Nat) (sh : Nat) (f : Int → Int) : va_E := match KT_ sh with
  | (0, c, n) => .inr (c, (List.range n).map fun j => val_ cs ad ((ty_ sh j).1, f j))
  | (4, _, n) => .inl (tc 4, n, .inr (.inl fun j => Int64.ofInt (f j)))
  | (5, c, n) => .inl (tc (5 + c), n, .inr (.inr (.inr (.inr fun j => if f j < 0 then none else some (ad.getD (f j).toNat 0)))))
  | (a, _, n) => .inl (tc a, n, .inl fun j => Int32.ofInt (f j))
def wl_ (cs : Nat → Nat) (tc : Nat → ClassId) (ad shs : List Nat) (σ : Me_t) : va_W := shs.zipIdx.map fun q => (ad.getD q.2 0, ent_ cs tc ad q.1 (σ q.2))
theorem wl_get {cs : Nat → Nat} {tc : Nat → ClassId} {ad shs : List Nat} {σ : Me_t} {k sh : Nat} (h : shs[k]? = some sh) : (wl_ cs tc ad shs σ)[k]? = some (ad.getD k 0, ent_ cs tc ad sh (σ k)) := by
  simp [wl_, List.getElem?_zipIdx, h]
theorem wl_len {cs : Nat → Nat} {tc : Nat → ClassId} {ad shs : List Nat} {σ : Me_t} : (wl_ cs tc ad shs σ).length = shs.length := by simp [wl_]
theorem wl_none {cs : Nat → Nat} {tc : Nat → ClassId} {ad shs : List Nat} {σ : Me_t} {k : Nat} (h : shs[k]? = none) : (wl_ cs tc ad shs σ)[k]? = none := by
  simp [wl_, List.getElem?_zipIdx, h]
theorem wl_set {cs : Nat → Nat} {tc : Nat → ClassId} {ad shs : List Nat} {σ σ' : Me_t} {k sh : Nat} (h : shs[k]? = some sh) {e : va_E} (he : e = ent_ cs tc ad sh (σ' k)) (hne : ∀ a : Nat, a ≠ k → σ' a = σ a) : (wl_ cs tc ad shs σ).set k (ad.getD k 0, e) = wl_ cs tc ad shs σ' := by
  subst he
  apply List.ext_getElem?
  intro i
  by_cases hi : i = k
  · subst hi
    rw [wl_get h, List.getElem?_set_self (by rw [wl_len]; exact (List.getElem?_eq_some_iff.mp h).1)]
  · rw [List.getElem?_set_ne (Ne.symm hi)]
    cases hs : shs[i]? with
    | none => rw [wl_none hs, wl_none hs]
    | some q => rw [wl_get hs, wl_get hs, hne i hi]
/-- the locals -/
def lh_ (cs : Nat → Nat) (ad : List Nat) (L : List Sv_t) (ls : Array Slot) : Prop := ls.size = L.length ∧ lv_wf ls ∧ ∀ (j : Nat) (v : Sv_t), L[j]? = some v → v.1 ≠ 9 → ls[j]? = some (.val (val_ cs ad v))
def lvp_ (cs : Nat → Nat) (ad : List Nat) (L : List Sv_t) : List (Nat × Value) := L.zipIdx.filterMap fun q => if q.1.1 = 9 then none else some (q.2, val_ cs ad q.1)
theorem lvp_mem {cs : Nat → Nat} {ad : List Nat} {L : List Sv_t} {j : Nat} {w : Value} : (j, w) ∈ lvp_ cs ad L ↔ ∃ v : Sv_t, L[j]? = some v ∧ v.1 ≠ 9 ∧ val_ cs ad v = w := by
  unfold lvp_
  rw [List.mem_filterMap]
  constructor
  · rintro ⟨⟨v, i⟩, h1, h2⟩
    have h3 := List.mem_zipIdx_iff_getElem?.mp h1
    by_cases h9 : v.1 = 9
    · simp [h9] at h2
    · simp [h9] at h2
      obtain ⟨rfl, rfl⟩ := h2
      exact ⟨v, h3, h9, rfl⟩
  · rintro ⟨v, h1, h2, rfl⟩
    exact ⟨(v, j), List.mem_zipIdx_iff_getElem?.mpr h1, by simp [h2]⟩
theorem lh_has {cs : Nat → Nat} {ad : List Nat} {L : List Sv_t} {ls : Array Slot} (h : lh_ cs ad L ls) : lv_has ls L.length (lvp_ cs ad L) := by
  refine ⟨h.1, h.2.1, fun q hq => ?_⟩
  obtain ⟨j, w⟩ := q
  obtain ⟨v, h1, h2, rfl⟩ := lvp_mem.mp hq
  exact h.2.2 j v h1 h2
theorem lh_of {cs : Nat → Nat} {ad : List Nat} {L : List Sv_t} {ls : Array Slot} {n : Nat} {l : List (Nat × Value)} (h : lv_has ls n l) (hn : n = L.length) (hm : ∀ (j : Nat) (v : Sv_t), L[j]? = some v → v.1 ≠ 9 → (j, val_ cs ad v) ∈ l) : lh_ cs ad L ls :=
  ⟨by rw [h.1, hn], h.2.1, fun j v h1 h2 => h.2.2 _ (hm j v h1 h2)⟩
/-- a store into local n: a long that it cuts is gone -/
def ls0_ (L : List Sv_t) (n : Nat) : List Sv_t := match n with
  | 0 => L
  | m + 1 => match L[m]? with
    | some (1, _) => L.set m (9, 0)
    | _ => L
def ls1_ (L : List Sv_t) (n : Nat) (v : Sv_t) : List Sv_t := (ls0_ L n).set n v
def ls2_ (L : List Sv_t) (n : Nat) (v : Sv_t) : List Sv_t := ((ls0_ L n).set n v).set (n + 1) (9, 0)
theorem ls0_len {L : List Sv_t} {n : Nat} : (ls0_ L n).length = L.length := by
  unfold ls0_
  split
  · rfl
  · split <;> simp
theorem ls0_get {L : List Sv_t} {n j : Nat} {v : Sv_t} (h : (ls0_ L n)[j]? = some v) (h9 : v.1 ≠ 9) : L[j]? = some v ∧ ¬ (j + 1 = n ∧ v.1 = 1) := by
  unfold ls0_ at h
  split at h
  · exact ⟨h, fun q => by omega⟩
  next m =>
    split at h
    next z hz =>
      by_cases hj : j = m
      · subst hj
        rw [List.getElem?_set_self (List.getElem?_eq_some_iff.mp hz).1] at h
        cases h
        exact absurd rfl h9
      · rw [List.getElem?_set_ne (Ne.symm hj)] at h
        exact ⟨h, fun q => by omega⟩
    next hn =>
      refine ⟨h, fun q => ?_⟩
      obtain ⟨q1, q2⟩ := q
      have : j = m := by omega
      subst this
      obtain ⟨a, b⟩ := v
      simp only at q2
      subst q2
      exact hn b h
theorem val_cat {cs : Nat → Nat} {ad : List Nat} {v : Sv_t} : (val_ cs ad v).category = if v.1 = 1 then 2 else 1 := by
  obtain ⟨t, z⟩ := v
  unfold val_
  split
  next h => simp only at h; subst h; rfl
  next h => simp only at h; subst h; rfl
  next h => simp only at h; subst h; rfl
  next h1 h2 h3 =>
    have e : (if (t, z).1 = 1 then 2 else 1) = 1 := if_neg h2
    rw [e]
    by_cases hz : z < 0
    · simp [hz, Value.category]
    · simp [hz, Value.category]
theorem lh_st1 {cs : Nat → Nat} {ad : List Nat} {L : List Sv_t} {ls' : Array Slot} {n : Nat} {v : Sv_t} (hn : n < L.length) (h : lv_has ls' L.length ((n, val_ cs ad v) :: (lvp_ cs ad L).filter (fun q => !(q.1 == n) && !(q.1 + 1 == n && q.2.category == 2)))) : lh_ cs ad (ls1_ L n v) ls' := by
  refine lh_of h (by simp [ls1_, ls0_len]) fun j w hj h9 => ?_
  unfold ls1_ at hj
  by_cases e : j = n
  · subst e
    rw [List.getElem?_set_self (by rw [ls0_len]; exact hn)] at hj
    cases hj
    exact List.mem_cons_self
  · rw [List.getElem?_set_ne (Ne.symm e)] at hj
    obtain ⟨h1, h2⟩ := ls0_get hj h9
    refine List.mem_cons_of_mem _ (List.mem_filter.mpr ⟨lvp_mem.mpr ⟨w, h1, h9, rfl⟩, ?_⟩)
    simp only [Bool.and_eq_true, Bool.not_eq_true', beq_eq_false_iff_ne, ne_eq, Bool.and_eq_false_iff]
    refine ⟨e, ?_⟩
    by_cases q : j + 1 = n
    · refine Or.inr fun c => h2 ⟨q, ?_⟩
      rw [val_cat] at c
      by_cases t : w.1 = 1
      · exact t
      · rw [if_neg t] at c; omega
    · exact Or.inl q
theorem lh_st2 {cs : Nat → Nat} {ad : List Nat} {L : List Sv_t} {ls' : Array Slot} {n : Nat} {v : Sv_t} (hn : n + 1 < L.length) (h : lv_has ls' L.length ((n, val_ cs ad v) :: (lvp_ cs ad L).filter (fun q => !(q.1 == n) && (!(q.1 == n + 1) && !(q.1 + 1 == n && q.2.category == 2))))) : lh_ cs ad (ls2_ L n v) ls' := by
  refine lh_of h (by simp [ls2_, ls0_len]) fun j w hj h9 => ?_
  unfold ls2_ at hj
  by_cases e1 : j = n + 1
  · subst e1
    rw [List.getElem?_set_self (by simp [ls0_len]; exact hn)] at hj
    cases hj
    exact absurd rfl h9
  · rw [List.getElem?_set_ne (Ne.symm e1)] at hj
    by_cases e : j = n
    · subst e
      rw [List.getElem?_set_self (by rw [ls0_len]; omega)] at hj
      cases hj
      exact List.mem_cons_self
    · rw [List.getElem?_set_ne (Ne.symm e)] at hj
      obtain ⟨h1, h2⟩ := ls0_get hj h9
      refine List.mem_cons_of_mem _ (List.mem_filter.mpr ⟨lvp_mem.mpr ⟨w, h1, h9, rfl⟩, ?_⟩)
      simp only [Bool.and_eq_true, Bool.not_eq_true', beq_eq_false_iff_ne, ne_eq, Bool.and_eq_false_iff]
      refine ⟨e, e1, ?_⟩
      by_cases q : j + 1 = n
      · refine Or.inr fun c => h2 ⟨q, ?_⟩
        rw [val_cat] at c
        by_cases t : w.1 = 1
        · exact t
        · rw [if_neg t] at c; omega
      · exact Or.inl q
theorem ls1_tv {shs : List Nat} {L : List Sv_t} {n : Nat} {v : Sv_t} (h : ∀ w ∈ L, tv_ shs w) (hv : tv_ shs v) : ∀ w ∈ ls1_ L n v, tv_ shs w := by
  intro w hw
  unfold ls1_ at hw
  rcases List.mem_or_eq_of_mem_set hw with hw | rfl
  · unfold ls0_ at hw
    split at hw
    · exact h w hw
    · split at hw
      · rcases List.mem_or_eq_of_mem_set hw with hw | rfl
        · exact h w hw
        · trivial
      · exact h w hw
  · exact hv
theorem ls2_tv {shs : List Nat} {L : List Sv_t} {n : Nat} {v : Sv_t} (h : ∀ w ∈ L, tv_ shs w) (hv : tv_ shs v) : ∀ w ∈ ls2_ L n v, tv_ shs w := by
  intro w hw
  unfold ls2_ at hw
  rcases List.mem_or_eq_of_mem_set hw with hw | rfl
  · exact ls1_tv h hv w hw
  · trivial
/-! numbers -/
theorem i3_t {z : Int} (h : -2147483648 ≤ z ∧ z ≤ 2147483647) : (Int32.ofInt z).toInt = z := Int32.toInt_ofInt_of_le (by omega) (by omega)
theorem i6_t {z : Int} (h : -9223372036854775808 ≤ z ∧ z ≤ 9223372036854775807) : (Int64.ofInt z).toInt = z := Int64.toInt_ofInt_of_le (by omega) (by omega)
theorem i3_o (x : Int32) : Int32.ofInt x.toInt = x := by simp
theorem i6_o (x : Int64) : Int64.ofInt x.toInt = x := by simp
theorem i3_r (x : Int32) : -2147483648 ≤ x.toInt ∧ x.toInt ≤ 2147483647 := by
  have h1 := Int32.le_toInt x
  have h2 := Int32.toInt_lt x
  constructor <;> omega
theorem i6_r (x : Int64) : -9223372036854775808 ≤ x.toInt ∧ x.toInt ≤ 9223372036854775807 := by
  have h1 := Int64.le_toInt x
  have h2 := Int64.toInt_lt x
  constructor <;> omega
theorem i3_lt {a b : Int} (ha : -2147483648 ≤ a ∧ a ≤ 2147483647) (hb : -2147483648 ≤ b ∧ b ≤ 2147483647) : Int32.ofInt a < Int32.ofInt b ↔ a < b := by rw [Int32.lt_iff_toInt_lt, i3_t ha, i3_t hb]
theorem i3_le {a b : Int} (ha : -2147483648 ≤ a ∧ a ≤ 2147483647) (hb : -2147483648 ≤ b ∧ b ≤ 2147483647) : Int32.ofInt a ≤ Int32.ofInt b ↔ a ≤ b := by rw [Int32.le_iff_toInt_le, i3_t ha, i3_t hb]
theorem i3_eq {a b : Int} (ha : -2147483648 ≤ a ∧ a ≤ 2147483647) (hb : -2147483648 ≤ b ∧ b ≤ 2147483647) : Int32.ofInt a = Int32.ofInt b ↔ a = b := by rw [← Int32.toInt_inj, i3_t ha, i3_t hb]
theorem i6_lt {a b : Int} (ha : -9223372036854775808 ≤ a ∧ a ≤ 9223372036854775807) (hb : -9223372036854775808 ≤ b ∧ b ≤ 9223372036854775807) : Int64.ofInt a < Int64.ofInt b ↔ a < b := by rw [Int64.lt_iff_toInt_lt, i6_t ha, i6_t hb]
theorem i6_eq {a b : Int} (ha : -9223372036854775808 ≤ a ∧ a ≤ 9223372036854775807) (hb : -9223372036854775808 ≤ b ∧ b ≤ 9223372036854775807) : Int64.ofInt a = Int64.ofInt b ↔ a = b := by rw [← Int64.toInt_inj, i6_t ha, i6_t hb]
theorem i3_z : (0 : Int32) = Int32.ofInt 0 := by decide
theorem i6_z : (0 : Int64) = Int64.ofInt 0 := by decide
theorem tdb_ {a b : Int} : (a.tdiv b).natAbs ≤ a.natAbs := by
  rw [Int.natAbs_tdiv]
  exact Nat.div_le_self _ _
theorem i3_div {a b : Int} (ha : -2147483648 ≤ a ∧ a ≤ 2147483647) (hb : -2147483648 ≤ b ∧ b ≤ 2147483647) (hr : -2147483648 ≤ a.tdiv b ∧ a.tdiv b ≤ 2147483647) : Int32.ofInt a / Int32.ofInt b = Int32.ofInt (a.tdiv b) := by
  rw [← Int32.toInt_inj, Int32.toInt_div, i3_t ha, i3_t hb, i3_t hr]
  exact Int.bmod_eq_of_le (by omega) (by omega)
theorem i3_rem {a b : Int} (ha : -2147483648 ≤ a ∧ a ≤ 2147483647) (hb : -2147483648 ≤ b ∧ b ≤ 2147483647) : Int32.ofInt a - Int32.ofInt a / Int32.ofInt b * Int32.ofInt b = Int32.ofInt (a.tmod b) := by
  rw [← Int32.toInt_inj, Int32.toInt_sub, Int32.toInt_mul, Int32.toInt_div, i3_t ha, i3_t hb]
  have e : a.tmod b = a - a.tdiv b * b := by have := Int.tdiv_mul_add_tmod a b; omega
  have hr : -2147483648 ≤ a.tmod b ∧ a.tmod b ≤ 2147483647 := by
    have h1 : (a.tmod b).natAbs ≤ a.natAbs := by rw [Int.natAbs_tmod]; exact Nat.mod_le _ _
    rcases Int.le_total 0 a with h0 | h0
    · have := Int.tmod_nonneg b h0
      omega
    · have := Int.tmod_nonneg b (Int.neg_nonneg_of_nonpos h0)
      rw [Int.neg_tmod] at this
      omega
  rw [i3_t hr, e]
  simp only [Int.sub_bmod_bmod, Int.bmod_mul_bmod, Int.mul_bmod_bmod, Int.bmod_sub_bmod]
  rw [← e]
  exact Int.bmod_eq_of_le (by omega) (by omega)
theorem i6_div {a b : Int} (ha : -9223372036854775808 ≤ a ∧ a ≤ 9223372036854775807) (hb : -9223372036854775808 ≤ b ∧ b ≤ 9223372036854775807) (hr : -9223372036854775808 ≤ a.tdiv b ∧ a.tdiv b ≤ 9223372036854775807) : Int64.ofInt a / Int64.ofInt b = Int64.ofInt (a.tdiv b) := by
  rw [← Int64.toInt_inj, Int64.toInt_div, i6_t ha, i6_t hb, i6_t hr]
  exact Int.bmod_eq_of_le (by omega) (by omega)
theorem i6_rem {a b : Int} (ha : -9223372036854775808 ≤ a ∧ a ≤ 9223372036854775807) (hb : -9223372036854775808 ≤ b ∧ b ≤ 9223372036854775807) : Int64.ofInt a - Int64.ofInt a / Int64.ofInt b * Int64.ofInt b = Int64.ofInt (a.tmod b) := by
  rw [← Int64.toInt_inj, Int64.toInt_sub, Int64.toInt_mul, Int64.toInt_div, i6_t ha, i6_t hb]
  have e : a.tmod b = a - a.tdiv b * b := by have := Int.tdiv_mul_add_tmod a b; omega
  have hr : -9223372036854775808 ≤ a.tmod b ∧ a.tmod b ≤ 9223372036854775807 := by
    have h1 : (a.tmod b).natAbs ≤ a.natAbs := by rw [Int.natAbs_tmod]; exact Nat.mod_le _ _
    rcases Int.le_total 0 a with h0 | h0
    · have := Int.tmod_nonneg b h0
      omega
    · have := Int.tmod_nonneg b (Int.neg_nonneg_of_nonpos h0)
      rw [Int.neg_tmod] at this
      omega
  rw [i6_t hr, e]
  simp only [Int.sub_bmod_bmod, Int.bmod_mul_bmod, Int.mul_bmod_bmod, Int.bmod_sub_bmod]
  rw [← e]
  exact Int.bmod_eq_of_le (by omega) (by omega)
def and3_ (a b : Int) : Int := (Int32.ofInt a &&& Int32.ofInt b).toInt
def or3_ (a b : Int) : Int := (Int32.ofInt a ||| Int32.ofInt b).toInt
def xor3_ (a b : Int) : Int := (Int32.ofInt a ^^^ Int32.ofInt b).toInt
def shl3_ (a b : Int) : Int := (Int32.ofInt a <<< (Int32.ofInt b &&& 31)).toInt
def shr3_ (a b : Int) : Int := (Int32.ofInt a >>> (Int32.ofInt b &&& 31)).toInt
def i2b_ (a : Int) : Int := (Int32.ofInt a).toInt8.toInt32.toInt
def i2s_ (a : Int) : Int := (Int32.ofInt a).toInt16.toInt32.toInt
def l2i_ (a : Int) : Int := (Int64.ofInt a).toInt32.toInt
def and6_ (a b : Int) : Int := (Int64.ofInt a &&& Int64.ofInt b).toInt
def or6_ (a b : Int) : Int := (Int64.ofInt a ||| Int64.ofInt b).toInt
def shl6_ (a b : Int) : Int := (Int64.ofInt a <<< ((Int32.ofInt b).toInt64 &&& 63)).toInt
def shr6_ (a b : Int) : Int := (Int64.ofInt a >>> ((Int32.ofInt b).toInt64 &&& 63)).toInt
def lcmp_ (a b : Int) : Int := if b < a then 1 else if a = b then 0 else -1
theorem i3_l {a : Int} (ha : -2147483648 ≤ a ∧ a ≤ 2147483647) : (Int32.ofInt a).toInt64 = Int64.ofInt a := by
  rw [← Int64.toInt_inj, Int32.toInt_toInt64, i3_t ha, i6_t (by omega)]
theorem lcmp_e {a b : Int} (ha : -9223372036854775808 ≤ a ∧ a ≤ 9223372036854775807) (hb : -9223372036854775808 ≤ b ∧ b ≤ 9223372036854775807) : lg_cmp (Int64.ofInt a) (Int64.ofInt b) = Int32.ofInt (lcmp_ a b) := by
  unfold lg_cmp lcmp_
  by_cases h1 : b < a
  · rw [if_pos h1, if_pos ((i6_lt hb ha).mpr h1)]; decide
  · rw [if_neg h1, if_neg (fun q => h1 ((i6_lt hb ha).mp q))]
    by_cases h2 : a = b
    · rw [if_pos h2, if_pos ((i6_eq ha hb).mpr h2)]; decide
    · rw [if_neg h2, if_neg (fun q => h2 ((i6_eq ha hb).mp q))]; decide
theorem lcmp_r (a b : Int) : -2147483648 ≤ lcmp_ a b ∧ lcmp_ a b ≤ 2147483647 := by
  unfold lcmp_
  split
  · omega
  · split <;> omega
end
section
/-! the String constants: fourteen texts, by their places -/
def lenS_ : List Nat := [3, 4, 4, 4, 4, 5, 4, 4, 2, 4, 5, 3, 5, 2]
def bytS_ : List (List Int32) := [[119, 97, 114], [114, 97, 105, 110], [108, 97, 110, 100], [102, 114, 111, 109], [119, 101, 101, 107], [114, 101, 115, 116, 115], [121, 101, 97, 114], [108, 101, 97, 112], [105, 110], [97, 100, 100, 115], [102, 101, 97, 115, 116], [102, 111, 114], [116, 114, 117, 99, 101], [116, 111]]
def strS_ : List (String × Nat × String × Nat) := [("TwoCalendars$Reader", 56, "war", 0), ("TwoCalendars$Reader", 97, "rain", 1), ("TwoCalendars$Reader", 65, "land", 2), ("TwoCalendars$Reader", 116, "from", 3), ("TwoCalendars$Reader", 120, "week", 4), ("TwoCalendars$Reader", 124, "rests", 5), ("TwoCalendars$Reader", 128, "year", 6), ("TwoCalendars$Reader", 134, "leap", 7), ("TwoCalendars$Reader", 138, "in", 8), ("TwoCalendars$Reader", 146, "adds", 9), ("TwoCalendars$Reader", 77, "feast", 10), ("TwoCalendars$Reader", 157, "for", 11), ("TwoCalendars$Reader", 85, "truce", 12), ("TwoCalendars$Reader", 163, "to", 13), ("TwoCalendarsModel", 223, "war", 0), ("TwoCalendarsModel", 225, "rain", 1), ("TwoCalendarsModel", 208, "land", 2), ("TwoCalendarsModel", 210, "feast", 10), ("TwoCalendarsModel", 212, "truce", 12), ("TwoCalendarsModel", 184, "from", 3), ("TwoCalendarsModel", 189, "week", 4), ("TwoCalendarsModel", 191, "rests", 5), ("TwoCalendarsModel", 193, "year", 6), ("TwoCalendarsModel", 182, "leap", 7), ("TwoCalendarsModel", 198, "in", 8), ("TwoCalendarsModel", 199, "adds", 9), ("TwoCalendarsModel", 204, "for", 11), ("TwoCalendarsModel", 206, "to", 13)]
end
section
/-! WALKS OVER A MEMORY. X: the machine, the launch, the method; G: the classes' numbers, the arrays' classes, fixed addresses, the cells that may change. -/
abbrev Cx_t : Type := Program × Launch × Env × Room × State × MethodId × Array Value × List Frame × Method × Code
abbrev Gx_t : Type := va_G × (Nat → ClassId) × (Nat → Nat) × (Nat → Prop)
def tys_ (tc : Nat → ClassId) : List (ClassId × FieldType) := [(tc 1, .int), (tc 2, .byte), (tc 3, .boolean), (tc 4, .long), (tc 6, .object RX1), (tc 9, .object RX4), (tc 14, .object RX9)]
def isNest_ : Cond → Bool
  | .methodLinkNest .. => true
  | _ => false
def XW_ (U : State) : Prop := ∀ w ∈ lw_tbl, isNest_ w = true → va_Nw w U
theorem XW_warm {s U : State} (hW : s.WarmedH U.vm) (h : XW_ s) : XW_ U := by
  intro w hw hn
  have h1 := h w hw hn
  cases w <;> first | (simp [isNest_] at hn; done) | exact va_Nw.warmM hW h1
theorem XW_same {s U : State} (e : s.vm = U.vm) (h : XW_ s) : XW_ U := by
  intro w hw hn
  have h1 := h w hw hn
  cases w <;> first | (simp [isNest_] at hn; done) | exact va_Nw.same rfl e h1
/-- the String constants: who is where -/
def XS_ (cs : Nat → Nat) (A : Nat → Prop) (U : State) : Prop := (∃ adV : Nat → Nat, vk_S 14 lenS_ bytS_ (fun i => cs (i + 1)) adV A U U.heap) ∧ (∀ q ∈ strS_, vk_R q.1 q.2.1 q.2.2.1 (cs (q.2.2.2 + 1)) U) ∧ va_Z "java/lang/String" "COMPACT_STRINGS" "Z" (.int 1) A U U.heap
theorem XS_move {cs : Nat → Nat} {A B : Nat → Prop} {s U : State} {H : Heap} {locs : List Loc} (h : XS_ cs A s) (hS : va_S A s.heap H locs) (hU : U.heap = H) (hW : s.WarmedH U.vm) (hB : ∀ q, B q → A q) : XS_ cs B U := by
  obtain ⟨⟨adV, h1⟩, h2, h3⟩ := h
  refine ⟨⟨adV, ?_⟩, fun q hq => vk_R.warm hW (h2 q hq), ?_⟩
  · rw [hU]
    exact vk_S.narrow (vk_S.moved hW.alike (vk_S.kept h1 hS.2.1)) hB
  · rw [hU]
    exact va_Z.narrow (va_Z.moved hW.alike (va_Z.kept h3 hS.2.1)) hB
theorem XS_same {cs : Nat → Nat} {A : Nat → Prop} {s U : State} (hv : U.vm = s.vm) (hh : U.heap = s.heap) (h : XS_ cs A s) : XS_ cs A U := by
  obtain ⟨⟨adV, h1⟩, h2, h3⟩ := h
  have al : s.vm.Alike U.vm := by rw [hv]; exact Vm.Alike.refl s.vm
  refine ⟨⟨adV, ?_⟩, fun q hq => vk_R.same hv (h2 q hq), ?_⟩
  · rw [hh]; exact vk_S.moved al h1
  · rw [hh]; exact va_Z.moved al h3
def WP_ (X : Cx_t) (G : Gx_t) (Q : State → Prop) (cl sl : Nat) (ad shs : List Nat) (σ : Me_t) (pc : Nat) (L S : List Sv_t) : Prop :=
  MT_ shs σ → ad.length = shs.length → ∀ (H : Heap) (locs : List Loc) (ls : Array Slot), va_P G.1 cls_ (wl_ G.2.2.1 G.2.1 ad shs σ) H → va_D G.2.2.2 (wl_ G.2.2.1 G.2.1 ad shs σ) → va_S G.2.2.2 X.2.2.2.2.1.heap H locs → lh_ G.2.2.1 ad L ls → (∀ v ∈ L, tv_ shs v) → (∀ v ∈ S, tv_ shs v) →
    W X.1 X.2.1 X.2.2.1 X.2.2.2.1 X.2.2.2.2.1 X.2.2.2.2.2.1 X.2.2.2.2.2.2.1 X.2.2.2.2.2.2.2.1 X.2.2.2.2.2.2.2.2.1 X.2.2.2.2.2.2.2.2.2 H locs cl sl Q (F0 X.2.2.2.2.2.1 pc ls (S.map (val_ G.2.2.1 ad)))
def EN_ (X : Cx_t) (G : Gx_t) (own : String) (cc : ByteArray) (nL : Nat) (rty : Option FieldType) : Prop :=
  X.1.tables.exec = Jvm.exec ∧ X.2.2.2.2.2.2.2.2.2.code = cc ∧ X.2.2.2.2.2.2.2.2.2.maxLocals = nL ∧ X.2.2.2.2.1.vm.findClass own = some X.2.2.2.2.2.1.cls ∧ (∀ w ∈ gl_, w.before X.2.2.2.2.2.2.1 X.2.2.2.2.1 = true) ∧ va_K G.1 cls_ (tys_ G.2.1) X.2.2.2.2.1 ∧ X.2.2.2.2.2.2.2.2.1.sig.returnType = rty ∧ X.2.2.2.2.2.2.2.2.1.locks = false ∧ XW_ X.2.2.2.2.1 ∧ XS_ G.2.2.1 G.2.2.2 X.2.2.2.2.1
theorem vc_ {shs : List Nat} {v : Sv_t} {S : List Sv_t} (h : tv_ shs v) (hS : ∀ w ∈ S, tv_ shs w) : ∀ w ∈ v :: S, tv_ shs w := List.forall_mem_cons.mpr ⟨h, hS⟩
theorem vt_ {shs : List Nat} {v : Sv_t} {S : List Sv_t} (hS : ∀ w ∈ v :: S, tv_ shs w) : tv_ shs v ∧ ∀ w ∈ S, tv_ shs w := List.forall_mem_cons.mp hS
theorem vg_ {shs : List Nat} {v : Sv_t} {L : List Sv_t} {n : Nat} (hL : ∀ w ∈ L, tv_ shs w) (h : L[n]? = some v) : tv_ shs v := hL v (List.mem_of_getElem? h)
theorem val_0 {cs : Nat → Nat} {ad : List Nat} {z : Int} : val_ cs ad (0, z) = .int (Int32.ofInt z) := rfl
theorem val_1 {cs : Nat → Nat} {ad : List Nat} {z : Int} : val_ cs ad (1, z) = .long (Int64.ofInt z) := rfl
theorem val_4 {cs : Nat → Nat} {ad : List Nat} {z : Int} : val_ cs ad (4, z) = .ref (cs z.toNat) := rfl
theorem val_r {cs : Nat → Nat} {ad : List Nat} {z : Int} {t : Nat} (h : 0 ≤ z) : val_ cs ad (t + 10, z) = .ref (ad.getD z.toNat 0) := by
  show (if z < 0 then Value.null else .ref (ad.getD z.toNat 0)) = _
  rw [if_neg (by omega)]
theorem val_q {cs : Nat → Nat} {ad : List Nat} {z : Int} {t u : Nat} : val_ cs ad (t + 10, z) = val_ cs ad (u + 10, z) := rfl
theorem val_2 {cs : Nat → Nat} {ad : List Nat} {z : Int} {t : Nat} : val_ cs ad (t + 10, z) = val_ cs ad (2, z) := rfl
/-- what a read gives: its range -/
def rgo_ (t : Nat × Int × Int) (z : Int) : Prop := match t.1 with
  | 0 => t.2.1 ≤ z ∧ z ≤ t.2.2
  | _ => True
theorem rgo_of {shs : List Nat} {sh : Nat} {k : Int} {j : Nat} {z : Int} (h : ok_ shs sh k j z) : rgo_ (ty_ sh j) z := by
  unfold rgo_
  split
  next e => exact h.2.1 (by omega)
  next => trivial
abbrev Tr_t : Type := List Sv_t → Me_t → (List Sv_t → Me_t → Prop) → Prop
def csum_ (S : List Sv_t) : Nat := match S with
  | [] => 0
  | v :: S => (bif v.1 == 1 then 2 else 1) + csum_ S
def cmp0_ (c : ClassFile.Cond) (z y : Int) (a b : Prop) : Prop := match c with
  | .eq => (z = y → a) ∧ (¬ z = y → b)
  | .ne => (¬ z = y → a) ∧ (z = y → b)
  | .lt => (z < y → a) ∧ (y ≤ z → b)
  | .ge => (y ≤ z → a) ∧ (z < y → b)
  | .gt => (y < z → a) ∧ (z ≤ y → b)
  | .le => (z ≤ y → a) ∧ (y < z → b)
def tsw_ (J : Nat → Prop) (pc : Nat) (z lo : Int) (offs : List Int) : Prop := match offs with
  | [] => True
  | o :: os => (z = lo → J ((pc : Int) + o).toNat) ∧ tsw_ J pc z (lo + 1) os
def ful_ (lo hi : Int) : Bool := decide (lo ≤ -2147483648) && decide (2147483647 ≤ hi)
def ful6_ (lo hi : Int) : Bool := decide (lo ≤ -9223372036854775808) && decide (9223372036854775807 ≤ hi)
def lk_ {α : Type} (l : List (Nat × α)) (n : Nat) : Option α := match l with
  | [] => none
  | q :: l => bif q.1 == n then some q.2 else lk_ l n
/-- what an instruction asks for, and what it leaves: fl, pl fields by their place in the pool (class, slot), kn constants, cal calls (2 i an instance's, 2 i + 1 a static one's), rk the kind of answer -/
def stp_ (fl pl : List (Nat × Nat × Nat × Int)) (kn : List (Nat × Sv_t)) (cal : List (Nat × Nat × Tr_t)) (rk : Nat) (Ret : List Sv_t → Me_t → Prop) (J : Nat → List Sv_t → List Sv_t → Me_t → Prop) (scr : Option (Nat × (Int → Int))) (pc : Nat) (i : Instr) (L S : List Sv_t) (σ : Me_t) (k : List Sv_t → List Sv_t → Me_t → Prop) : Prop :=
  match i with
  | .iload n => match L[n]? with
    | some (0, z) => k L ((0, z) :: S) σ
    | _ => False
  | .iload_n n => match L[n.val]? with
    | some (0, z) => k L ((0, z) :: S) σ
    | _ => False
  | .lload n => match L[n]? with
    | some (1, z) => k L ((1, z) :: S) σ
    | _ => False
  | .lload_n n => match L[n.val]? with
    | some (1, z) => k L ((1, z) :: S) σ
    | _ => False
  | .aload n => match L[n]? with
    | some (4, z) => k L ((4, z) :: S) σ
    | some (t + 10, z) => k L ((t + 10, z) :: S) σ
    | _ => False
  | .aload_n n => match L[n.val]? with
    | some (4, z) => k L ((4, z) :: S) σ
    | some (t + 10, z) => k L ((t + 10, z) :: S) σ
    | _ => False
  | .istore n => match S with
    | (0, z) :: S' => bif n.blt L.length then k (ls1_ L n (0, z)) S' σ else False
    | _ => False
  | .istore_n n => match S with
    | (0, z) :: S' => bif n.val.blt L.length then k (ls1_ L n.val (0, z)) S' σ else False
    | _ => False
  | .lstore n => match S with
    | (1, z) :: S' => bif (n + 1).blt L.length then k (ls2_ L n (1, z)) S' σ else False
    | _ => False
  | .lstore_n n => match S with
    | (1, z) :: S' => bif (n.val + 1).blt L.length then k (ls2_ L n.val (1, z)) S' σ else False
    | _ => False
  | .astore n => match S with
    | (t + 10, z) :: S' => bif n.blt L.length then k (ls1_ L n (t + 10, z)) S' σ else False
    | _ => False
  | .astore_n n => match S with
    | (t + 10, z) :: S' => bif n.val.blt L.length then k (ls1_ L n.val (t + 10, z)) S' σ else False
    | _ => False
  | .iinc n c => match L[n]? with
    | some (0, z) => (-2147483648 ≤ z + c ∧ z + c ≤ 2147483647) ∧ k (ls1_ L n (0, z + c)) S σ
    | _ => False
  | .iconst c => bif decide (-128 ≤ c) && decide (c ≤ 127) then k L ((0, c) :: S) σ else False
  | .bipush c => bif decide (-128 ≤ c) && decide (c ≤ 127) then k L ((0, c) :: S) σ else False
  | .sipush c => bif decide (-32768 ≤ c) && decide (c ≤ 32767) then k L ((0, c) :: S) σ else False
  | .lconst c => bif c.val == 0 then k L ((1, 0) :: S) σ else k L ((1, 1) :: S) σ
  | .ldc n => match lk_ kn n with
    | some v => k L (v :: S) σ
    | none => False
  | .ldc_w n => match lk_ kn n with
    | some v => k L (v :: S) σ
    | none => False
  | .ldc2_w n => match lk_ kn n with
    | some v => k L (v :: S) σ
    | none => False
  | .iadd => match S with
    | (0, b) :: (0, a) :: S' => (-2147483648 ≤ a + b ∧ a + b ≤ 2147483647) ∧ k L ((0, a + b) :: S') σ
    | _ => False
  | .isub => match S with
    | (0, b) :: (0, a) :: S' => (-2147483648 ≤ a - b ∧ a - b ≤ 2147483647) ∧ k L ((0, a - b) :: S') σ
    | _ => False
  | .imul => match S with
    | (0, b) :: (0, a) :: S' => (-2147483648 ≤ a * b ∧ a * b ≤ 2147483647) ∧ k L ((0, a * b) :: S') σ
    | _ => False
  | .idiv => match S with
    | (0, b) :: (0, a) :: S' => (¬ b = 0 ∧ -2147483648 ≤ a.tdiv b ∧ a.tdiv b ≤ 2147483647) ∧ k L ((0, a.tdiv b) :: S') σ
    | _ => False
  | .irem => match S with
    | (0, b) :: (0, a) :: S' => ¬ b = 0 ∧ k L ((0, a.tmod b) :: S') σ
    | _ => False
  | .iand => match S with
    | (0, b) :: (0, a) :: S' => k L ((0, and3_ a b) :: S') σ
    | _ => False
  | .ior => match S with
    | (0, b) :: (0, a) :: S' => k L ((0, or3_ a b) :: S') σ
    | _ => False
  | .ixor => match S with
    | (0, b) :: (0, a) :: S' => k L ((0, xor3_ a b) :: S') σ
    | _ => False
  | .ishl => match S with
    | (0, b) :: (0, a) :: S' => k L ((0, shl3_ a b) :: S') σ
    | _ => False
  | .ishr => match S with
    | (0, b) :: (0, a) :: S' => k L ((0, shr3_ a b) :: S') σ
    | _ => False
  | .i2b => match S with
    | (0, a) :: S' => k L ((0, i2b_ a) :: S') σ
    | _ => False
  | .i2s => match S with
    | (0, a) :: S' => k L ((0, i2s_ a) :: S') σ
    | _ => False
  | .i2l => match S with
    | (0, a) :: S' => k L ((1, a) :: S') σ
    | _ => False
  | .l2i => match S with
    | (1, a) :: S' => k L ((0, l2i_ a) :: S') σ
    | _ => False
  | .ladd => match S with
    | (1, b) :: (1, a) :: S' => (-9223372036854775808 ≤ a + b ∧ a + b ≤ 9223372036854775807) ∧ k L ((1, a + b) :: S') σ
    | _ => False
  | .lsub => match S with
    | (1, b) :: (1, a) :: S' => (-9223372036854775808 ≤ a - b ∧ a - b ≤ 9223372036854775807) ∧ k L ((1, a - b) :: S') σ
    | _ => False
  | .lmul => match S with
    | (1, b) :: (1, a) :: S' => (-9223372036854775808 ≤ a * b ∧ a * b ≤ 9223372036854775807) ∧ k L ((1, a * b) :: S') σ
    | _ => False
  | .ldiv => match S with
    | (1, b) :: (1, a) :: S' => (¬ b = 0 ∧ -9223372036854775808 ≤ a.tdiv b ∧ a.tdiv b ≤ 9223372036854775807) ∧ k L ((1, a.tdiv b) :: S') σ
    | _ => False
  | .lrem => match S with
    | (1, b) :: (1, a) :: S' => ¬ b = 0 ∧ k L ((1, a.tmod b) :: S') σ
    | _ => False
  | .land => match S with
    | (1, b) :: (1, a) :: S' => k L ((1, and6_ a b) :: S') σ
    | _ => False
  | .lor => match S with
    | (1, b) :: (1, a) :: S' => k L ((1, or6_ a b) :: S') σ
    | _ => False
  | .lshl => match S with
    | (0, b) :: (1, a) :: S' => k L ((1, shl6_ a b) :: S') σ
    | _ => False
  | .lshr => match S with
    | (0, b) :: (1, a) :: S' => k L ((1, shr6_ a b) :: S') σ
    | _ => False
  | .lcmp => match S with
    | (1, b) :: (1, a) :: S' => k L ((0, lcmp_ a b) :: S') σ
    | _ => False
  | .dup => match S with
    | v :: S' => bif v.1 == 1 then False else k L (v :: v :: S') σ
    | _ => False
  | .dup2 => match S with
    | v :: w :: S' => bif v.1 == 1 || w.1 == 1 then False else k L (v :: w :: v :: w :: S') σ
    | _ => False
  | .pop => match S with
    | v :: S' => bif v.1 == 1 then False else k L S' σ
    | _ => False
  | .pop2 => match S with
    | (1, _) :: S' => k L S' σ
    | _ => False
  | .ifCond c off => match S with
    | (0, z) :: S' => cmp0_ c z 0 (J ((pc : Int) + off).toNat L S' σ) (k L S' σ)
    | _ => False
  | .if_icmp c off => match S with
    | (0, y) :: (0, z) :: S' => cmp0_ c z y (J ((pc : Int) + off).toNat L S' σ) (k L S' σ)
    | _ => False
  | .goto off => J ((pc : Int) + off).toNat L S σ
  | .tableswitch d lo hi offs => match S with
    | (0, z) :: S' => (z < lo ∨ hi < z → J ((pc : Int) + d).toNat L S' σ) ∧ tsw_ (fun t => J t L S' σ) pc z lo offs.toList
    | _ => False
  | .getfield n => match S with
    | (t + 10, o) :: S' => match lk_ fl n with
      | some (c, jn, ji) => match KT_ t with
        | (0, c', N) => bif c == c' && jn.blt N then (match rt_ t o jn ji with
          | some r => k L (((ty_ t jn).1, r) :: S') σ
          | none => ∀ z : Int, z = σ o ji → rgo_ (ty_ t jn) z → k L (((ty_ t jn).1, z) :: S') σ) else False
        | _ => False
      | none => False
    | _ => False
  | .putfield n => match S with
    | (u, z) :: (t + 10, o) :: S' => match lk_ pl n with
      | some (c, jn, ji) => match KT_ t with
        | (0, c', N) => bif c == c' && jn.blt N then (match rt_ t o jn ji with
          | some _ => False
          | none => match ty_ t jn with
            | (0, lo, hi) => bif u == 0 then (bif ful_ lo hi then (∀ σ' : Me_t, σ' = ups_ σ o ji z → k L S' σ') else (lo ≤ z ∧ z ≤ hi) ∧ (∀ σ' : Me_t, σ' = ups_ σ o ji z → k L S' σ')) else False
            | (1, lo, hi) => bif u == 1 && ful6_ lo hi then (∀ σ' : Me_t, σ' = ups_ σ o ji z → k L S' σ') else False
            | (2, _, _) => bif Nat.ble 10 u then (∀ σ' : Me_t, σ' = ups_ σ o ji z → k L S' σ') else False
            | (w, _, _) => bif u == w && Nat.ble 10 w then (∀ σ' : Me_t, σ' = ups_ σ o ji z → k L S' σ') else False) else False
        | _ => False
      | none => False
    | _ => False
  | .iaload => match S with
    | (0, x) :: (4, 0) :: S' => match scr with
      | some (n, xs) => (0 ≤ x ∧ x < (n : Int)) ∧ k L ((0, xs x) :: S') σ
      | none => False
    | (0, x) :: (t + 10, o) :: S' => match KT_ t with
      | (1, _, N) => (0 ≤ x ∧ x < (N : Int)) ∧ ∀ z : Int, z = σ o x → rgo_ (ty_ t 0) z → k L ((0, z) :: S') σ
      | _ => False
    | _ => False
  | .baload => match S with
    | (0, x) :: (t + 10, o) :: S' => match KT_ t with
      | (2, _, N) => (0 ≤ x ∧ x < (N : Int)) ∧ ∀ z : Int, z = σ o x → rgo_ (ty_ t 0) z → k L ((0, z) :: S') σ
      | (3, _, N) => (0 ≤ x ∧ x < (N : Int)) ∧ ∀ z : Int, z = σ o x → rgo_ (ty_ t 0) z → k L ((0, z) :: S') σ
      | _ => False
    | _ => False
  | .laload => match S with
    | (0, x) :: (t + 10, o) :: S' => match KT_ t with
      | (4, _, N) => (0 ≤ x ∧ x < (N : Int)) ∧ k L ((1, σ o x) :: S') σ
      | _ => False
    | _ => False
  | .aaload => match S with
    | (0, x) :: (t + 10, o) :: S' => match KT_ t with
      | (5, _, N) => (0 ≤ x ∧ x < (N : Int)) ∧ (match rt_ t o 0 x with
        | some r => k L (((ty_ t 0).1, r) :: S') σ
        | none => False)
      | _ => False
    | _ => False
  | .iastore => match S with
    | (0, z) :: (0, x) :: (t + 10, o) :: S' => match KT_ t with
      | (1, _, N) => (0 ≤ x ∧ x < (N : Int)) ∧ (bif ful_ (ty_ t 0).2.1 (ty_ t 0).2.2 then (∀ σ' : Me_t, σ' = ups_ σ o x z → k L S' σ') else ((ty_ t 0).2.1 ≤ z ∧ z ≤ (ty_ t 0).2.2) ∧ (∀ σ' : Me_t, σ' = ups_ σ o x z → k L S' σ'))
      | _ => False
    | _ => False
  | .bastore => match S with
    | (0, z) :: (0, x) :: (t + 10, o) :: S' => match KT_ t with
      | (2, _, N) => (0 ≤ x ∧ x < (N : Int)) ∧ ((ty_ t 0).2.1 ≤ z ∧ z ≤ (ty_ t 0).2.2) ∧ (∀ σ' : Me_t, σ' = ups_ σ o x z → k L S' σ')
      | (3, _, N) => (0 ≤ x ∧ x < (N : Int)) ∧ ((ty_ t 0).2.1 ≤ z ∧ z ≤ (ty_ t 0).2.2) ∧ (∀ σ' : Me_t, σ' = ups_ σ o x z → k L S' σ')
      | _ => False
    | _ => False
  | .lastore => match S with
    | (1, z) :: (0, x) :: (t + 10, o) :: S' => match KT_ t with
      | (4, _, N) => (0 ≤ x ∧ x < (N : Int)) ∧ (bif ful6_ (ty_ t 0).2.1 (ty_ t 0).2.2 then (∀ σ' : Me_t, σ' = ups_ σ o x z → k L S' σ') else False)
      | _ => False
    | _ => False
  | .arraylength => match S with
    | (4, 0) :: S' => match scr with
      | some (n, _) => k L ((0, (n : Int)) :: S') σ
      | none => False
    | (t + 10, _) :: S' => match KT_ t with
      | (a, _, N) => bif Nat.ble 1 a && Nat.ble a 5 then k L ((0, (N : Int)) :: S') σ else False
    | _ => False
  | .invokevirtual n => match lk_ cal (2 * n) with
    | some (na, T) => bif Nat.ble na S.length && Nat.ble (csum_ (S.drop na)) 8 then T (S.take na).reverse σ (fun r σ' => k L (r ++ S.drop na) σ') else False
    | none => False
  | .invokestatic n => match lk_ cal (2 * n + 1) with
    | some (na, T) => bif Nat.ble na S.length && Nat.ble (csum_ (S.drop na)) 8 then T (S.take na).reverse σ (fun r σ' => k L (r ++ S.drop na) σ') else False
    | none => False
  | .ireturn => match S with
    | [(0, z)] => bif rk == 1 then Ret [(0, z)] σ else bif rk == 2 then (0 ≤ z ∧ z ≤ 1) ∧ Ret [(0, z)] σ else False
    | _ => False
  | .lreturn => match S with
    | [(1, z)] => bif rk == 3 then Ret [(1, z)] σ else False
    | _ => False
  | .areturn => match S with
    | [(t + 10, z)] => bif rk == 4 then Ret [(t + 10, z)] σ else False
    | _ => False
  | .return_ => match S with
    | [] => bif rk == 0 then Ret [] σ else False
    | _ => False
  | _ => False
def ln_ (i : Instr) : Nat := match i with
  | .iload _ | .lload _ | .aload _ | .istore _ | .lstore _ | .astore _ | .bipush _ | .ldc _ | .newarray _ => 2
  | .iinc _ _ | .sipush _ | .ldc_w _ | .ldc2_w _ | .ifCond _ _ | .if_icmp _ _ | .goto _ | .getfield _ | .putfield _ | .invokevirtual _ | .invokestatic _ | .invokespecial _ | .new _ | .anewarray _ => 3
  | _ => 1
end
section
/-! THE STEPS ARE SOUND -/
theorem ent_0 {cs : Nat → Nat} {tc : Nat → ClassId} {ad : List Nat} {sh c n : Nat} {f : Int → Int} (h : KT_ sh = (0, c, n)) : ent_ cs tc ad sh f = .inr (c, (List.range n).map fun j => val_ cs ad ((ty_ sh j).1, f j)) := by unfold ent_; rw [h]; rfl
theorem ent_1 {cs : Nat → Nat} {tc : Nat → ClassId} {ad : List Nat} {sh c n : Nat} {f : Int → Int} (h : KT_ sh = (1, c, n)) : ent_ cs tc ad sh f = .inl (tc 1, n, .inl fun j => Int32.ofInt (f j)) := by unfold ent_; rw [h]; rfl
theorem ent_2 {cs : Nat → Nat} {tc : Nat → ClassId} {ad : List Nat} {sh c n : Nat} {f : Int → Int} (h : KT_ sh = (2, c, n)) : ent_ cs tc ad sh f = .inl (tc 2, n, .inl fun j => Int32.ofInt (f j)) := by unfold ent_; rw [h]; rfl
theorem ent_3 {cs : Nat → Nat} {tc : Nat → ClassId} {ad : List Nat} {sh c n : Nat} {f : Int → Int} (h : KT_ sh = (3, c, n)) : ent_ cs tc ad sh f = .inl (tc 3, n, .inl fun j => Int32.ofInt (f j)) := by unfold ent_; rw [h]; rfl
theorem ent_4 {cs : Nat → Nat} {tc : Nat → ClassId} {ad : List Nat} {sh c n : Nat} {f : Int → Int} (h : KT_ sh = (4, c, n)) : ent_ cs tc ad sh f = .inl (tc 4, n, .inr (.inl fun j => Int64.ofInt (f j))) := by unfold ent_; rw [h]; rfl
theorem ent_5 {cs : Nat → Nat} {tc : Nat → ClassId} {ad : List Nat} {sh c n : Nat} {f : Int → Int} (h : KT_ sh = (5, c, n)) : ent_ cs tc ad sh f = .inl (tc (5 + c), n, .inr (.inr (.inr (.inr fun j => if f j < 0 then none else some (ad.getD (f j).toNat 0))))) := by unfold ent_; rw [h]; rfl
/-- what a table of fields must say -/
def FT_ (own : String) (fl : List (Nat × Nat × Nat × Int)) : Prop := ∀ q ∈ fl, ∃ (C : String) (T : u_T) (N : Nat), cls_[q.2.1]? = some (C, T, N) ∧ q.2.2.1 < N ∧ q.2.2.2 = (q.2.2.1 : Int) ∧ Cond.fieldLink own q.1 (T q.2.2.1).1 (T q.2.2.1).2.1 (T q.2.2.1).2.2.1 ∈ gl_
def PT_ (own : String) (pl : List (Nat × Nat × Nat × Int)) : Prop := FT_ own pl ∧ ∀ q ∈ pl, ∀ (C : String) (T : u_T) (N : Nat), cls_[q.2.1]? = some (C, T, N) → (T q.2.2.1).2.2.2 = false
theorem lk_mem {α : Type} {l : List (Nat × α)} {n : Nat} {a : α} (h : lk_ l n = some a) : (n, a) ∈ l := by
  induction l with
  | nil => cases h
  | cons q l ih =>
    unfold lk_ at h
    cases hq : q.1 == n with
    | true =>
      rw [hq] at h
      have h1 : q.1 = n := by simpa using hq
      have h2 : q.2 = a := Option.some.inj h
      have : q = (n, a) := by rw [← h1, ← h2]
      rw [this]; exact List.mem_cons_self
    | false =>
      rw [hq] at h
      exact List.mem_cons_of_mem _ (ih h)
/-- constants of the pool -/
def KN_ (own : String) (kn : List (Nat × Sv_t)) : Prop := ∀ q ∈ kn, (q.2.1 = 0 ∧ (-2147483648 ≤ q.2.2 ∧ q.2.2 ≤ 2147483647) ∧ Cond.constant own q.1 (Int32.ofInt q.2.2) ∈ gl_) ∨ (q.2.1 = 1 ∧ (-9223372036854775808 ≤ q.2.2 ∧ q.2.2 ≤ 9223372036854775807) ∧ Cond.constantLong own q.1 (Int64.ofInt q.2.2) ∈ gl_)
/-- the classes' tables: their words are there, names differ, types are told -/
def CL_ : Prop := ∀ (c : Nat) (C : String) (T : u_T) (N : Nat), cls_[c]? = some (C, T, N) → (∀ w ∈ u_ws C T N, w ∈ gl_) ∧ (∀ k, k < N → parseFieldDescriptor (T k).2.2.1 = some (tyF_ c k)) ∧ ∀ a, a < N → ∀ b, b < N → a ≠ b → (T a).2.1 ≠ (T b).2.1
/-- a shape's types are those of its class -/
def tyok_ (ft : FieldType) (t : Nat × Int × Int) : Bool := match ft with
  | .int => t.1 == 0
  | .boolean => t.1 == 0 && decide (0 ≤ t.2.1) && decide (t.2.2 ≤ 1)
  | .long => t.1 == 1
  | .object _ => t.1 == 2 || Nat.ble 10 t.1
  | .array _ => t.1 == 2 || Nat.ble 10 t.1
  | _ => false
def SH_ : Prop := ∀ (sh c n : Nat), KT_ sh = (0, c, n) → (∃ (C : String) (T : u_T), cls_[c]? = some (C, T, n)) ∧ ∀ j, j < n → tyok_ (tyF_ c j) (ty_ sh j) = true
def SA_ : Prop := ∀ (sh a c n : Nat), KT_ sh = (a, c, n) → (a = 1 → ∀ j, ty_ sh j = ty_ sh 0 ∧ (ty_ sh 0).1 = 0) ∧ (a = 2 → ∀ j, ty_ sh j = ty_ sh 0 ∧ (ty_ sh 0).1 = 0 ∧ -128 ≤ (ty_ sh 0).2.1 ∧ (ty_ sh 0).2.2 ≤ 127) ∧ (a = 3 → ∀ j, ty_ sh j = ty_ sh 0 ∧ (ty_ sh 0).1 = 0 ∧ 0 ≤ (ty_ sh 0).2.1 ∧ (ty_ sh 0).2.2 ≤ 1) ∧ (a = 4 → ∀ j, ty_ sh j = ty_ sh 0 ∧ (ty_ sh 0).1 = 1) ∧ (a = 5 → (∀ j, ty_ sh j = ty_ sh 0) ∧ (c = 1 ∨ c = 4 ∨ c = 9) ∧ ((ty_ sh 0).1 = 2 ∨ 10 ≤ (ty_ sh 0).1) ∧ (∀ (k z : Int) (j : Nat), rt_ sh k j z = rt_ sh k 0 z)) ∧ (a = 0 → ∀ (k z z' : Int) (j : Nat), rt_ sh k j z = rt_ sh k j z') ∧ (1 ≤ a → a ≤ 4 → ∀ (k z : Int) (j : Nat), rt_ sh k j z = none) ∧ n < 100000
section SND
variable {X : Cx_t} {G : Gx_t} {Q : State → Prop} {cl sl : Nat} {ad shs : List Nat} {σ : Me_t} {pc pc' : Nat} {L S : List Sv_t} {own : String} {cc : ByteArray} {nL : Nat} {rty : Option FieldType}
/-- W, as WP_ ends in it -/
abbrev Wx_ (X : Cx_t) (Q : State → Prop) (cl sl : Nat) (H : Heap) (locs : List Loc) (pc : Nat) (ls : Array Slot) (st : List Value) : Prop := W X.1 X.2.1 X.2.2.1 X.2.2.2.1 X.2.2.2.2.1 X.2.2.2.2.2.1 X.2.2.2.2.2.2.1 X.2.2.2.2.2.2.2.1 X.2.2.2.2.2.2.2.2.1 X.2.2.2.2.2.2.2.2.2 H locs cl sl Q (F0 X.2.2.2.2.2.1 pc ls st)
theorem wpp_ {S' : List Sv_t} (k : WP_ X G Q cl sl ad shs σ pc' L S') (hv : (∀ v ∈ L, tv_ shs v) → (∀ v ∈ S, tv_ shs v) → ∀ v ∈ S', tv_ shs v)
    (h : ∀ (H : Heap) (locs : List Loc) (ls : Array Slot), lh_ G.2.2.1 ad L ls → (∀ v ∈ L, tv_ shs v) → (∀ v ∈ S, tv_ shs v) → Wx_ X Q cl sl H locs pc' ls (S'.map (val_ G.2.2.1 ad)) → Wx_ X Q cl sl H locs pc ls (S.map (val_ G.2.2.1 ad))) : WP_ X G Q cl sl ad shs σ pc L S :=
  fun hM hA H locs ls hP hD hS hl vL vS => h H locs ls hl vL vS (k hM hA H locs ls hP hD hS hl vL (hv vL vS))
theorem rs_ {z : Int} {t : Nat} (h : tv_ shs (t + 10, z)) : 0 ≤ z ∧ shs[z.toNat]? = some t := h
theorem so_iload {n i : Nat} {z : Int} (E : EN_ X G own cc nL rty) (hd : decode cc pc = .ok (.iload n, 2)) (h : L[n]? = some (0, z)) (k : WP_ X G Q cl sl ad shs σ (pc + 2) L ((0, z) :: S)) : WP_ X G Q cl sl ad shs σ pc L S :=
  wpp_ k (fun vL vS => vc_ (vg_ vL h) vS) (fun _ _ _ hl _ _ kk => lv_iload E.1 E.2.1 hd (hl.2.2 n _ h (fun q => by cases q)) kk)
theorem so_iload_n {n : Fin 4} {z : Int} (E : EN_ X G own cc nL rty) (hd : decode cc pc = .ok (.iload_n n, 1)) (h : L[n.val]? = some (0, z)) (k : WP_ X G Q cl sl ad shs σ (pc + 1) L ((0, z) :: S)) : WP_ X G Q cl sl ad shs σ pc L S :=
  wpp_ k (fun vL vS => vc_ (vg_ vL h) vS) (fun _ _ _ hl _ _ kk => lv_iload_n E.1 E.2.1 hd rfl (hl.2.2 n.val _ h (fun q => by cases q)) kk)
theorem so_lload {n : Nat} {z : Int} (E : EN_ X G own cc nL rty) (hd : decode cc pc = .ok (.lload n, 2)) (h : L[n]? = some (1, z)) (k : WP_ X G Q cl sl ad shs σ (pc + 2) L ((1, z) :: S)) : WP_ X G Q cl sl ad shs σ pc L S :=
  wpp_ k (fun vL vS => vc_ (vg_ vL h) vS) (fun _ _ _ hl _ _ kk => lv_lload E.1 E.2.1 hd (hl.2.2 n _ h (fun q => by cases q)) kk)
theorem so_lload_n {n : Fin 4} {z : Int} (E : EN_ X G own cc nL rty) (hd : decode cc pc = .ok (.lload_n n, 1)) (h : L[n.val]? = some (1, z)) (k : WP_ X G Q cl sl ad shs σ (pc + 1) L ((1, z) :: S)) : WP_ X G Q cl sl ad shs σ pc L S :=
  wpp_ k (fun vL vS => vc_ (vg_ vL h) vS) (fun _ _ _ hl _ _ kk => lv_lload_n E.1 E.2.1 hd rfl (hl.2.2 n.val _ h (fun q => by cases q)) kk)
theorem so_aload {n t : Nat} {z : Int} (E : EN_ X G own cc nL rty) (hd : decode cc pc = .ok (.aload n, 2)) (h : L[n]? = some (t + 10, z)) (k : WP_ X G Q cl sl ad shs σ (pc + 2) L ((t + 10, z) :: S)) : WP_ X G Q cl sl ad shs σ pc L S :=
  wpp_ k (fun vL vS => vc_ (vg_ vL h) vS) (fun _ _ _ hl vL _ kk => by
    have e := val_r (cs := G.2.2.1) (ad := ad) (t := t) (rs_ (vg_ vL h)).1
    have h1 := hl.2.2 n _ h (fun q => by simp at q)
    rw [e] at h1
    rw [List.map_cons, e] at kk
    exact lv_aload E.1 E.2.1 hd h1 kk)
theorem so_aload_n {n : Fin 4} {t : Nat} {z : Int} (E : EN_ X G own cc nL rty) (hd : decode cc pc = .ok (.aload_n n, 1)) (h : L[n.val]? = some (t + 10, z)) (k : WP_ X G Q cl sl ad shs σ (pc + 1) L ((t + 10, z) :: S)) : WP_ X G Q cl sl ad shs σ pc L S :=
  wpp_ k (fun vL vS => vc_ (vg_ vL h) vS) (fun _ _ _ hl vL _ kk => by
    have e := val_r (cs := G.2.2.1) (ad := ad) (t := t) (rs_ (vg_ vL h)).1
    have h1 := hl.2.2 n.val _ h (fun q => by simp at q)
    rw [e] at h1
    rw [List.map_cons, e] at kk
    exact lv_aload_n E.1 E.2.1 hd rfl h1 kk)
theorem so_aload4 {n : Nat} {z : Int} (E : EN_ X G own cc nL rty) (hd : decode cc pc = .ok (.aload n, 2)) (h : L[n]? = some (4, z)) (k : WP_ X G Q cl sl ad shs σ (pc + 2) L ((4, z) :: S)) : WP_ X G Q cl sl ad shs σ pc L S :=
  wpp_ k (fun vL vS => vc_ (vg_ vL h) vS) (fun _ _ _ hl _ _ kk => lv_aload E.1 E.2.1 hd (hl.2.2 n _ h (fun q => by cases q)) kk)
theorem so_aload4_n {n : Fin 4} {z : Int} (E : EN_ X G own cc nL rty) (hd : decode cc pc = .ok (.aload_n n, 1)) (h : L[n.val]? = some (4, z)) (k : WP_ X G Q cl sl ad shs σ (pc + 1) L ((4, z) :: S)) : WP_ X G Q cl sl ad shs σ pc L S :=
  wpp_ k (fun vL vS => vc_ (vg_ vL h) vS) (fun _ _ _ hl _ _ kk => lv_aload_n E.1 E.2.1 hd rfl (hl.2.2 n.val _ h (fun q => by cases q)) kk)
/-- a store into a local -/
theorem so_st1 {n : Nat} {v : Sv_t} (hn : n < L.length)
    (h : ∀ (H : Heap) (locs : List Loc) (ls : Array Slot), tv_ shs v → lv_has ls L.length (lvp_ G.2.2.1 ad L) → (∀ ls' : Array Slot, lv_has ls' L.length ((n, val_ G.2.2.1 ad v) :: (lvp_ G.2.2.1 ad L).filter (fun q => !(q.1 == n) && !(q.1 + 1 == n && q.2.category == 2))) → Wx_ X Q cl sl H locs pc' ls' (S.map (val_ G.2.2.1 ad))) → Wx_ X Q cl sl H locs pc ls ((v :: S).map (val_ G.2.2.1 ad)))
    (k : WP_ X G Q cl sl ad shs σ pc' (ls1_ L n v) S) : WP_ X G Q cl sl ad shs σ pc L (v :: S) :=
  fun hM hA H locs ls hP hD hS hl vL vS => h H locs ls (vt_ vS).1 (lh_has hl) fun ls' h' => k hM hA H locs ls' hP hD hS (lh_st1 hn h') (ls1_tv vL (vt_ vS).1) (vt_ vS).2
theorem so_st2 {n : Nat} {v : Sv_t} (hn : n + 1 < L.length)
    (h : ∀ (H : Heap) (locs : List Loc) (ls : Array Slot), tv_ shs v → lv_has ls L.length (lvp_ G.2.2.1 ad L) → (∀ ls' : Array Slot, lv_has ls' L.length ((n, val_ G.2.2.1 ad v) :: (lvp_ G.2.2.1 ad L).filter (fun q => !(q.1 == n) && (!(q.1 == n + 1) && !(q.1 + 1 == n && q.2.category == 2)))) → Wx_ X Q cl sl H locs pc' ls' (S.map (val_ G.2.2.1 ad))) → Wx_ X Q cl sl H locs pc ls ((v :: S).map (val_ G.2.2.1 ad)))
    (k : WP_ X G Q cl sl ad shs σ pc' (ls2_ L n v) S) : WP_ X G Q cl sl ad shs σ pc L (v :: S) :=
  fun hM hA H locs ls hP hD hS hl vL vS => h H locs ls (vt_ vS).1 (lh_has hl) fun ls' h' => k hM hA H locs ls' hP hD hS (lh_st2 hn h') (ls2_tv vL (vt_ vS).1) (vt_ vS).2
theorem so_istore {n : Nat} {z : Int} (E : EN_ X G own cc nL rty) (hd : decode cc pc = .ok (.istore n, 2)) (hn : n < L.length) (k : WP_ X G Q cl sl ad shs σ (pc + 2) (ls1_ L n (0, z)) S) : WP_ X G Q cl sl ad shs σ pc L ((0, z) :: S) :=
  so_st1 hn (fun _ _ _ _ hl kk => lv_istore E.1 E.2.1 hd hl hn rfl kk) k
theorem so_istore_n {n : Fin 4} {z : Int} (E : EN_ X G own cc nL rty) (hd : decode cc pc = .ok (.istore_n n, 1)) (hn : n.val < L.length) (k : WP_ X G Q cl sl ad shs σ (pc + 1) (ls1_ L n.val (0, z)) S) : WP_ X G Q cl sl ad shs σ pc L ((0, z) :: S) :=
  so_st1 hn (fun _ _ _ _ hl kk => lv_istore_n E.1 E.2.1 hd rfl hl hn rfl kk) k
theorem so_lstore {n : Nat} {z : Int} (E : EN_ X G own cc nL rty) (hd : decode cc pc = .ok (.lstore n, 2)) (hn : n + 1 < L.length) (k : WP_ X G Q cl sl ad shs σ (pc + 2) (ls2_ L n (1, z)) S) : WP_ X G Q cl sl ad shs σ pc L ((1, z) :: S) :=
  so_st2 hn (fun _ _ _ _ hl kk => lv_lstore E.1 E.2.1 hd hl hn rfl kk) k
theorem so_lstore_n {n : Fin 4} {z : Int} (E : EN_ X G own cc nL rty) (hd : decode cc pc = .ok (.lstore_n n, 1)) (hn : n.val + 1 < L.length) (k : WP_ X G Q cl sl ad shs σ (pc + 1) (ls2_ L n.val (1, z)) S) : WP_ X G Q cl sl ad shs σ pc L ((1, z) :: S) :=
  so_st2 hn (fun _ _ _ _ hl kk => lv_lstore_n E.1 E.2.1 hd rfl hl hn rfl kk) k
theorem so_astore {n t : Nat} {z : Int} (E : EN_ X G own cc nL rty) (hd : decode cc pc = .ok (.astore n, 2)) (hn : n < L.length) (k : WP_ X G Q cl sl ad shs σ (pc + 2) (ls1_ L n (t + 10, z)) S) : WP_ X G Q cl sl ad shs σ pc L ((t + 10, z) :: S) :=
  so_st1 hn (fun _ _ _ hv hl kk => by
    have e := val_r (cs := G.2.2.1) (ad := ad) (t := t) (rs_ hv).1
    rw [e] at kk
    rw [List.map_cons, e]
    exact lv_astore E.1 E.2.1 hd hl hn rfl kk) k
theorem so_astore_n {n : Fin 4} {t : Nat} {z : Int} (E : EN_ X G own cc nL rty) (hd : decode cc pc = .ok (.astore_n n, 1)) (hn : n.val < L.length) (k : WP_ X G Q cl sl ad shs σ (pc + 1) (ls1_ L n.val (t + 10, z)) S) : WP_ X G Q cl sl ad shs σ pc L ((t + 10, z) :: S) :=
  so_st1 hn (fun _ _ _ hv hl kk => by
    have e := val_r (cs := G.2.2.1) (ad := ad) (t := t) (rs_ hv).1
    rw [e] at kk
    rw [List.map_cons, e]
    exact lv_astore_n E.1 E.2.1 hd rfl hl hn rfl kk) k
theorem so_iinc {n : Nat} {z c : Int} (E : EN_ X G own cc nL rty) (hd : decode cc pc = .ok (.iinc n c, 3)) (h : L[n]? = some (0, z)) (hr : -2147483648 ≤ z + c ∧ z + c ≤ 2147483647) (k : WP_ X G Q cl sl ad shs σ (pc + 3) (ls1_ L n (0, z + c)) S) : WP_ X G Q cl sl ad shs σ pc L S := by
  intro hM hA H locs ls hP hD hS hl vL vS
  have hm : (n, Value.int (Int32.ofInt z)) ∈ lvp_ G.2.2.1 ad L := lvp_mem.mpr ⟨_, h, (fun q => by cases q), rfl⟩
  obtain ⟨i, hi⟩ := List.getElem?_of_mem hm
  have hn : n < L.length := (List.getElem?_eq_some_iff.mp h).1
  refine lv_iinc (v := Int32.ofInt (z + c)) E.1 E.2.1 hd (lh_has hl) hi (by rw [Int32.ofInt_add]) hn rfl fun ls' h' => k hM hA H locs ls' hP hD hS (lh_st1 (v := (0, z + c)) hn h') (ls1_tv vL hr) vS
end SND
end
section
set_option maxRecDepth 100000 in
theorem tb_dummy : True := trivial
set_option maxRecDepth 100000 in
theorem uX0 : ∀ w ∈ u_ws RX0 TX0 9, w ∈ gl_ := by
  show ∀ w ∈ [u_lay RX0 TX0 0, u_lay RX0 TX0 1, u_lay RX0 TX0 2, u_lay RX0 TX0 3, u_lay RX0 TX0 4, u_lay RX0 TX0 5, u_lay RX0 TX0 6, u_lay RX0 TX0 7, u_lay RX0 TX0 8], w ∈ gl_
  exact List.forall_mem_cons.mpr ⟨wg_ 295 (by decide +kernel) rfl, List.forall_mem_cons.mpr ⟨wg_ 297 (by decide +kernel) rfl, List.forall_mem_cons.mpr ⟨wg_ 299 (by decide +kernel) rfl, List.forall_mem_cons.mpr ⟨wg_ 301 (by decide +kernel) rfl, List.forall_mem_cons.mpr ⟨wg_ 303 (by decide +kernel) rfl, List.forall_mem_cons.mpr ⟨wg_ 305 (by decide +kernel) rfl, List.forall_mem_cons.mpr ⟨wg_ 307 (by decide +kernel) rfl, List.forall_mem_cons.mpr ⟨wg_ 309 (by decide +kernel) rfl, List.forall_mem_cons.mpr ⟨wg_ 311 (by decide +kernel) rfl, fun _ h => absurd h List.not_mem_nil⟩⟩⟩⟩⟩⟩⟩⟩⟩
set_option maxRecDepth 100000 in
theorem uX1 : ∀ w ∈ u_ws RX1 TX1 9, w ∈ gl_ := by
  show ∀ w ∈ [u_lay RX1 TX1 0, u_lay RX1 TX1 1, u_lay RX1 TX1 2, u_lay RX1 TX1 3, u_lay RX1 TX1 4, u_lay RX1 TX1 5, u_lay RX1 TX1 6, u_lay RX1 TX1 7, u_lay RX1 TX1 8], w ∈ gl_
  exact List.forall_mem_cons.mpr ⟨wg_ 199 (by decide +kernel) rfl, List.forall_mem_cons.mpr ⟨wg_ 201 (by decide +kernel) rfl, List.forall_mem_cons.mpr ⟨wg_ 203 (by decide +kernel) rfl, List.forall_mem_cons.mpr ⟨wg_ 205 (by decide +kernel) rfl, List.forall_mem_cons.mpr ⟨wg_ 207 (by decide +kernel) rfl, List.forall_mem_cons.mpr ⟨wg_ 209 (by decide +kernel) rfl, List.forall_mem_cons.mpr ⟨wg_ 211 (by decide +kernel) rfl, List.forall_mem_cons.mpr ⟨wg_ 213 (by decide +kernel) rfl, List.forall_mem_cons.mpr ⟨wg_ 215 (by decide +kernel) rfl, fun _ h => absurd h List.not_mem_nil⟩⟩⟩⟩⟩⟩⟩⟩⟩
set_option maxRecDepth 100000 in
theorem uX2 : ∀ w ∈ u_ws RX2 TX2 3, w ∈ gl_ := by
  show ∀ w ∈ [u_lay RX2 TX2 0, u_lay RX2 TX2 1, u_lay RX2 TX2 2], w ∈ gl_
  exact List.forall_mem_cons.mpr ⟨wg_ 343 (by decide +kernel) rfl, List.forall_mem_cons.mpr ⟨wg_ 345 (by decide +kernel) rfl, List.forall_mem_cons.mpr ⟨wg_ 347 (by decide +kernel) rfl, fun _ h => absurd h List.not_mem_nil⟩⟩⟩
set_option maxRecDepth 100000 in
theorem uX3 : ∀ w ∈ u_ws RX3 TX3 8, w ∈ gl_ := by
  show ∀ w ∈ [u_lay RX3 TX3 0, u_lay RX3 TX3 1, u_lay RX3 TX3 2, u_lay RX3 TX3 3, u_lay RX3 TX3 4, u_lay RX3 TX3 5, u_lay RX3 TX3 6, u_lay RX3 TX3 7], w ∈ gl_
  exact List.forall_mem_cons.mpr ⟨wg_ 138 (by decide +kernel) rfl, List.forall_mem_cons.mpr ⟨wg_ 140 (by decide +kernel) rfl, List.forall_mem_cons.mpr ⟨wg_ 142 (by decide +kernel) rfl, List.forall_mem_cons.mpr ⟨wg_ 144 (by decide +kernel) rfl, List.forall_mem_cons.mpr ⟨wg_ 146 (by decide +kernel) rfl, List.forall_mem_cons.mpr ⟨wg_ 148 (by decide +kernel) rfl, List.forall_mem_cons.mpr ⟨wg_ 150 (by decide +kernel) rfl, List.forall_mem_cons.mpr ⟨wg_ 152 (by decide +kernel) rfl, fun _ h => absurd h List.not_mem_nil⟩⟩⟩⟩⟩⟩⟩⟩
set_option maxRecDepth 100000 in
theorem uX4 : ∀ w ∈ u_ws RX4 TX4 4, w ∈ gl_ := by
  show ∀ w ∈ [u_lay RX4 TX4 0, u_lay RX4 TX4 1, u_lay RX4 TX4 2, u_lay RX4 TX4 3], w ∈ gl_
  exact List.forall_mem_cons.mpr ⟨wg_ 417 (by decide +kernel) rfl, List.forall_mem_cons.mpr ⟨wg_ 419 (by decide +kernel) rfl, List.forall_mem_cons.mpr ⟨wg_ 421 (by decide +kernel) rfl, List.forall_mem_cons.mpr ⟨wg_ 423 (by decide +kernel) rfl, fun _ h => absurd h List.not_mem_nil⟩⟩⟩⟩
set_option maxRecDepth 100000 in
theorem uX5 : ∀ w ∈ u_ws RX5 TX5 3, w ∈ gl_ := by
  show ∀ w ∈ [u_lay RX5 TX5 0, u_lay RX5 TX5 1, u_lay RX5 TX5 2], w ∈ gl_
  exact List.forall_mem_cons.mpr ⟨wg_ 326 (by decide +kernel) rfl, List.forall_mem_cons.mpr ⟨wg_ 328 (by decide +kernel) rfl, List.forall_mem_cons.mpr ⟨wg_ 330 (by decide +kernel) rfl, fun _ h => absurd h List.not_mem_nil⟩⟩⟩
set_option maxRecDepth 100000 in
theorem uX6 : ∀ w ∈ u_ws RX6 TX6 5, w ∈ gl_ := by
  show ∀ w ∈ [u_lay RX6 TX6 0, u_lay RX6 TX6 1, u_lay RX6 TX6 2, u_lay RX6 TX6 3, u_lay RX6 TX6 4], w ∈ gl_
  exact List.forall_mem_cons.mpr ⟨wg_ 365 (by decide +kernel) rfl, List.forall_mem_cons.mpr ⟨wg_ 367 (by decide +kernel) rfl, List.forall_mem_cons.mpr ⟨wg_ 369 (by decide +kernel) rfl, List.forall_mem_cons.mpr ⟨wg_ 371 (by decide +kernel) rfl, List.forall_mem_cons.mpr ⟨wg_ 373 (by decide +kernel) rfl, fun _ h => absurd h List.not_mem_nil⟩⟩⟩⟩⟩
set_option maxRecDepth 100000 in
theorem uX7 : ∀ w ∈ u_ws RX7 TX7 5, w ∈ gl_ := by
  show ∀ w ∈ [u_lay RX7 TX7 0, u_lay RX7 TX7 1, u_lay RX7 TX7 2, u_lay RX7 TX7 3, u_lay RX7 TX7 4], w ∈ gl_
  exact List.forall_mem_cons.mpr ⟨wg_ 389 (by decide +kernel) rfl, List.forall_mem_cons.mpr ⟨wg_ 391 (by decide +kernel) rfl, List.forall_mem_cons.mpr ⟨wg_ 393 (by decide +kernel) rfl, List.forall_mem_cons.mpr ⟨wg_ 395 (by decide +kernel) rfl, List.forall_mem_cons.mpr ⟨wg_ 397 (by decide +kernel) rfl, fun _ h => absurd h List.not_mem_nil⟩⟩⟩⟩⟩
set_option maxRecDepth 100000 in
theorem uX8 : ∀ w ∈ u_ws RX8 TX8 2, w ∈ gl_ := by
  show ∀ w ∈ [u_lay RX8 TX8 0, u_lay RX8 TX8 1], w ∈ gl_
  exact List.forall_mem_cons.mpr ⟨wg_ 116 (by decide +kernel) rfl, List.forall_mem_cons.mpr ⟨wg_ 118 (by decide +kernel) rfl, fun _ h => absurd h List.not_mem_nil⟩⟩
set_option maxRecDepth 100000 in
theorem uX9 : ∀ w ∈ u_ws RX9 TX9 10, w ∈ gl_ := by
  show ∀ w ∈ [u_lay RX9 TX9 0, u_lay RX9 TX9 1, u_lay RX9 TX9 2, u_lay RX9 TX9 3, u_lay RX9 TX9 4, u_lay RX9 TX9 5, u_lay RX9 TX9 6, u_lay RX9 TX9 7, u_lay RX9 TX9 8, u_lay RX9 TX9 9], w ∈ gl_
  exact List.forall_mem_cons.mpr ⟨wg_ 250 (by decide +kernel) rfl, List.forall_mem_cons.mpr ⟨wg_ 252 (by decide +kernel) rfl, List.forall_mem_cons.mpr ⟨wg_ 254 (by decide +kernel) rfl, List.forall_mem_cons.mpr ⟨wg_ 256 (by decide +kernel) rfl, List.forall_mem_cons.mpr ⟨wg_ 258 (by decide +kernel) rfl, List.forall_mem_cons.mpr ⟨wg_ 260 (by decide +kernel) rfl, List.forall_mem_cons.mpr ⟨wg_ 262 (by decide +kernel) rfl, List.forall_mem_cons.mpr ⟨wg_ 264 (by decide +kernel) rfl, List.forall_mem_cons.mpr ⟨wg_ 266 (by decide +kernel) rfl, List.forall_mem_cons.mpr ⟨wg_ 268 (by decide +kernel) rfl, fun _ h => absurd h List.not_mem_nil⟩⟩⟩⟩⟩⟩⟩⟩⟩⟩
set_option maxRecDepth 100000 in
theorem uX10 : ∀ w ∈ u_ws RX10 TX10 14, w ∈ gl_ := by
  show ∀ w ∈ [u_lay RX10 TX10 0, u_lay RX10 TX10 1, u_lay RX10 TX10 2, u_lay RX10 TX10 3, u_lay RX10 TX10 4, u_lay RX10 TX10 5, u_lay RX10 TX10 6, u_lay RX10 TX10 7, u_lay RX10 TX10 8, u_lay RX10 TX10 9, u_lay RX10 TX10 10, u_lay RX10 TX10 11, u_lay RX10 TX10 12, u_lay RX10 TX10 13], w ∈ gl_
  exact List.forall_mem_cons.mpr ⟨wg_ 441 (by decide +kernel) rfl, List.forall_mem_cons.mpr ⟨wg_ 443 (by decide +kernel) rfl, List.forall_mem_cons.mpr ⟨wg_ 445 (by decide +kernel) rfl, List.forall_mem_cons.mpr ⟨wg_ 447 (by decide +kernel) rfl, List.forall_mem_cons.mpr ⟨wg_ 449 (by decide +kernel) rfl, List.forall_mem_cons.mpr ⟨wg_ 451 (by decide +kernel) rfl, List.forall_mem_cons.mpr ⟨wg_ 453 (by decide +kernel) rfl, List.forall_mem_cons.mpr ⟨wg_ 455 (by decide +kernel) rfl, List.forall_mem_cons.mpr ⟨wg_ 457 (by decide +kernel) rfl, List.forall_mem_cons.mpr ⟨wg_ 459 (by decide +kernel) rfl, List.forall_mem_cons.mpr ⟨wg_ 461 (by decide +kernel) rfl, List.forall_mem_cons.mpr ⟨wg_ 463 (by decide +kernel) rfl, List.forall_mem_cons.mpr ⟨wg_ 465 (by decide +kernel) rfl, List.forall_mem_cons.mpr ⟨wg_ 467 (by decide +kernel) rfl, fun _ h => absurd h List.not_mem_nil⟩⟩⟩⟩⟩⟩⟩⟩⟩⟩⟩⟩⟩⟩
set_option maxRecDepth 100000 in
theorem uX11 : ∀ w ∈ u_ws RX11 TX11 39, w ∈ gl_ := by
  show ∀ w ∈ [u_lay RX11 TX11 0, u_lay RX11 TX11 1, u_lay RX11 TX11 2, u_lay RX11 TX11 3, u_lay RX11 TX11 4, u_lay RX11 TX11 5, u_lay RX11 TX11 6, u_lay RX11 TX11 7, u_lay RX11 TX11 8, u_lay RX11 TX11 9, u_lay RX11 TX11 10, u_lay RX11 TX11 11, u_lay RX11 TX11 12, u_lay RX11 TX11 13, u_lay RX11 TX11 14, u_lay RX11 TX11 15, u_lay RX11 TX11 16, u_lay RX11 TX11 17, u_lay RX11 TX11 18, u_lay RX11 TX11 19, u_lay RX11 TX11 20, u_lay RX11 TX11 21, u_lay RX11 TX11 22, u_lay RX11 TX11 23, u_lay RX11 TX11 24, u_lay RX11 TX11 25, u_lay RX11 TX11 26, u_lay RX11 TX11 27, u_lay RX11 TX11 28, u_lay RX11 TX11 29, u_lay RX11 TX11 30, u_lay RX11 TX11 31, u_lay RX11 TX11 32, u_lay RX11 TX11 33, u_lay RX11 TX11 34, u_lay RX11 TX11 35, u_lay RX11 TX11 36, u_lay RX11 TX11 37, u_lay RX11 TX11 38], w ∈ gl_
  exact List.forall_mem_cons.mpr ⟨wg_ 1269 (by decide +kernel) rfl, List.forall_mem_cons.mpr ⟨wg_ 1271 (by decide +kernel) rfl, List.forall_mem_cons.mpr ⟨wg_ 1273 (by decide +kernel) rfl, List.forall_mem_cons.mpr ⟨wg_ 1275 (by decide +kernel) rfl, List.forall_mem_cons.mpr ⟨wg_ 1277 (by decide +kernel) rfl, List.forall_mem_cons.mpr ⟨wg_ 1279 (by decide +kernel) rfl, List.forall_mem_cons.mpr ⟨wg_ 1281 (by decide +kernel) rfl, List.forall_mem_cons.mpr ⟨wg_ 1283 (by decide +kernel) rfl, List.forall_mem_cons.mpr ⟨wg_ 1285 (by decide +kernel) rfl, List.forall_mem_cons.mpr ⟨wg_ 1287 (by decide +kernel) rfl, List.forall_mem_cons.mpr ⟨wg_ 1289 (by decide +kernel) rfl, List.forall_mem_cons.mpr ⟨wg_ 1291 (by decide +kernel) rfl, List.forall_mem_cons.mpr ⟨wg_ 1293 (by decide +kernel) rfl, List.forall_mem_cons.mpr ⟨wg_ 1295 (by decide +kernel) rfl, List.forall_mem_cons.mpr ⟨wg_ 1297 (by decide +kernel) rfl, List.forall_mem_cons.mpr ⟨wg_ 1299 (by decide +kernel) rfl, List.forall_mem_cons.mpr ⟨wg_ 1301 (by decide +kernel) rfl, List.forall_mem_cons.mpr ⟨wg_ 1303 (by decide +kernel) rfl, List.forall_mem_cons.mpr ⟨wg_ 1305 (by decide +kernel) rfl, List.forall_mem_cons.mpr ⟨wg_ 1307 (by decide +kernel) rfl, List.forall_mem_cons.mpr ⟨wg_ 1309 (by decide +kernel) rfl, List.forall_mem_cons.mpr ⟨wg_ 1311 (by decide +kernel) rfl, List.forall_mem_cons.mpr ⟨wg_ 1313 (by decide +kernel) rfl, List.forall_mem_cons.mpr ⟨wg_ 1315 (by decide +kernel) rfl, List.forall_mem_cons.mpr ⟨wg_ 1317 (by decide +kernel) rfl, List.forall_mem_cons.mpr ⟨wg_ 1319 (by decide +kernel) rfl, List.forall_mem_cons.mpr ⟨wg_ 1321 (by decide +kernel) rfl, List.forall_mem_cons.mpr ⟨wg_ 1323 (by decide +kernel) rfl, List.forall_mem_cons.mpr ⟨wg_ 1325 (by decide +kernel) rfl, List.forall_mem_cons.mpr ⟨wg_ 1327 (by decide +kernel) rfl, List.forall_mem_cons.mpr ⟨wg_ 1329 (by decide +kernel) rfl, List.forall_mem_cons.mpr ⟨wg_ 1331 (by decide +kernel) rfl, List.forall_mem_cons.mpr ⟨wg_ 1333 (by decide +kernel) rfl, List.forall_mem_cons.mpr ⟨wg_ 1335 (by decide +kernel) rfl, List.forall_mem_cons.mpr ⟨wg_ 1337 (by decide +kernel) rfl, List.forall_mem_cons.mpr ⟨wg_ 1339 (by decide +kernel) rfl, List.forall_mem_cons.mpr ⟨wg_ 1341 (by decide +kernel) rfl, List.forall_mem_cons.mpr ⟨wg_ 1343 (by decide +kernel) rfl, List.forall_mem_cons.mpr ⟨wg_ 1345 (by decide +kernel) rfl, fun _ h => absurd h List.not_mem_nil⟩⟩⟩⟩⟩⟩⟩⟩⟩⟩⟩⟩⟩⟩⟩⟩⟩⟩⟩⟩⟩⟩⟩⟩⟩⟩⟩⟩⟩⟩⟩⟩⟩⟩⟩⟩⟩⟩⟩
set_option maxRecDepth 100000 in
theorem CL_ok : CL_ := by
  intro c C T N h
  match c, h with
  | 0, h => cases h; exact ⟨uX0, tyX0_ok, nmX0⟩
  | 1, h => cases h; exact ⟨uX1, tyX1_ok, nmX1⟩
  | 2, h => cases h; exact ⟨uX2, tyX2_ok, nmX2⟩
  | 3, h => cases h; exact ⟨uX3, tyX3_ok, nmX3⟩
  | 4, h => cases h; exact ⟨uX4, tyX4_ok, nmX4⟩
  | 5, h => cases h; exact ⟨uX5, tyX5_ok, nmX5⟩
  | 6, h => cases h; exact ⟨uX6, tyX6_ok, nmX6⟩
  | 7, h => cases h; exact ⟨uX7, tyX7_ok, nmX7⟩
  | 8, h => cases h; exact ⟨uX8, tyX8_ok, nmX8⟩
  | 9, h => cases h; exact ⟨uX9, tyX9_ok, nmX9⟩
  | 10, h => cases h; exact ⟨uX10, tyX10_ok, nmX10⟩
  | 11, h => cases h; exact ⟨uX11, tyX11_ok, nmX11⟩
  | c + 12, h => simp at h
set_option maxRecDepth 100000 in
theorem KT_lt {sh : Nat} (h : (KT_ sh).1 < 9) : sh < 83 := by
  rcases Nat.lt_or_ge sh 83 with q | q
  · exact q
  · have : KT_ sh = (9, 0, 0) := by unfold KT_; rw [List.getD_eq_getElem?_getD, List.getElem?_eq_none (by show 83 ≤ sh; exact q)]; rfl
    rw [this] at h
    exact absurd h (by decide)
set_option maxRecDepth 100000 in
theorem SH_b : ∀ sh, sh < 83 → (KT_ sh).1 = 0 → (cls_[(KT_ sh).2.1]?.map fun q => q.2.2) = some (KT_ sh).2.2 ∧ ∀ j, j < (KT_ sh).2.2 → tyok_ (tyF_ (KT_ sh).2.1 j) (ty_ sh j) = true := by decide +kernel
set_option maxRecDepth 100000 in
theorem SH_ok : SH_ := by
  intro sh c n h
  have hlt := KT_lt (sh := sh) (by rw [h]; exact (by decide : (0 : Nat) < 9))
  obtain ⟨h1, h2⟩ := SH_b sh hlt (by rw [h])
  rw [h] at h1 h2
  simp only at h1 h2
  refine ⟨?_, h2⟩
  cases hc : cls_[c]? with
  | none => rw [hc] at h1; cases h1
  | some q =>
    rw [hc] at h1
    obtain ⟨C, T, N⟩ := q
    simp only [Option.map_some, Option.some.injEq] at h1
    subst h1
    exact ⟨C, T, rfl⟩
set_option maxRecDepth 100000 in
theorem sa_9 {sh : Nat} (h : KT_ sh = (9, 0, 0)) : ∀ (a c n : Nat), KT_ sh = (a, c, n) → a = 9 ∧ n = 0 := by
  intro a c n h2
  rw [h] at h2
  cases h2
  exact ⟨rfl, rfl⟩
set_option maxRecDepth 100000 in
theorem SA_ok : SA_ := by
  intro sh a c n h
  by_cases hlt : sh < 83
  · match sh, hlt, h with
    | 0, _, h => cases h; exact ⟨(fun q => by cases q), (fun q => by cases q), (fun q => by cases q), (fun q => by cases q), (fun q => by cases q), (fun _ _ _ _ _ => rfl), (fun q => by omega), by decide⟩
    | 1, _, h => cases h; exact ⟨(fun q => by cases q), (fun q => by cases q), (fun q => by cases q), (fun q => by cases q), (fun q => by cases q), (fun _ _ _ _ _ => rfl), (fun q => by omega), by decide⟩
    | 2, _, h => cases h; exact ⟨(fun q => by cases q), (fun _ _ => ⟨rfl, rfl, by decide, by decide⟩), (fun q => by cases q), (fun q => by cases q), (fun q => by cases q), (fun q => by cases q), (fun _ _ _ _ _ => rfl), by decide⟩
    | 3, _, h => cases h; exact ⟨(fun q => by cases q), (fun q => by cases q), (fun q => by cases q), (fun q => by cases q), (fun q => by cases q), (fun _ _ _ _ _ => rfl), (fun q => by omega), by decide⟩
    | 4, _, h => cases h; exact ⟨(fun q => by cases q), (fun _ _ => ⟨rfl, rfl, by decide, by decide⟩), (fun q => by cases q), (fun q => by cases q), (fun q => by cases q), (fun q => by cases q), (fun _ _ _ _ _ => rfl), by decide⟩
    | 5, _, h => cases h; exact ⟨(fun q => by cases q), (fun q => by cases q), (fun q => by cases q), (fun q => by cases q), (fun q => by cases q), (fun _ _ _ _ _ => rfl), (fun q => by omega), by decide⟩
    | 6, _, h => cases h; exact ⟨(fun q => by cases q), (fun q => by cases q), (fun q => by cases q), (fun q => by cases q), (fun _ => ⟨fun _ => rfl, by decide, by decide, fun _ _ _ => rfl⟩), (fun q => by cases q), (fun _ q => by omega), by decide⟩
    | 7, _, h => cases h; exact ⟨(fun _ _ => ⟨rfl, rfl⟩), (fun q => by cases q), (fun q => by cases q), (fun q => by cases q), (fun q => by cases q), (fun q => by cases q), (fun _ _ _ _ _ => rfl), by decide⟩
    | 8, _, h => cases h; exact ⟨(fun _ _ => ⟨rfl, rfl⟩), (fun q => by cases q), (fun q => by cases q), (fun q => by cases q), (fun q => by cases q), (fun q => by cases q), (fun _ _ _ _ _ => rfl), by decide⟩
    | 9, _, h => cases h; exact ⟨(fun _ _ => ⟨rfl, rfl⟩), (fun q => by cases q), (fun q => by cases q), (fun q => by cases q), (fun q => by cases q), (fun q => by cases q), (fun _ _ _ _ _ => rfl), by decide⟩
    | 10, _, h => cases h; exact ⟨(fun q => by cases q), (fun q => by cases q), (fun q => by cases q), (fun q => by cases q), (fun q => by cases q), (fun _ _ _ _ _ => rfl), (fun q => by omega), by decide⟩
    | 11, _, h => cases h; exact ⟨(fun _ _ => ⟨rfl, rfl⟩), (fun q => by cases q), (fun q => by cases q), (fun q => by cases q), (fun q => by cases q), (fun q => by cases q), (fun _ _ _ _ _ => rfl), by decide⟩
    | 12, _, h => cases h; exact ⟨(fun q => by cases q), (fun q => by cases q), (fun q => by cases q), (fun q => by cases q), (fun _ => ⟨fun _ => rfl, by decide, by decide, fun _ _ _ => rfl⟩), (fun q => by cases q), (fun _ q => by omega), by decide⟩
    | 13, _, h => cases h; exact ⟨(fun q => by cases q), (fun q => by cases q), (fun _ _ => ⟨rfl, rfl, by decide, by decide⟩), (fun q => by cases q), (fun q => by cases q), (fun q => by cases q), (fun _ _ _ _ _ => rfl), by decide⟩
    | 14, _, h => cases h; exact ⟨(fun q => by cases q), (fun q => by cases q), (fun q => by cases q), (fun q => by cases q), (fun _ => ⟨fun _ => rfl, by decide, by decide, fun _ _ _ => rfl⟩), (fun q => by cases q), (fun _ q => by omega), by decide⟩
    | 15, _, h => cases h; exact ⟨(fun q => by cases q), (fun q => by cases q), (fun q => by cases q), (fun q => by cases q), (fun q => by cases q), (fun _ _ _ _ _ => rfl), (fun q => by omega), by decide⟩
    | 16, _, h => cases h; exact ⟨(fun _ _ => ⟨rfl, rfl⟩), (fun q => by cases q), (fun q => by cases q), (fun q => by cases q), (fun q => by cases q), (fun q => by cases q), (fun _ _ _ _ _ => rfl), by decide⟩
    | 17, _, h => cases h; exact ⟨(fun q => by cases q), (fun _ _ => ⟨rfl, rfl, by decide, by decide⟩), (fun q => by cases q), (fun q => by cases q), (fun q => by cases q), (fun q => by cases q), (fun _ _ _ _ _ => rfl), by decide⟩
    | 18, _, h => cases h; exact ⟨(fun q => by cases q), (fun _ _ => ⟨rfl, rfl, by decide, by decide⟩), (fun q => by cases q), (fun q => by cases q), (fun q => by cases q), (fun q => by cases q), (fun _ _ _ _ _ => rfl), by decide⟩
    | 19, _, h => cases h; exact ⟨(fun q => by cases q), (fun q => by cases q), (fun q => by cases q), (fun q => by cases q), (fun q => by cases q), (fun _ _ _ _ _ => rfl), (fun q => by omega), by decide⟩
    | 20, _, h => cases h; exact ⟨(fun q => by cases q), (fun q => by cases q), (fun _ _ => ⟨rfl, rfl, by decide, by decide⟩), (fun q => by cases q), (fun q => by cases q), (fun q => by cases q), (fun _ _ _ _ _ => rfl), by decide⟩
    | 21, _, h => cases h; exact ⟨(fun q => by cases q), (fun q => by cases q), (fun q => by cases q), (fun q => by cases q), (fun q => by cases q), (fun _ _ _ _ _ => rfl), (fun q => by omega), by decide⟩
    | 22, _, h => cases h; exact ⟨(fun _ _ => ⟨rfl, rfl⟩), (fun q => by cases q), (fun q => by cases q), (fun q => by cases q), (fun q => by cases q), (fun q => by cases q), (fun _ _ _ _ _ => rfl), by decide⟩
    | 23, _, h => cases h; exact ⟨(fun _ _ => ⟨rfl, rfl⟩), (fun q => by cases q), (fun q => by cases q), (fun q => by cases q), (fun q => by cases q), (fun q => by cases q), (fun _ _ _ _ _ => rfl), by decide⟩
    | 24, _, h => cases h; exact ⟨(fun q => by cases q), (fun q => by cases q), (fun q => by cases q), (fun q => by cases q), (fun q => by cases q), (fun _ _ _ _ _ => rfl), (fun q => by omega), by decide⟩
    | 25, _, h => cases h; exact ⟨(fun _ _ => ⟨rfl, rfl⟩), (fun q => by cases q), (fun q => by cases q), (fun q => by cases q), (fun q => by cases q), (fun q => by cases q), (fun _ _ _ _ _ => rfl), by decide⟩
    | 26, _, h => cases h; exact ⟨(fun _ _ => ⟨rfl, rfl⟩), (fun q => by cases q), (fun q => by cases q), (fun q => by cases q), (fun q => by cases q), (fun q => by cases q), (fun _ _ _ _ _ => rfl), by decide⟩
    | 27, _, h => cases h; exact ⟨(fun q => by cases q), (fun q => by cases q), (fun q => by cases q), (fun q => by cases q), (fun q => by cases q), (fun _ _ _ _ _ => rfl), (fun q => by omega), by decide⟩
    | 28, _, h => cases h; exact ⟨(fun _ _ => ⟨rfl, rfl⟩), (fun q => by cases q), (fun q => by cases q), (fun q => by cases q), (fun q => by cases q), (fun q => by cases q), (fun _ _ _ _ _ => rfl), by decide⟩
    | 29, _, h => cases h; exact ⟨(fun _ _ => ⟨rfl, rfl⟩), (fun q => by cases q), (fun q => by cases q), (fun q => by cases q), (fun q => by cases q), (fun q => by cases q), (fun _ _ _ _ _ => rfl), by decide⟩
    | 30, _, h => cases h; exact ⟨(fun q => by cases q), (fun q => by cases q), (fun q => by cases q), (fun q => by cases q), (fun q => by cases q), (fun _ _ _ _ _ => rfl), (fun q => by omega), by decide⟩
    | 31, _, h => cases h; exact ⟨(fun q => by cases q), (fun q => by cases q), (fun q => by cases q), (fun _ _ => ⟨rfl, rfl⟩), (fun q => by cases q), (fun q => by cases q), (fun _ _ _ _ _ => rfl), by decide⟩
    | 32, _, h => cases h; exact ⟨(fun q => by cases q), (fun q => by cases q), (fun q => by cases q), (fun q => by cases q), (fun q => by cases q), (fun _ _ _ _ _ => rfl), (fun q => by omega), by decide⟩
    | 33, _, h => cases h; exact ⟨(fun _ _ => ⟨rfl, rfl⟩), (fun q => by cases q), (fun q => by cases q), (fun q => by cases q), (fun q => by cases q), (fun q => by cases q), (fun _ _ _ _ _ => rfl), by decide⟩
    | 34, _, h => cases h; exact ⟨(fun _ _ => ⟨rfl, rfl⟩), (fun q => by cases q), (fun q => by cases q), (fun q => by cases q), (fun q => by cases q), (fun q => by cases q), (fun _ _ _ _ _ => rfl), by decide⟩
    | 35, _, h => cases h; exact ⟨(fun q => by cases q), (fun q => by cases q), (fun _ _ => ⟨rfl, rfl, by decide, by decide⟩), (fun q => by cases q), (fun q => by cases q), (fun q => by cases q), (fun _ _ _ _ _ => rfl), by decide⟩
    | 36, _, h => cases h; exact ⟨(fun q => by cases q), (fun _ _ => ⟨rfl, rfl, by decide, by decide⟩), (fun q => by cases q), (fun q => by cases q), (fun q => by cases q), (fun q => by cases q), (fun _ _ _ _ _ => rfl), by decide⟩
    | 37, _, h => cases h; exact ⟨(fun _ _ => ⟨rfl, rfl⟩), (fun q => by cases q), (fun q => by cases q), (fun q => by cases q), (fun q => by cases q), (fun q => by cases q), (fun _ _ _ _ _ => rfl), by decide⟩
    | 38, _, h => cases h; exact ⟨(fun _ _ => ⟨rfl, rfl⟩), (fun q => by cases q), (fun q => by cases q), (fun q => by cases q), (fun q => by cases q), (fun q => by cases q), (fun _ _ _ _ _ => rfl), by decide⟩
    | 39, _, h => cases h; exact ⟨(fun _ _ => ⟨rfl, rfl⟩), (fun q => by cases q), (fun q => by cases q), (fun q => by cases q), (fun q => by cases q), (fun q => by cases q), (fun _ _ _ _ _ => rfl), by decide⟩
    | 40, _, h => cases h; exact ⟨(fun _ _ => ⟨rfl, rfl⟩), (fun q => by cases q), (fun q => by cases q), (fun q => by cases q), (fun q => by cases q), (fun q => by cases q), (fun _ _ _ _ _ => rfl), by decide⟩
    | 41, _, h => cases h; exact ⟨(fun _ _ => ⟨rfl, rfl⟩), (fun q => by cases q), (fun q => by cases q), (fun q => by cases q), (fun q => by cases q), (fun q => by cases q), (fun _ _ _ _ _ => rfl), by decide⟩
    | 42, _, h => cases h; exact ⟨(fun _ _ => ⟨rfl, rfl⟩), (fun q => by cases q), (fun q => by cases q), (fun q => by cases q), (fun q => by cases q), (fun q => by cases q), (fun _ _ _ _ _ => rfl), by decide⟩
    | 43, _, h => cases h; exact ⟨(fun q => by cases q), (fun q => by cases q), (fun _ _ => ⟨rfl, rfl, by decide, by decide⟩), (fun q => by cases q), (fun q => by cases q), (fun q => by cases q), (fun _ _ _ _ _ => rfl), by decide⟩
    | 44, _, h => cases h; exact ⟨(fun _ _ => ⟨rfl, rfl⟩), (fun q => by cases q), (fun q => by cases q), (fun q => by cases q), (fun q => by cases q), (fun q => by cases q), (fun _ _ _ _ _ => rfl), by decide⟩
    | 45, _, h => cases h; exact ⟨(fun _ _ => ⟨rfl, rfl⟩), (fun q => by cases q), (fun q => by cases q), (fun q => by cases q), (fun q => by cases q), (fun q => by cases q), (fun _ _ _ _ _ => rfl), by decide⟩
    | 46, _, h => cases h; exact ⟨(fun _ _ => ⟨rfl, rfl⟩), (fun q => by cases q), (fun q => by cases q), (fun q => by cases q), (fun q => by cases q), (fun q => by cases q), (fun _ _ _ _ _ => rfl), by decide⟩
    | 47, _, h => cases h; exact ⟨(fun _ _ => ⟨rfl, rfl⟩), (fun q => by cases q), (fun q => by cases q), (fun q => by cases q), (fun q => by cases q), (fun q => by cases q), (fun _ _ _ _ _ => rfl), by decide⟩
    | 48, _, h => cases h; exact ⟨(fun _ _ => ⟨rfl, rfl⟩), (fun q => by cases q), (fun q => by cases q), (fun q => by cases q), (fun q => by cases q), (fun q => by cases q), (fun _ _ _ _ _ => rfl), by decide⟩
    | 49, _, h => cases h; exact ⟨(fun _ _ => ⟨rfl, rfl⟩), (fun q => by cases q), (fun q => by cases q), (fun q => by cases q), (fun q => by cases q), (fun q => by cases q), (fun _ _ _ _ _ => rfl), by decide⟩
    | 50, _, h => cases h; exact ⟨(fun q => by cases q), (fun q => by cases q), (fun q => by cases q), (fun _ _ => ⟨rfl, rfl⟩), (fun q => by cases q), (fun q => by cases q), (fun _ _ _ _ _ => rfl), by decide⟩
    | 51, _, h => cases h; exact ⟨(fun q => by cases q), (fun q => by cases q), (fun q => by cases q), (fun _ _ => ⟨rfl, rfl⟩), (fun q => by cases q), (fun q => by cases q), (fun _ _ _ _ _ => rfl), by decide⟩
    | 52, _, h => cases h; exact ⟨(fun q => by cases q), (fun q => by cases q), (fun q => by cases q), (fun q => by cases q), (fun q => by cases q), (fun q => by cases q), (fun _ q => by omega), by decide⟩
    | 53, _, h => cases h; exact ⟨(fun q => by cases q), (fun q => by cases q), (fun q => by cases q), (fun q => by cases q), (fun q => by cases q), (fun q => by cases q), (fun _ q => by omega), by decide⟩
    | 54, _, h => cases h; exact ⟨(fun q => by cases q), (fun q => by cases q), (fun q => by cases q), (fun q => by cases q), (fun q => by cases q), (fun q => by cases q), (fun _ q => by omega), by decide⟩
    | 55, _, h => cases h; exact ⟨(fun q => by cases q), (fun q => by cases q), (fun q => by cases q), (fun q => by cases q), (fun q => by cases q), (fun q => by cases q), (fun _ q => by omega), by decide⟩
    | 56, _, h => cases h; exact ⟨(fun q => by cases q), (fun q => by cases q), (fun q => by cases q), (fun q => by cases q), (fun q => by cases q), (fun q => by cases q), (fun _ q => by omega), by decide⟩
    | 57, _, h => cases h; exact ⟨(fun q => by cases q), (fun q => by cases q), (fun q => by cases q), (fun q => by cases q), (fun q => by cases q), (fun q => by cases q), (fun _ q => by omega), by decide⟩
    | 58, _, h => cases h; exact ⟨(fun q => by cases q), (fun q => by cases q), (fun q => by cases q), (fun q => by cases q), (fun q => by cases q), (fun q => by cases q), (fun _ q => by omega), by decide⟩
    | 59, _, h => cases h; exact ⟨(fun q => by cases q), (fun q => by cases q), (fun q => by cases q), (fun q => by cases q), (fun q => by cases q), (fun q => by cases q), (fun _ q => by omega), by decide⟩
    | 60, _, h => cases h; exact ⟨(fun q => by cases q), (fun q => by cases q), (fun q => by cases q), (fun q => by cases q), (fun q => by cases q), (fun _ _ _ _ _ => rfl), (fun q => by omega), by decide⟩
    | 61, _, h => cases h; exact ⟨(fun q => by cases q), (fun q => by cases q), (fun q => by cases q), (fun q => by cases q), (fun q => by cases q), (fun _ _ _ _ _ => rfl), (fun q => by omega), by decide⟩
    | 62, _, h => cases h; exact ⟨(fun q => by cases q), (fun q => by cases q), (fun q => by cases q), (fun q => by cases q), (fun q => by cases q), (fun _ _ _ _ _ => rfl), (fun q => by omega), by decide⟩
    | 63, _, h => cases h; exact ⟨(fun q => by cases q), (fun q => by cases q), (fun q => by cases q), (fun q => by cases q), (fun q => by cases q), (fun _ _ _ _ _ => rfl), (fun q => by omega), by decide⟩
    | 64, _, h => cases h; exact ⟨(fun q => by cases q), (fun q => by cases q), (fun q => by cases q), (fun q => by cases q), (fun q => by cases q), (fun _ _ _ _ _ => rfl), (fun q => by omega), by decide⟩
    | 65, _, h => cases h; exact ⟨(fun q => by cases q), (fun q => by cases q), (fun q => by cases q), (fun q => by cases q), (fun q => by cases q), (fun _ _ _ _ _ => rfl), (fun q => by omega), by decide⟩
    | 66, _, h => cases h; exact ⟨(fun q => by cases q), (fun q => by cases q), (fun q => by cases q), (fun q => by cases q), (fun q => by cases q), (fun _ _ _ _ _ => rfl), (fun q => by omega), by decide⟩
    | 67, _, h => cases h; exact ⟨(fun q => by cases q), (fun q => by cases q), (fun q => by cases q), (fun q => by cases q), (fun q => by cases q), (fun _ _ _ _ _ => rfl), (fun q => by omega), by decide⟩
    | 68, _, h => cases h; exact ⟨(fun q => by cases q), (fun q => by cases q), (fun q => by cases q), (fun q => by cases q), (fun q => by cases q), (fun _ _ _ _ _ => rfl), (fun q => by omega), by decide⟩
    | 69, _, h => cases h; exact ⟨(fun q => by cases q), (fun q => by cases q), (fun q => by cases q), (fun q => by cases q), (fun q => by cases q), (fun _ _ _ _ _ => rfl), (fun q => by omega), by decide⟩
    | 70, _, h => cases h; exact ⟨(fun q => by cases q), (fun q => by cases q), (fun q => by cases q), (fun q => by cases q), (fun q => by cases q), (fun _ _ _ _ _ => rfl), (fun q => by omega), by decide⟩
    | 71, _, h => cases h; exact ⟨(fun q => by cases q), (fun q => by cases q), (fun q => by cases q), (fun q => by cases q), (fun q => by cases q), (fun _ _ _ _ _ => rfl), (fun q => by omega), by decide⟩
    | 72, _, h => cases h; exact ⟨(fun q => by cases q), (fun q => by cases q), (fun q => by cases q), (fun q => by cases q), (fun q => by cases q), (fun q => by cases q), (fun _ q => by omega), by decide⟩
    | 73, _, h => cases h; exact ⟨(fun q => by cases q), (fun q => by cases q), (fun q => by cases q), (fun q => by cases q), (fun q => by cases q), (fun q => by cases q), (fun _ q => by omega), by decide⟩
    | 74, _, h => cases h; exact ⟨(fun q => by cases q), (fun q => by cases q), (fun q => by cases q), (fun q => by cases q), (fun q => by cases q), (fun q => by cases q), (fun _ q => by omega), by decide⟩
    | 75, _, h => cases h; exact ⟨(fun q => by cases q), (fun q => by cases q), (fun q => by cases q), (fun q => by cases q), (fun q => by cases q), (fun q => by cases q), (fun _ q => by omega), by decide⟩
    | 76, _, h => cases h; exact ⟨(fun q => by cases q), (fun q => by cases q), (fun q => by cases q), (fun q => by cases q), (fun q => by cases q), (fun q => by cases q), (fun _ q => by omega), by decide⟩
    | 77, _, h => cases h; exact ⟨(fun q => by cases q), (fun q => by cases q), (fun q => by cases q), (fun q => by cases q), (fun q => by cases q), (fun q => by cases q), (fun _ q => by omega), by decide⟩
    | 78, _, h => cases h; exact ⟨(fun q => by cases q), (fun q => by cases q), (fun q => by cases q), (fun q => by cases q), (fun q => by cases q), (fun q => by cases q), (fun _ q => by omega), by decide⟩
    | 79, _, h => cases h; exact ⟨(fun q => by cases q), (fun q => by cases q), (fun q => by cases q), (fun q => by cases q), (fun q => by cases q), (fun q => by cases q), (fun _ q => by omega), by decide⟩
    | 80, _, h => cases h; exact ⟨(fun q => by cases q), (fun q => by cases q), (fun q => by cases q), (fun q => by cases q), (fun _ => ⟨fun _ => rfl, by decide, by decide, fun _ _ _ => rfl⟩), (fun q => by cases q), (fun _ q => by omega), by decide⟩
    | 81, _, h => cases h; exact ⟨(fun q => by cases q), (fun q => by cases q), (fun q => by cases q), (fun q => by cases q), (fun _ => ⟨fun _ => rfl, by decide, by decide, fun _ _ _ => rfl⟩), (fun q => by cases q), (fun _ q => by omega), by decide⟩
    | 82, _, h => cases h; exact ⟨(fun q => by cases q), (fun q => by cases q), (fun q => by cases q), (fun q => by cases q), (fun _ => ⟨fun _ => rfl, by decide, by decide, fun _ _ _ => rfl⟩), (fun q => by cases q), (fun _ q => by omega), by decide⟩
    | n + 83, hlt, _ => exact absurd hlt (by omega)
  · have e : KT_ sh = (9, 0, 0) := by unfold KT_; rw [List.getD_eq_getElem?_getD, List.getElem?_eq_none (by show 83 ≤ sh; omega)]; rfl
    obtain ⟨rfl, rfl⟩ := sa_9 e a c n h
    exact ⟨(fun q => by cases q), (fun q => by cases q), (fun q => by cases q), (fun q => by cases q), (fun q => by cases q), (fun q => by cases q), (fun _ q => by omega), by decide⟩
def flX0 : List (Nat × Nat × Nat × Int) := [(9, 0, 0, 0), (15, 0, 1, 1), (19, 0, 2, 2), (22, 0, 3, 3), (26, 0, 4, 4), (30, 0, 5, 5), (33, 0, 6, 6), (36, 0, 7, 7), (39, 0, 8, 8), (42, 9, 2, 2), (53, 9, 6, 6), (75, 1, 0, 0), (78, 1, 1, 1), (81, 1, 3, 3), (84, 1, 2, 2), (87, 9, 3, 3), (90, 9, 7, 7), (97, 9, 4, 4), (100, 9, 8, 8)]
def plX0 : List (Nat × Nat × Nat × Int) := [(22, 0, 3, 3), (26, 0, 4, 4), (30, 0, 5, 5), (33, 0, 6, 6), (36, 0, 7, 7), (39, 0, 8, 8), (42, 9, 2, 2), (75, 1, 0, 0), (78, 1, 1, 1), (81, 1, 3, 3), (84, 1, 2, 2), (87, 9, 3, 3), (97, 9, 4, 4)]
set_option maxRecDepth 100000 in
theorem flX0_ok : FT_ RX0 flX0 := List.forall_mem_cons.mpr ⟨⟨_, _, _, rfl, by decide, rfl, wg_ 280 (by decide +kernel) rfl⟩, List.forall_mem_cons.mpr ⟨⟨_, _, _, rfl, by decide, rfl, wg_ 281 (by decide +kernel) rfl⟩, List.forall_mem_cons.mpr ⟨⟨_, _, _, rfl, by decide, rfl, wg_ 282 (by decide +kernel) rfl⟩, List.forall_mem_cons.mpr ⟨⟨_, _, _, rfl, by decide, rfl, wg_ 285 (by decide +kernel) rfl⟩, List.forall_mem_cons.mpr ⟨⟨_, _, _, rfl, by decide, rfl, wg_ 286 (by decide +kernel) rfl⟩, List.forall_mem_cons.mpr ⟨⟨_, _, _, rfl, by decide, rfl, wg_ 287 (by decide +kernel) rfl⟩, List.forall_mem_cons.mpr ⟨⟨_, _, _, rfl, by decide, rfl, wg_ 289 (by decide +kernel) rfl⟩, List.forall_mem_cons.mpr ⟨⟨_, _, _, rfl, by decide, rfl, wg_ 291 (by decide +kernel) rfl⟩, List.forall_mem_cons.mpr ⟨⟨_, _, _, rfl, by decide, rfl, wg_ 293 (by decide +kernel) rfl⟩, List.forall_mem_cons.mpr ⟨⟨_, _, _, rfl, by decide, rfl, wg_ 227 (by decide +kernel) rfl⟩, List.forall_mem_cons.mpr ⟨⟨_, _, _, rfl, by decide, rfl, wg_ 240 (by decide +kernel) rfl⟩, List.forall_mem_cons.mpr ⟨⟨_, _, _, rfl, by decide, rfl, wg_ 169 (by decide +kernel) rfl⟩, List.forall_mem_cons.mpr ⟨⟨_, _, _, rfl, by decide, rfl, wg_ 173 (by decide +kernel) rfl⟩, List.forall_mem_cons.mpr ⟨⟨_, _, _, rfl, by decide, rfl, wg_ 182 (by decide +kernel) rfl⟩, List.forall_mem_cons.mpr ⟨⟨_, _, _, rfl, by decide, rfl, wg_ 177 (by decide +kernel) rfl⟩, List.forall_mem_cons.mpr ⟨⟨_, _, _, rfl, by decide, rfl, wg_ 231 (by decide +kernel) rfl⟩, List.forall_mem_cons.mpr ⟨⟨_, _, _, rfl, by decide, rfl, wg_ 244 (by decide +kernel) rfl⟩, List.forall_mem_cons.mpr ⟨⟨_, _, _, rfl, by decide, rfl, wg_ 235 (by decide +kernel) rfl⟩, List.forall_mem_cons.mpr ⟨⟨_, _, _, rfl, by decide, rfl, wg_ 247 (by decide +kernel) rfl⟩, fun _ h => absurd h List.not_mem_nil⟩⟩⟩⟩⟩⟩⟩⟩⟩⟩⟩⟩⟩⟩⟩⟩⟩⟩⟩
set_option maxRecDepth 100000 in
theorem plX0_ok : PT_ RX0 plX0 := ⟨List.forall_mem_cons.mpr ⟨⟨_, _, _, rfl, by decide, rfl, wg_ 285 (by decide +kernel) rfl⟩, List.forall_mem_cons.mpr ⟨⟨_, _, _, rfl, by decide, rfl, wg_ 286 (by decide +kernel) rfl⟩, List.forall_mem_cons.mpr ⟨⟨_, _, _, rfl, by decide, rfl, wg_ 287 (by decide +kernel) rfl⟩, List.forall_mem_cons.mpr ⟨⟨_, _, _, rfl, by decide, rfl, wg_ 289 (by decide +kernel) rfl⟩, List.forall_mem_cons.mpr ⟨⟨_, _, _, rfl, by decide, rfl, wg_ 291 (by decide +kernel) rfl⟩, List.forall_mem_cons.mpr ⟨⟨_, _, _, rfl, by decide, rfl, wg_ 293 (by decide +kernel) rfl⟩, List.forall_mem_cons.mpr ⟨⟨_, _, _, rfl, by decide, rfl, wg_ 227 (by decide +kernel) rfl⟩, List.forall_mem_cons.mpr ⟨⟨_, _, _, rfl, by decide, rfl, wg_ 169 (by decide +kernel) rfl⟩, List.forall_mem_cons.mpr ⟨⟨_, _, _, rfl, by decide, rfl, wg_ 173 (by decide +kernel) rfl⟩, List.forall_mem_cons.mpr ⟨⟨_, _, _, rfl, by decide, rfl, wg_ 182 (by decide +kernel) rfl⟩, List.forall_mem_cons.mpr ⟨⟨_, _, _, rfl, by decide, rfl, wg_ 177 (by decide +kernel) rfl⟩, List.forall_mem_cons.mpr ⟨⟨_, _, _, rfl, by decide, rfl, wg_ 231 (by decide +kernel) rfl⟩, List.forall_mem_cons.mpr ⟨⟨_, _, _, rfl, by decide, rfl, wg_ 235 (by decide +kernel) rfl⟩, fun _ h => absurd h List.not_mem_nil⟩⟩⟩⟩⟩⟩⟩⟩⟩⟩⟩⟩⟩, List.forall_mem_cons.mpr ⟨fun C T N h => by cases h; rfl, List.forall_mem_cons.mpr ⟨fun C T N h => by cases h; rfl, List.forall_mem_cons.mpr ⟨fun C T N h => by cases h; rfl, List.forall_mem_cons.mpr ⟨fun C T N h => by cases h; rfl, List.forall_mem_cons.mpr ⟨fun C T N h => by cases h; rfl, List.forall_mem_cons.mpr ⟨fun C T N h => by cases h; rfl, List.forall_mem_cons.mpr ⟨fun C T N h => by cases h; rfl, List.forall_mem_cons.mpr ⟨fun C T N h => by cases h; rfl, List.forall_mem_cons.mpr ⟨fun C T N h => by cases h; rfl, List.forall_mem_cons.mpr ⟨fun C T N h => by cases h; rfl, List.forall_mem_cons.mpr ⟨fun C T N h => by cases h; rfl, List.forall_mem_cons.mpr ⟨fun C T N h => by cases h; rfl, List.forall_mem_cons.mpr ⟨fun C T N h => by cases h; rfl, fun _ h => absurd h List.not_mem_nil⟩⟩⟩⟩⟩⟩⟩⟩⟩⟩⟩⟩⟩⟩
def knX0 : List (Nat × Sv_t) := []
set_option maxRecDepth 100000 in
theorem knX0_ok : KN_ RX0 knX0 := fun _ h => absurd h List.not_mem_nil
def flX1 : List (Nat × Nat × Nat × Int) := [(9, 1, 0, 0), (15, 1, 1, 1), (18, 1, 2, 2), (21, 1, 3, 3), (24, 1, 4, 4), (27, 1, 5, 5), (30, 1, 6, 6), (33, 1, 7, 7), (36, 1, 8, 8)]
def plX1 : List (Nat × Nat × Nat × Int) := [(9, 1, 0, 0), (15, 1, 1, 1), (18, 1, 2, 2), (21, 1, 3, 3), (24, 1, 4, 4), (27, 1, 5, 5), (30, 1, 6, 6), (33, 1, 7, 7)]
set_option maxRecDepth 100000 in
theorem flX1_ok : FT_ RX1 flX1 := List.forall_mem_cons.mpr ⟨⟨_, _, _, rfl, by decide, rfl, wg_ 168 (by decide +kernel) rfl⟩, List.forall_mem_cons.mpr ⟨⟨_, _, _, rfl, by decide, rfl, wg_ 172 (by decide +kernel) rfl⟩, List.forall_mem_cons.mpr ⟨⟨_, _, _, rfl, by decide, rfl, wg_ 176 (by decide +kernel) rfl⟩, List.forall_mem_cons.mpr ⟨⟨_, _, _, rfl, by decide, rfl, wg_ 180 (by decide +kernel) rfl⟩, List.forall_mem_cons.mpr ⟨⟨_, _, _, rfl, by decide, rfl, wg_ 185 (by decide +kernel) rfl⟩, List.forall_mem_cons.mpr ⟨⟨_, _, _, rfl, by decide, rfl, wg_ 188 (by decide +kernel) rfl⟩, List.forall_mem_cons.mpr ⟨⟨_, _, _, rfl, by decide, rfl, wg_ 191 (by decide +kernel) rfl⟩, List.forall_mem_cons.mpr ⟨⟨_, _, _, rfl, by decide, rfl, wg_ 194 (by decide +kernel) rfl⟩, List.forall_mem_cons.mpr ⟨⟨_, _, _, rfl, by decide, rfl, wg_ 195 (by decide +kernel) rfl⟩, fun _ h => absurd h List.not_mem_nil⟩⟩⟩⟩⟩⟩⟩⟩⟩
set_option maxRecDepth 100000 in
theorem plX1_ok : PT_ RX1 plX1 := ⟨List.forall_mem_cons.mpr ⟨⟨_, _, _, rfl, by decide, rfl, wg_ 168 (by decide +kernel) rfl⟩, List.forall_mem_cons.mpr ⟨⟨_, _, _, rfl, by decide, rfl, wg_ 172 (by decide +kernel) rfl⟩, List.forall_mem_cons.mpr ⟨⟨_, _, _, rfl, by decide, rfl, wg_ 176 (by decide +kernel) rfl⟩, List.forall_mem_cons.mpr ⟨⟨_, _, _, rfl, by decide, rfl, wg_ 180 (by decide +kernel) rfl⟩, List.forall_mem_cons.mpr ⟨⟨_, _, _, rfl, by decide, rfl, wg_ 185 (by decide +kernel) rfl⟩, List.forall_mem_cons.mpr ⟨⟨_, _, _, rfl, by decide, rfl, wg_ 188 (by decide +kernel) rfl⟩, List.forall_mem_cons.mpr ⟨⟨_, _, _, rfl, by decide, rfl, wg_ 191 (by decide +kernel) rfl⟩, List.forall_mem_cons.mpr ⟨⟨_, _, _, rfl, by decide, rfl, wg_ 194 (by decide +kernel) rfl⟩, fun _ h => absurd h List.not_mem_nil⟩⟩⟩⟩⟩⟩⟩⟩, List.forall_mem_cons.mpr ⟨fun C T N h => by cases h; rfl, List.forall_mem_cons.mpr ⟨fun C T N h => by cases h; rfl, List.forall_mem_cons.mpr ⟨fun C T N h => by cases h; rfl, List.forall_mem_cons.mpr ⟨fun C T N h => by cases h; rfl, List.forall_mem_cons.mpr ⟨fun C T N h => by cases h; rfl, List.forall_mem_cons.mpr ⟨fun C T N h => by cases h; rfl, List.forall_mem_cons.mpr ⟨fun C T N h => by cases h; rfl, List.forall_mem_cons.mpr ⟨fun C T N h => by cases h; rfl, fun _ h => absurd h List.not_mem_nil⟩⟩⟩⟩⟩⟩⟩⟩⟩
def knX1 : List (Nat × Sv_t) := []
set_option maxRecDepth 100000 in
theorem knX1_ok : KN_ RX1 knX1 := fun _ h => absurd h List.not_mem_nil
def flX2 : List (Nat × Nat × Nat × Int) := [(11, 2, 0, 0), (15, 2, 1, 1), (18, 2, 2, 2), (22, 4, 3, 3), (29, 4, 0, 0)]
def plX2 : List (Nat × Nat × Nat × Int) := [(18, 2, 2, 2), (22, 4, 3, 3)]
set_option maxRecDepth 100000 in
theorem flX2_ok : FT_ RX2 flX2 := List.forall_mem_cons.mpr ⟨⟨_, _, _, rfl, by decide, rfl, wg_ 339 (by decide +kernel) rfl⟩, List.forall_mem_cons.mpr ⟨⟨_, _, _, rfl, by decide, rfl, wg_ 340 (by decide +kernel) rfl⟩, List.forall_mem_cons.mpr ⟨⟨_, _, _, rfl, by decide, rfl, wg_ 341 (by decide +kernel) rfl⟩, List.forall_mem_cons.mpr ⟨⟨_, _, _, rfl, by decide, rfl, wg_ 414 (by decide +kernel) rfl⟩, List.forall_mem_cons.mpr ⟨⟨_, _, _, rfl, by decide, rfl, wg_ 407 (by decide +kernel) rfl⟩, fun _ h => absurd h List.not_mem_nil⟩⟩⟩⟩⟩
set_option maxRecDepth 100000 in
theorem plX2_ok : PT_ RX2 plX2 := ⟨List.forall_mem_cons.mpr ⟨⟨_, _, _, rfl, by decide, rfl, wg_ 341 (by decide +kernel) rfl⟩, List.forall_mem_cons.mpr ⟨⟨_, _, _, rfl, by decide, rfl, wg_ 414 (by decide +kernel) rfl⟩, fun _ h => absurd h List.not_mem_nil⟩⟩, List.forall_mem_cons.mpr ⟨fun C T N h => by cases h; rfl, List.forall_mem_cons.mpr ⟨fun C T N h => by cases h; rfl, fun _ h => absurd h List.not_mem_nil⟩⟩⟩
def knX2 : List (Nat × Sv_t) := []
set_option maxRecDepth 100000 in
theorem knX2_ok : KN_ RX2 knX2 := fun _ h => absurd h List.not_mem_nil
def flX3 : List (Nat × Nat × Nat × Int) := [(9, 3, 0, 0), (15, 3, 1, 1), (19, 3, 2, 2), (22, 3, 3, 3), (25, 3, 4, 4), (28, 3, 5, 5), (31, 3, 6, 6), (34, 3, 7, 7), (37, 8, 0, 0), (40, 8, 1, 1), (53, 9, 0, 0), (67, 9, 2, 2), (79, 9, 3, 3), (87, 9, 4, 4), (107, 9, 1, 1), (109, 9, 6, 6), (118, 1, 0, 0), (122, 1, 1, 1), (126, 1, 2, 2), (136, 1, 4, 4), (140, 1, 3, 3), (143, 1, 5, 5), (148, 1, 6, 6), (153, 1, 8, 8)]
def plX3 : List (Nat × Nat × Nat × Int) := [(9, 3, 0, 0), (15, 3, 1, 1), (19, 3, 2, 2), (22, 3, 3, 3), (25, 3, 4, 4), (28, 3, 5, 5), (31, 3, 6, 6), (34, 3, 7, 7), (40, 8, 1, 1), (53, 9, 0, 0), (67, 9, 2, 2), (79, 9, 3, 3), (87, 9, 4, 4), (107, 9, 1, 1), (118, 1, 0, 0), (122, 1, 1, 1), (126, 1, 2, 2), (136, 1, 4, 4), (140, 1, 3, 3), (143, 1, 5, 5), (148, 1, 6, 6)]
set_option maxRecDepth 100000 in
theorem flX3_ok : FT_ RX3 flX3 := List.forall_mem_cons.mpr ⟨⟨_, _, _, rfl, by decide, rfl, wg_ 128 (by decide +kernel) rfl⟩, List.forall_mem_cons.mpr ⟨⟨_, _, _, rfl, by decide, rfl, wg_ 129 (by decide +kernel) rfl⟩, List.forall_mem_cons.mpr ⟨⟨_, _, _, rfl, by decide, rfl, wg_ 130 (by decide +kernel) rfl⟩, List.forall_mem_cons.mpr ⟨⟨_, _, _, rfl, by decide, rfl, wg_ 131 (by decide +kernel) rfl⟩, List.forall_mem_cons.mpr ⟨⟨_, _, _, rfl, by decide, rfl, wg_ 132 (by decide +kernel) rfl⟩, List.forall_mem_cons.mpr ⟨⟨_, _, _, rfl, by decide, rfl, wg_ 133 (by decide +kernel) rfl⟩, List.forall_mem_cons.mpr ⟨⟨_, _, _, rfl, by decide, rfl, wg_ 134 (by decide +kernel) rfl⟩, List.forall_mem_cons.mpr ⟨⟨_, _, _, rfl, by decide, rfl, wg_ 136 (by decide +kernel) rfl⟩, List.forall_mem_cons.mpr ⟨⟨_, _, _, rfl, by decide, rfl, wg_ 112 (by decide +kernel) rfl⟩, List.forall_mem_cons.mpr ⟨⟨_, _, _, rfl, by decide, rfl, wg_ 115 (by decide +kernel) rfl⟩, List.forall_mem_cons.mpr ⟨⟨_, _, _, rfl, by decide, rfl, wg_ 220 (by decide +kernel) rfl⟩, List.forall_mem_cons.mpr ⟨⟨_, _, _, rfl, by decide, rfl, wg_ 226 (by decide +kernel) rfl⟩, List.forall_mem_cons.mpr ⟨⟨_, _, _, rfl, by decide, rfl, wg_ 230 (by decide +kernel) rfl⟩, List.forall_mem_cons.mpr ⟨⟨_, _, _, rfl, by decide, rfl, wg_ 234 (by decide +kernel) rfl⟩, List.forall_mem_cons.mpr ⟨⟨_, _, _, rfl, by decide, rfl, wg_ 223 (by decide +kernel) rfl⟩, List.forall_mem_cons.mpr ⟨⟨_, _, _, rfl, by decide, rfl, wg_ 241 (by decide +kernel) rfl⟩, List.forall_mem_cons.mpr ⟨⟨_, _, _, rfl, by decide, rfl, wg_ 170 (by decide +kernel) rfl⟩, List.forall_mem_cons.mpr ⟨⟨_, _, _, rfl, by decide, rfl, wg_ 174 (by decide +kernel) rfl⟩, List.forall_mem_cons.mpr ⟨⟨_, _, _, rfl, by decide, rfl, wg_ 179 (by decide +kernel) rfl⟩, List.forall_mem_cons.mpr ⟨⟨_, _, _, rfl, by decide, rfl, wg_ 187 (by decide +kernel) rfl⟩, List.forall_mem_cons.mpr ⟨⟨_, _, _, rfl, by decide, rfl, wg_ 184 (by decide +kernel) rfl⟩, List.forall_mem_cons.mpr ⟨⟨_, _, _, rfl, by decide, rfl, wg_ 190 (by decide +kernel) rfl⟩, List.forall_mem_cons.mpr ⟨⟨_, _, _, rfl, by decide, rfl, wg_ 193 (by decide +kernel) rfl⟩, List.forall_mem_cons.mpr ⟨⟨_, _, _, rfl, by decide, rfl, wg_ 198 (by decide +kernel) rfl⟩, fun _ h => absurd h List.not_mem_nil⟩⟩⟩⟩⟩⟩⟩⟩⟩⟩⟩⟩⟩⟩⟩⟩⟩⟩⟩⟩⟩⟩⟩⟩
set_option maxRecDepth 100000 in
theorem plX3_ok : PT_ RX3 plX3 := ⟨List.forall_mem_cons.mpr ⟨⟨_, _, _, rfl, by decide, rfl, wg_ 128 (by decide +kernel) rfl⟩, List.forall_mem_cons.mpr ⟨⟨_, _, _, rfl, by decide, rfl, wg_ 129 (by decide +kernel) rfl⟩, List.forall_mem_cons.mpr ⟨⟨_, _, _, rfl, by decide, rfl, wg_ 130 (by decide +kernel) rfl⟩, List.forall_mem_cons.mpr ⟨⟨_, _, _, rfl, by decide, rfl, wg_ 131 (by decide +kernel) rfl⟩, List.forall_mem_cons.mpr ⟨⟨_, _, _, rfl, by decide, rfl, wg_ 132 (by decide +kernel) rfl⟩, List.forall_mem_cons.mpr ⟨⟨_, _, _, rfl, by decide, rfl, wg_ 133 (by decide +kernel) rfl⟩, List.forall_mem_cons.mpr ⟨⟨_, _, _, rfl, by decide, rfl, wg_ 134 (by decide +kernel) rfl⟩, List.forall_mem_cons.mpr ⟨⟨_, _, _, rfl, by decide, rfl, wg_ 136 (by decide +kernel) rfl⟩, List.forall_mem_cons.mpr ⟨⟨_, _, _, rfl, by decide, rfl, wg_ 115 (by decide +kernel) rfl⟩, List.forall_mem_cons.mpr ⟨⟨_, _, _, rfl, by decide, rfl, wg_ 220 (by decide +kernel) rfl⟩, List.forall_mem_cons.mpr ⟨⟨_, _, _, rfl, by decide, rfl, wg_ 226 (by decide +kernel) rfl⟩, List.forall_mem_cons.mpr ⟨⟨_, _, _, rfl, by decide, rfl, wg_ 230 (by decide +kernel) rfl⟩, List.forall_mem_cons.mpr ⟨⟨_, _, _, rfl, by decide, rfl, wg_ 234 (by decide +kernel) rfl⟩, List.forall_mem_cons.mpr ⟨⟨_, _, _, rfl, by decide, rfl, wg_ 223 (by decide +kernel) rfl⟩, List.forall_mem_cons.mpr ⟨⟨_, _, _, rfl, by decide, rfl, wg_ 170 (by decide +kernel) rfl⟩, List.forall_mem_cons.mpr ⟨⟨_, _, _, rfl, by decide, rfl, wg_ 174 (by decide +kernel) rfl⟩, List.forall_mem_cons.mpr ⟨⟨_, _, _, rfl, by decide, rfl, wg_ 179 (by decide +kernel) rfl⟩, List.forall_mem_cons.mpr ⟨⟨_, _, _, rfl, by decide, rfl, wg_ 187 (by decide +kernel) rfl⟩, List.forall_mem_cons.mpr ⟨⟨_, _, _, rfl, by decide, rfl, wg_ 184 (by decide +kernel) rfl⟩, List.forall_mem_cons.mpr ⟨⟨_, _, _, rfl, by decide, rfl, wg_ 190 (by decide +kernel) rfl⟩, List.forall_mem_cons.mpr ⟨⟨_, _, _, rfl, by decide, rfl, wg_ 193 (by decide +kernel) rfl⟩, fun _ h => absurd h List.not_mem_nil⟩⟩⟩⟩⟩⟩⟩⟩⟩⟩⟩⟩⟩⟩⟩⟩⟩⟩⟩⟩⟩, List.forall_mem_cons.mpr ⟨fun C T N h => by cases h; rfl, List.forall_mem_cons.mpr ⟨fun C T N h => by cases h; rfl, List.forall_mem_cons.mpr ⟨fun C T N h => by cases h; rfl, List.forall_mem_cons.mpr ⟨fun C T N h => by cases h; rfl, List.forall_mem_cons.mpr ⟨fun C T N h => by cases h; rfl, List.forall_mem_cons.mpr ⟨fun C T N h => by cases h; rfl, List.forall_mem_cons.mpr ⟨fun C T N h => by cases h; rfl, List.forall_mem_cons.mpr ⟨fun C T N h => by cases h; rfl, List.forall_mem_cons.mpr ⟨fun C T N h => by cases h; rfl, List.forall_mem_cons.mpr ⟨fun C T N h => by cases h; rfl, List.forall_mem_cons.mpr ⟨fun C T N h => by cases h; rfl, List.forall_mem_cons.mpr ⟨fun C T N h => by cases h; rfl, List.forall_mem_cons.mpr ⟨fun C T N h => by cases h; rfl, List.forall_mem_cons.mpr ⟨fun C T N h => by cases h; rfl, List.forall_mem_cons.mpr ⟨fun C T N h => by cases h; rfl, List.forall_mem_cons.mpr ⟨fun C T N h => by cases h; rfl, List.forall_mem_cons.mpr ⟨fun C T N h => by cases h; rfl, List.forall_mem_cons.mpr ⟨fun C T N h => by cases h; rfl, List.forall_mem_cons.mpr ⟨fun C T N h => by cases h; rfl, List.forall_mem_cons.mpr ⟨fun C T N h => by cases h; rfl, List.forall_mem_cons.mpr ⟨fun C T N h => by cases h; rfl, fun _ h => absurd h List.not_mem_nil⟩⟩⟩⟩⟩⟩⟩⟩⟩⟩⟩⟩⟩⟩⟩⟩⟩⟩⟩⟩⟩⟩
def knX3 : List (Nat × Sv_t) := [(179, (0, 100000))]
set_option maxRecDepth 100000 in
theorem knX3_ok : KN_ RX3 knX3 := List.forall_mem_cons.mpr ⟨Or.inl ⟨rfl, ⟨by decide, by decide⟩, wg_ 498 (by decide +kernel) rfl⟩, fun _ h => absurd h List.not_mem_nil⟩
def flX4 : List (Nat × Nat × Nat × Int) := [(9, 4, 0, 0), (15, 4, 1, 1), (19, 4, 2, 2), (23, 4, 3, 3)]
def plX4 : List (Nat × Nat × Nat × Int) := [(15, 4, 1, 1), (19, 4, 2, 2), (23, 4, 3, 3)]
set_option maxRecDepth 100000 in
theorem flX4_ok : FT_ RX4 flX4 := List.forall_mem_cons.mpr ⟨⟨_, _, _, rfl, by decide, rfl, wg_ 405 (by decide +kernel) rfl⟩, List.forall_mem_cons.mpr ⟨⟨_, _, _, rfl, by decide, rfl, wg_ 409 (by decide +kernel) rfl⟩, List.forall_mem_cons.mpr ⟨⟨_, _, _, rfl, by decide, rfl, wg_ 411 (by decide +kernel) rfl⟩, List.forall_mem_cons.mpr ⟨⟨_, _, _, rfl, by decide, rfl, wg_ 413 (by decide +kernel) rfl⟩, fun _ h => absurd h List.not_mem_nil⟩⟩⟩⟩
set_option maxRecDepth 100000 in
theorem plX4_ok : PT_ RX4 plX4 := ⟨List.forall_mem_cons.mpr ⟨⟨_, _, _, rfl, by decide, rfl, wg_ 409 (by decide +kernel) rfl⟩, List.forall_mem_cons.mpr ⟨⟨_, _, _, rfl, by decide, rfl, wg_ 411 (by decide +kernel) rfl⟩, List.forall_mem_cons.mpr ⟨⟨_, _, _, rfl, by decide, rfl, wg_ 413 (by decide +kernel) rfl⟩, fun _ h => absurd h List.not_mem_nil⟩⟩⟩, List.forall_mem_cons.mpr ⟨fun C T N h => by cases h; rfl, List.forall_mem_cons.mpr ⟨fun C T N h => by cases h; rfl, List.forall_mem_cons.mpr ⟨fun C T N h => by cases h; rfl, fun _ h => absurd h List.not_mem_nil⟩⟩⟩⟩
def knX4 : List (Nat × Sv_t) := [(32, (1, 2000))]
set_option maxRecDepth 100000 in
theorem knX4_ok : KN_ RX4 knX4 := List.forall_mem_cons.mpr ⟨Or.inr ⟨rfl, ⟨by decide, by decide⟩, wg_ 894 (by decide +kernel) rfl⟩, fun _ h => absurd h List.not_mem_nil⟩
def flX5 : List (Nat × Nat × Nat × Int) := [(9, 5, 0, 0), (15, 5, 1, 1), (19, 5, 2, 2), (37, 1, 8, 8)]
def plX5 : List (Nat × Nat × Nat × Int) := [(15, 5, 1, 1), (19, 5, 2, 2)]
set_option maxRecDepth 100000 in
theorem flX5_ok : FT_ RX5 flX5 := List.forall_mem_cons.mpr ⟨⟨_, _, _, rfl, by decide, rfl, wg_ 321 (by decide +kernel) rfl⟩, List.forall_mem_cons.mpr ⟨⟨_, _, _, rfl, by decide, rfl, wg_ 322 (by decide +kernel) rfl⟩, List.forall_mem_cons.mpr ⟨⟨_, _, _, rfl, by decide, rfl, wg_ 324 (by decide +kernel) rfl⟩, List.forall_mem_cons.mpr ⟨⟨_, _, _, rfl, by decide, rfl, wg_ 196 (by decide +kernel) rfl⟩, fun _ h => absurd h List.not_mem_nil⟩⟩⟩⟩
set_option maxRecDepth 100000 in
theorem plX5_ok : PT_ RX5 plX5 := ⟨List.forall_mem_cons.mpr ⟨⟨_, _, _, rfl, by decide, rfl, wg_ 322 (by decide +kernel) rfl⟩, List.forall_mem_cons.mpr ⟨⟨_, _, _, rfl, by decide, rfl, wg_ 324 (by decide +kernel) rfl⟩, fun _ h => absurd h List.not_mem_nil⟩⟩, List.forall_mem_cons.mpr ⟨fun C T N h => by cases h; rfl, List.forall_mem_cons.mpr ⟨fun C T N h => by cases h; rfl, fun _ h => absurd h List.not_mem_nil⟩⟩⟩
def knX5 : List (Nat × Sv_t) := [(55, (1, (-1)))]
set_option maxRecDepth 100000 in
theorem knX5_ok : KN_ RX5 knX5 := List.forall_mem_cons.mpr ⟨Or.inr ⟨rfl, ⟨by decide, by decide⟩, wg_ 861 (by decide +kernel) rfl⟩, fun _ h => absurd h List.not_mem_nil⟩
def flX6 : List (Nat × Nat × Nat × Int) := [(9, 6, 0, 0), (15, 6, 1, 1), (19, 6, 2, 2), (22, 6, 3, 3), (25, 6, 4, 4), (28, 4, 3, 3), (31, 4, 0, 0), (47, 0, 2, 2)]
def plX6 : List (Nat × Nat × Nat × Int) := [(15, 6, 1, 1), (22, 6, 3, 3), (25, 6, 4, 4), (28, 4, 3, 3)]
set_option maxRecDepth 100000 in
theorem flX6_ok : FT_ RX6 flX6 := List.forall_mem_cons.mpr ⟨⟨_, _, _, rfl, by decide, rfl, wg_ 356 (by decide +kernel) rfl⟩, List.forall_mem_cons.mpr ⟨⟨_, _, _, rfl, by decide, rfl, wg_ 358 (by decide +kernel) rfl⟩, List.forall_mem_cons.mpr ⟨⟨_, _, _, rfl, by decide, rfl, wg_ 360 (by decide +kernel) rfl⟩, List.forall_mem_cons.mpr ⟨⟨_, _, _, rfl, by decide, rfl, wg_ 361 (by decide +kernel) rfl⟩, List.forall_mem_cons.mpr ⟨⟨_, _, _, rfl, by decide, rfl, wg_ 363 (by decide +kernel) rfl⟩, List.forall_mem_cons.mpr ⟨⟨_, _, _, rfl, by decide, rfl, wg_ 415 (by decide +kernel) rfl⟩, List.forall_mem_cons.mpr ⟨⟨_, _, _, rfl, by decide, rfl, wg_ 406 (by decide +kernel) rfl⟩, List.forall_mem_cons.mpr ⟨⟨_, _, _, rfl, by decide, rfl, wg_ 283 (by decide +kernel) rfl⟩, fun _ h => absurd h List.not_mem_nil⟩⟩⟩⟩⟩⟩⟩⟩
set_option maxRecDepth 100000 in
theorem plX6_ok : PT_ RX6 plX6 := ⟨List.forall_mem_cons.mpr ⟨⟨_, _, _, rfl, by decide, rfl, wg_ 358 (by decide +kernel) rfl⟩, List.forall_mem_cons.mpr ⟨⟨_, _, _, rfl, by decide, rfl, wg_ 361 (by decide +kernel) rfl⟩, List.forall_mem_cons.mpr ⟨⟨_, _, _, rfl, by decide, rfl, wg_ 363 (by decide +kernel) rfl⟩, List.forall_mem_cons.mpr ⟨⟨_, _, _, rfl, by decide, rfl, wg_ 415 (by decide +kernel) rfl⟩, fun _ h => absurd h List.not_mem_nil⟩⟩⟩⟩, List.forall_mem_cons.mpr ⟨fun C T N h => by cases h; rfl, List.forall_mem_cons.mpr ⟨fun C T N h => by cases h; rfl, List.forall_mem_cons.mpr ⟨fun C T N h => by cases h; rfl, List.forall_mem_cons.mpr ⟨fun C T N h => by cases h; rfl, fun _ h => absurd h List.not_mem_nil⟩⟩⟩⟩⟩
def knX6 : List (Nat × Sv_t) := [(35, (1, 4))]
set_option maxRecDepth 100000 in
theorem knX6_ok : KN_ RX6 knX6 := List.forall_mem_cons.mpr ⟨Or.inr ⟨rfl, ⟨by decide, by decide⟩, wg_ 941 (by decide +kernel) rfl⟩, fun _ h => absurd h List.not_mem_nil⟩
def flX7 : List (Nat × Nat × Nat × Int) := [(9, 7, 0, 0), (15, 7, 1, 1), (19, 7, 2, 2), (22, 7, 3, 3), (25, 7, 4, 4)]
def plX7 : List (Nat × Nat × Nat × Int) := [(15, 7, 1, 1), (22, 7, 3, 3), (25, 7, 4, 4)]
set_option maxRecDepth 100000 in
theorem flX7_ok : FT_ RX7 flX7 := List.forall_mem_cons.mpr ⟨⟨_, _, _, rfl, by decide, rfl, wg_ 382 (by decide +kernel) rfl⟩, List.forall_mem_cons.mpr ⟨⟨_, _, _, rfl, by decide, rfl, wg_ 383 (by decide +kernel) rfl⟩, List.forall_mem_cons.mpr ⟨⟨_, _, _, rfl, by decide, rfl, wg_ 384 (by decide +kernel) rfl⟩, List.forall_mem_cons.mpr ⟨⟨_, _, _, rfl, by decide, rfl, wg_ 385 (by decide +kernel) rfl⟩, List.forall_mem_cons.mpr ⟨⟨_, _, _, rfl, by decide, rfl, wg_ 387 (by decide +kernel) rfl⟩, fun _ h => absurd h List.not_mem_nil⟩⟩⟩⟩⟩
set_option maxRecDepth 100000 in
theorem plX7_ok : PT_ RX7 plX7 := ⟨List.forall_mem_cons.mpr ⟨⟨_, _, _, rfl, by decide, rfl, wg_ 383 (by decide +kernel) rfl⟩, List.forall_mem_cons.mpr ⟨⟨_, _, _, rfl, by decide, rfl, wg_ 385 (by decide +kernel) rfl⟩, List.forall_mem_cons.mpr ⟨⟨_, _, _, rfl, by decide, rfl, wg_ 387 (by decide +kernel) rfl⟩, fun _ h => absurd h List.not_mem_nil⟩⟩⟩, List.forall_mem_cons.mpr ⟨fun C T N h => by cases h; rfl, List.forall_mem_cons.mpr ⟨fun C T N h => by cases h; rfl, List.forall_mem_cons.mpr ⟨fun C T N h => by cases h; rfl, fun _ h => absurd h List.not_mem_nil⟩⟩⟩⟩
def knX7 : List (Nat × Sv_t) := []
set_option maxRecDepth 100000 in
theorem knX7_ok : KN_ RX7 knX7 := fun _ h => absurd h List.not_mem_nil
def flX8 : List (Nat × Nat × Nat × Int) := [(9, 8, 0, 0), (15, 8, 1, 1)]
def plX8 : List (Nat × Nat × Nat × Int) := [(15, 8, 1, 1)]
set_option maxRecDepth 100000 in
theorem flX8_ok : FT_ RX8 flX8 := List.forall_mem_cons.mpr ⟨⟨_, _, _, rfl, by decide, rfl, wg_ 111 (by decide +kernel) rfl⟩, List.forall_mem_cons.mpr ⟨⟨_, _, _, rfl, by decide, rfl, wg_ 113 (by decide +kernel) rfl⟩, fun _ h => absurd h List.not_mem_nil⟩⟩
set_option maxRecDepth 100000 in
theorem plX8_ok : PT_ RX8 plX8 := ⟨List.forall_mem_cons.mpr ⟨⟨_, _, _, rfl, by decide, rfl, wg_ 113 (by decide +kernel) rfl⟩, fun _ h => absurd h List.not_mem_nil⟩, List.forall_mem_cons.mpr ⟨fun C T N h => by cases h; rfl, fun _ h => absurd h List.not_mem_nil⟩⟩
def knX8 : List (Nat × Sv_t) := []
set_option maxRecDepth 100000 in
theorem knX8_ok : KN_ RX8 knX8 := fun _ h => absurd h List.not_mem_nil
def flX9 : List (Nat × Nat × Nat × Int) := [(9, 9, 0, 0), (15, 9, 1, 1), (18, 9, 2, 2), (21, 9, 3, 3), (24, 9, 4, 4), (27, 9, 5, 5), (32, 9, 6, 6), (36, 9, 7, 7), (40, 9, 8, 8), (43, 9, 9, 9), (61, 1, 3, 3), (68, 1, 8, 8)]
def plX9 : List (Nat × Nat × Nat × Int) := [(9, 9, 0, 0), (15, 9, 1, 1), (18, 9, 2, 2), (21, 9, 3, 3), (24, 9, 4, 4), (27, 9, 5, 5), (61, 1, 3, 3)]
set_option maxRecDepth 100000 in
theorem flX9_ok : FT_ RX9 flX9 := List.forall_mem_cons.mpr ⟨⟨_, _, _, rfl, by decide, rfl, wg_ 219 (by decide +kernel) rfl⟩, List.forall_mem_cons.mpr ⟨⟨_, _, _, rfl, by decide, rfl, wg_ 222 (by decide +kernel) rfl⟩, List.forall_mem_cons.mpr ⟨⟨_, _, _, rfl, by decide, rfl, wg_ 225 (by decide +kernel) rfl⟩, List.forall_mem_cons.mpr ⟨⟨_, _, _, rfl, by decide, rfl, wg_ 229 (by decide +kernel) rfl⟩, List.forall_mem_cons.mpr ⟨⟨_, _, _, rfl, by decide, rfl, wg_ 233 (by decide +kernel) rfl⟩, List.forall_mem_cons.mpr ⟨⟨_, _, _, rfl, by decide, rfl, wg_ 237 (by decide +kernel) rfl⟩, List.forall_mem_cons.mpr ⟨⟨_, _, _, rfl, by decide, rfl, wg_ 239 (by decide +kernel) rfl⟩, List.forall_mem_cons.mpr ⟨⟨_, _, _, rfl, by decide, rfl, wg_ 243 (by decide +kernel) rfl⟩, List.forall_mem_cons.mpr ⟨⟨_, _, _, rfl, by decide, rfl, wg_ 246 (by decide +kernel) rfl⟩, List.forall_mem_cons.mpr ⟨⟨_, _, _, rfl, by decide, rfl, wg_ 249 (by decide +kernel) rfl⟩, List.forall_mem_cons.mpr ⟨⟨_, _, _, rfl, by decide, rfl, wg_ 181 (by decide +kernel) rfl⟩, List.forall_mem_cons.mpr ⟨⟨_, _, _, rfl, by decide, rfl, wg_ 197 (by decide +kernel) rfl⟩, fun _ h => absurd h List.not_mem_nil⟩⟩⟩⟩⟩⟩⟩⟩⟩⟩⟩⟩
set_option maxRecDepth 100000 in
theorem plX9_ok : PT_ RX9 plX9 := ⟨List.forall_mem_cons.mpr ⟨⟨_, _, _, rfl, by decide, rfl, wg_ 219 (by decide +kernel) rfl⟩, List.forall_mem_cons.mpr ⟨⟨_, _, _, rfl, by decide, rfl, wg_ 222 (by decide +kernel) rfl⟩, List.forall_mem_cons.mpr ⟨⟨_, _, _, rfl, by decide, rfl, wg_ 225 (by decide +kernel) rfl⟩, List.forall_mem_cons.mpr ⟨⟨_, _, _, rfl, by decide, rfl, wg_ 229 (by decide +kernel) rfl⟩, List.forall_mem_cons.mpr ⟨⟨_, _, _, rfl, by decide, rfl, wg_ 233 (by decide +kernel) rfl⟩, List.forall_mem_cons.mpr ⟨⟨_, _, _, rfl, by decide, rfl, wg_ 237 (by decide +kernel) rfl⟩, List.forall_mem_cons.mpr ⟨⟨_, _, _, rfl, by decide, rfl, wg_ 181 (by decide +kernel) rfl⟩, fun _ h => absurd h List.not_mem_nil⟩⟩⟩⟩⟩⟩⟩, List.forall_mem_cons.mpr ⟨fun C T N h => by cases h; rfl, List.forall_mem_cons.mpr ⟨fun C T N h => by cases h; rfl, List.forall_mem_cons.mpr ⟨fun C T N h => by cases h; rfl, List.forall_mem_cons.mpr ⟨fun C T N h => by cases h; rfl, List.forall_mem_cons.mpr ⟨fun C T N h => by cases h; rfl, List.forall_mem_cons.mpr ⟨fun C T N h => by cases h; rfl, List.forall_mem_cons.mpr ⟨fun C T N h => by cases h; rfl, fun _ h => absurd h List.not_mem_nil⟩⟩⟩⟩⟩⟩⟩⟩
def knX9 : List (Nat × Sv_t) := []
set_option maxRecDepth 100000 in
theorem knX9_ok : KN_ RX9 knX9 := fun _ h => absurd h List.not_mem_nil
def flX10 : List (Nat × Nat × Nat × Int) := [(10, 10, 0, 0), (19, 10, 1, 1), (26, 10, 2, 2), (30, 10, 3, 3), (33, 10, 4, 4), (37, 10, 5, 5), (43, 10, 6, 6), (50, 10, 7, 7), (57, 10, 8, 8), (64, 10, 9, 9), (71, 10, 10, 10), (78, 10, 11, 11), (82, 10, 12, 12), (86, 10, 13, 13), (90, 8, 1, 1), (101, 3, 6, 6), (104, 3, 7, 7), (110, 9, 0, 0), (117, 9, 6, 6), (121, 1, 0, 0), (126, 1, 1, 1), (129, 1, 2, 2), (132, 1, 3, 3), (135, 1, 4, 4), (138, 1, 5, 5), (141, 1, 6, 6), (155, 9, 3, 3), (158, 9, 7, 7), (162, 9, 4, 4), (165, 9, 8, 8), (189, 0, 2, 2), (207, 0, 5, 5), (210, 0, 6, 6), (229, 9, 2, 2), (240, 5, 1, 1), (245, 5, 2, 2), (259, 2, 2, 2), (273, 6, 1, 1), (274, 6, 0, 0), (287, 6, 3, 3), (290, 6, 4, 4), (320, 0, 7, 7), (323, 0, 8, 8), (333, 7, 3, 3), (336, 7, 4, 4), (342, 9, 5, 5), (380, 9, 1, 1), (405, 4, 1, 1), (409, 4, 3, 3), (410, 4, 0, 0), (417, 4, 2, 2)]
def plX10 : List (Nat × Nat × Nat × Int) := [(26, 10, 2, 2), (30, 10, 3, 3), (82, 10, 12, 12), (86, 10, 13, 13), (90, 8, 1, 1), (101, 3, 6, 6), (104, 3, 7, 7), (110, 9, 0, 0), (121, 1, 0, 0), (126, 1, 1, 1), (129, 1, 2, 2), (132, 1, 3, 3), (135, 1, 4, 4), (138, 1, 5, 5), (141, 1, 6, 6), (155, 9, 3, 3), (162, 9, 4, 4), (207, 0, 5, 5), (210, 0, 6, 6), (229, 9, 2, 2), (240, 5, 1, 1), (245, 5, 2, 2), (259, 2, 2, 2), (273, 6, 1, 1), (287, 6, 3, 3), (290, 6, 4, 4), (320, 0, 7, 7), (323, 0, 8, 8), (333, 7, 3, 3), (336, 7, 4, 4), (342, 9, 5, 5), (380, 9, 1, 1), (405, 4, 1, 1), (409, 4, 3, 3), (417, 4, 2, 2)]
set_option maxRecDepth 100000 in
theorem flX10_ok : FT_ RX10 flX10 := List.forall_mem_cons.mpr ⟨⟨_, _, _, rfl, by decide, rfl, wg_ 427 (by decide +kernel) rfl⟩, List.forall_mem_cons.mpr ⟨⟨_, _, _, rfl, by decide, rfl, wg_ 428 (by decide +kernel) rfl⟩, List.forall_mem_cons.mpr ⟨⟨_, _, _, rfl, by decide, rfl, wg_ 429 (by decide +kernel) rfl⟩, List.forall_mem_cons.mpr ⟨⟨_, _, _, rfl, by decide, rfl, wg_ 430 (by decide +kernel) rfl⟩, List.forall_mem_cons.mpr ⟨⟨_, _, _, rfl, by decide, rfl, wg_ 431 (by decide +kernel) rfl⟩, List.forall_mem_cons.mpr ⟨⟨_, _, _, rfl, by decide, rfl, wg_ 432 (by decide +kernel) rfl⟩, List.forall_mem_cons.mpr ⟨⟨_, _, _, rfl, by decide, rfl, wg_ 433 (by decide +kernel) rfl⟩, List.forall_mem_cons.mpr ⟨⟨_, _, _, rfl, by decide, rfl, wg_ 434 (by decide +kernel) rfl⟩, List.forall_mem_cons.mpr ⟨⟨_, _, _, rfl, by decide, rfl, wg_ 435 (by decide +kernel) rfl⟩, List.forall_mem_cons.mpr ⟨⟨_, _, _, rfl, by decide, rfl, wg_ 436 (by decide +kernel) rfl⟩, List.forall_mem_cons.mpr ⟨⟨_, _, _, rfl, by decide, rfl, wg_ 437 (by decide +kernel) rfl⟩, List.forall_mem_cons.mpr ⟨⟨_, _, _, rfl, by decide, rfl, wg_ 438 (by decide +kernel) rfl⟩, List.forall_mem_cons.mpr ⟨⟨_, _, _, rfl, by decide, rfl, wg_ 439 (by decide +kernel) rfl⟩, List.forall_mem_cons.mpr ⟨⟨_, _, _, rfl, by decide, rfl, wg_ 440 (by decide +kernel) rfl⟩, List.forall_mem_cons.mpr ⟨⟨_, _, _, rfl, by decide, rfl, wg_ 114 (by decide +kernel) rfl⟩, List.forall_mem_cons.mpr ⟨⟨_, _, _, rfl, by decide, rfl, wg_ 135 (by decide +kernel) rfl⟩, List.forall_mem_cons.mpr ⟨⟨_, _, _, rfl, by decide, rfl, wg_ 137 (by decide +kernel) rfl⟩, List.forall_mem_cons.mpr ⟨⟨_, _, _, rfl, by decide, rfl, wg_ 221 (by decide +kernel) rfl⟩, List.forall_mem_cons.mpr ⟨⟨_, _, _, rfl, by decide, rfl, wg_ 242 (by decide +kernel) rfl⟩, List.forall_mem_cons.mpr ⟨⟨_, _, _, rfl, by decide, rfl, wg_ 171 (by decide +kernel) rfl⟩, List.forall_mem_cons.mpr ⟨⟨_, _, _, rfl, by decide, rfl, wg_ 175 (by decide +kernel) rfl⟩, List.forall_mem_cons.mpr ⟨⟨_, _, _, rfl, by decide, rfl, wg_ 178 (by decide +kernel) rfl⟩, List.forall_mem_cons.mpr ⟨⟨_, _, _, rfl, by decide, rfl, wg_ 183 (by decide +kernel) rfl⟩, List.forall_mem_cons.mpr ⟨⟨_, _, _, rfl, by decide, rfl, wg_ 186 (by decide +kernel) rfl⟩, List.forall_mem_cons.mpr ⟨⟨_, _, _, rfl, by decide, rfl, wg_ 189 (by decide +kernel) rfl⟩, List.forall_mem_cons.mpr ⟨⟨_, _, _, rfl, by decide, rfl, wg_ 192 (by decide +kernel) rfl⟩, List.forall_mem_cons.mpr ⟨⟨_, _, _, rfl, by decide, rfl, wg_ 232 (by decide +kernel) rfl⟩, List.forall_mem_cons.mpr ⟨⟨_, _, _, rfl, by decide, rfl, wg_ 245 (by decide +kernel) rfl⟩, List.forall_mem_cons.mpr ⟨⟨_, _, _, rfl, by decide, rfl, wg_ 236 (by decide +kernel) rfl⟩, List.forall_mem_cons.mpr ⟨⟨_, _, _, rfl, by decide, rfl, wg_ 248 (by decide +kernel) rfl⟩, List.forall_mem_cons.mpr ⟨⟨_, _, _, rfl, by decide, rfl, wg_ 284 (by decide +kernel) rfl⟩, List.forall_mem_cons.mpr ⟨⟨_, _, _, rfl, by decide, rfl, wg_ 288 (by decide +kernel) rfl⟩, List.forall_mem_cons.mpr ⟨⟨_, _, _, rfl, by decide, rfl, wg_ 290 (by decide +kernel) rfl⟩, List.forall_mem_cons.mpr ⟨⟨_, _, _, rfl, by decide, rfl, wg_ 228 (by decide +kernel) rfl⟩, List.forall_mem_cons.mpr ⟨⟨_, _, _, rfl, by decide, rfl, wg_ 323 (by decide +kernel) rfl⟩, List.forall_mem_cons.mpr ⟨⟨_, _, _, rfl, by decide, rfl, wg_ 325 (by decide +kernel) rfl⟩, List.forall_mem_cons.mpr ⟨⟨_, _, _, rfl, by decide, rfl, wg_ 342 (by decide +kernel) rfl⟩, List.forall_mem_cons.mpr ⟨⟨_, _, _, rfl, by decide, rfl, wg_ 359 (by decide +kernel) rfl⟩, List.forall_mem_cons.mpr ⟨⟨_, _, _, rfl, by decide, rfl, wg_ 357 (by decide +kernel) rfl⟩, List.forall_mem_cons.mpr ⟨⟨_, _, _, rfl, by decide, rfl, wg_ 362 (by decide +kernel) rfl⟩, List.forall_mem_cons.mpr ⟨⟨_, _, _, rfl, by decide, rfl, wg_ 364 (by decide +kernel) rfl⟩, List.forall_mem_cons.mpr ⟨⟨_, _, _, rfl, by decide, rfl, wg_ 292 (by decide +kernel) rfl⟩, List.forall_mem_cons.mpr ⟨⟨_, _, _, rfl, by decide, rfl, wg_ 294 (by decide +kernel) rfl⟩, List.forall_mem_cons.mpr ⟨⟨_, _, _, rfl, by decide, rfl, wg_ 386 (by decide +kernel) rfl⟩, List.forall_mem_cons.mpr ⟨⟨_, _, _, rfl, by decide, rfl, wg_ 388 (by decide +kernel) rfl⟩, List.forall_mem_cons.mpr ⟨⟨_, _, _, rfl, by decide, rfl, wg_ 238 (by decide +kernel) rfl⟩, List.forall_mem_cons.mpr ⟨⟨_, _, _, rfl, by decide, rfl, wg_ 224 (by decide +kernel) rfl⟩, List.forall_mem_cons.mpr ⟨⟨_, _, _, rfl, by decide, rfl, wg_ 410 (by decide +kernel) rfl⟩, List.forall_mem_cons.mpr ⟨⟨_, _, _, rfl, by decide, rfl, wg_ 416 (by decide +kernel) rfl⟩, List.forall_mem_cons.mpr ⟨⟨_, _, _, rfl, by decide, rfl, wg_ 408 (by decide +kernel) rfl⟩, List.forall_mem_cons.mpr ⟨⟨_, _, _, rfl, by decide, rfl, wg_ 412 (by decide +kernel) rfl⟩, fun _ h => absurd h List.not_mem_nil⟩⟩⟩⟩⟩⟩⟩⟩⟩⟩⟩⟩⟩⟩⟩⟩⟩⟩⟩⟩⟩⟩⟩⟩⟩⟩⟩⟩⟩⟩⟩⟩⟩⟩⟩⟩⟩⟩⟩⟩⟩⟩⟩⟩⟩⟩⟩⟩⟩⟩⟩
set_option maxRecDepth 100000 in
theorem plX10_ok : PT_ RX10 plX10 := ⟨List.forall_mem_cons.mpr ⟨⟨_, _, _, rfl, by decide, rfl, wg_ 429 (by decide +kernel) rfl⟩, List.forall_mem_cons.mpr ⟨⟨_, _, _, rfl, by decide, rfl, wg_ 430 (by decide +kernel) rfl⟩, List.forall_mem_cons.mpr ⟨⟨_, _, _, rfl, by decide, rfl, wg_ 439 (by decide +kernel) rfl⟩, List.forall_mem_cons.mpr ⟨⟨_, _, _, rfl, by decide, rfl, wg_ 440 (by decide +kernel) rfl⟩, List.forall_mem_cons.mpr ⟨⟨_, _, _, rfl, by decide, rfl, wg_ 114 (by decide +kernel) rfl⟩, List.forall_mem_cons.mpr ⟨⟨_, _, _, rfl, by decide, rfl, wg_ 135 (by decide +kernel) rfl⟩, List.forall_mem_cons.mpr ⟨⟨_, _, _, rfl, by decide, rfl, wg_ 137 (by decide +kernel) rfl⟩, List.forall_mem_cons.mpr ⟨⟨_, _, _, rfl, by decide, rfl, wg_ 221 (by decide +kernel) rfl⟩, List.forall_mem_cons.mpr ⟨⟨_, _, _, rfl, by decide, rfl, wg_ 171 (by decide +kernel) rfl⟩, List.forall_mem_cons.mpr ⟨⟨_, _, _, rfl, by decide, rfl, wg_ 175 (by decide +kernel) rfl⟩, List.forall_mem_cons.mpr ⟨⟨_, _, _, rfl, by decide, rfl, wg_ 178 (by decide +kernel) rfl⟩, List.forall_mem_cons.mpr ⟨⟨_, _, _, rfl, by decide, rfl, wg_ 183 (by decide +kernel) rfl⟩, List.forall_mem_cons.mpr ⟨⟨_, _, _, rfl, by decide, rfl, wg_ 186 (by decide +kernel) rfl⟩, List.forall_mem_cons.mpr ⟨⟨_, _, _, rfl, by decide, rfl, wg_ 189 (by decide +kernel) rfl⟩, List.forall_mem_cons.mpr ⟨⟨_, _, _, rfl, by decide, rfl, wg_ 192 (by decide +kernel) rfl⟩, List.forall_mem_cons.mpr ⟨⟨_, _, _, rfl, by decide, rfl, wg_ 232 (by decide +kernel) rfl⟩, List.forall_mem_cons.mpr ⟨⟨_, _, _, rfl, by decide, rfl, wg_ 236 (by decide +kernel) rfl⟩, List.forall_mem_cons.mpr ⟨⟨_, _, _, rfl, by decide, rfl, wg_ 288 (by decide +kernel) rfl⟩, List.forall_mem_cons.mpr ⟨⟨_, _, _, rfl, by decide, rfl, wg_ 290 (by decide +kernel) rfl⟩, List.forall_mem_cons.mpr ⟨⟨_, _, _, rfl, by decide, rfl, wg_ 228 (by decide +kernel) rfl⟩, List.forall_mem_cons.mpr ⟨⟨_, _, _, rfl, by decide, rfl, wg_ 323 (by decide +kernel) rfl⟩, List.forall_mem_cons.mpr ⟨⟨_, _, _, rfl, by decide, rfl, wg_ 325 (by decide +kernel) rfl⟩, List.forall_mem_cons.mpr ⟨⟨_, _, _, rfl, by decide, rfl, wg_ 342 (by decide +kernel) rfl⟩, List.forall_mem_cons.mpr ⟨⟨_, _, _, rfl, by decide, rfl, wg_ 359 (by decide +kernel) rfl⟩, List.forall_mem_cons.mpr ⟨⟨_, _, _, rfl, by decide, rfl, wg_ 362 (by decide +kernel) rfl⟩, List.forall_mem_cons.mpr ⟨⟨_, _, _, rfl, by decide, rfl, wg_ 364 (by decide +kernel) rfl⟩, List.forall_mem_cons.mpr ⟨⟨_, _, _, rfl, by decide, rfl, wg_ 292 (by decide +kernel) rfl⟩, List.forall_mem_cons.mpr ⟨⟨_, _, _, rfl, by decide, rfl, wg_ 294 (by decide +kernel) rfl⟩, List.forall_mem_cons.mpr ⟨⟨_, _, _, rfl, by decide, rfl, wg_ 386 (by decide +kernel) rfl⟩, List.forall_mem_cons.mpr ⟨⟨_, _, _, rfl, by decide, rfl, wg_ 388 (by decide +kernel) rfl⟩, List.forall_mem_cons.mpr ⟨⟨_, _, _, rfl, by decide, rfl, wg_ 238 (by decide +kernel) rfl⟩, List.forall_mem_cons.mpr ⟨⟨_, _, _, rfl, by decide, rfl, wg_ 224 (by decide +kernel) rfl⟩, List.forall_mem_cons.mpr ⟨⟨_, _, _, rfl, by decide, rfl, wg_ 410 (by decide +kernel) rfl⟩, List.forall_mem_cons.mpr ⟨⟨_, _, _, rfl, by decide, rfl, wg_ 416 (by decide +kernel) rfl⟩, List.forall_mem_cons.mpr ⟨⟨_, _, _, rfl, by decide, rfl, wg_ 412 (by decide +kernel) rfl⟩, fun _ h => absurd h List.not_mem_nil⟩⟩⟩⟩⟩⟩⟩⟩⟩⟩⟩⟩⟩⟩⟩⟩⟩⟩⟩⟩⟩⟩⟩⟩⟩⟩⟩⟩⟩⟩⟩⟩⟩⟩⟩, List.forall_mem_cons.mpr ⟨fun C T N h => by cases h; rfl, List.forall_mem_cons.mpr ⟨fun C T N h => by cases h; rfl, List.forall_mem_cons.mpr ⟨fun C T N h => by cases h; rfl, List.forall_mem_cons.mpr ⟨fun C T N h => by cases h; rfl, List.forall_mem_cons.mpr ⟨fun C T N h => by cases h; rfl, List.forall_mem_cons.mpr ⟨fun C T N h => by cases h; rfl, List.forall_mem_cons.mpr ⟨fun C T N h => by cases h; rfl, List.forall_mem_cons.mpr ⟨fun C T N h => by cases h; rfl, List.forall_mem_cons.mpr ⟨fun C T N h => by cases h; rfl, List.forall_mem_cons.mpr ⟨fun C T N h => by cases h; rfl, List.forall_mem_cons.mpr ⟨fun C T N h => by cases h; rfl, List.forall_mem_cons.mpr ⟨fun C T N h => by cases h; rfl, List.forall_mem_cons.mpr ⟨fun C T N h => by cases h; rfl, List.forall_mem_cons.mpr ⟨fun C T N h => by cases h; rfl, List.forall_mem_cons.mpr ⟨fun C T N h => by cases h; rfl, List.forall_mem_cons.mpr ⟨fun C T N h => by cases h; rfl, List.forall_mem_cons.mpr ⟨fun C T N h => by cases h; rfl, List.forall_mem_cons.mpr ⟨fun C T N h => by cases h; rfl, List.forall_mem_cons.mpr ⟨fun C T N h => by cases h; rfl, List.forall_mem_cons.mpr ⟨fun C T N h => by cases h; rfl, List.forall_mem_cons.mpr ⟨fun C T N h => by cases h; rfl, List.forall_mem_cons.mpr ⟨fun C T N h => by cases h; rfl, List.forall_mem_cons.mpr ⟨fun C T N h => by cases h; rfl, List.forall_mem_cons.mpr ⟨fun C T N h => by cases h; rfl, List.forall_mem_cons.mpr ⟨fun C T N h => by cases h; rfl, List.forall_mem_cons.mpr ⟨fun C T N h => by cases h; rfl, List.forall_mem_cons.mpr ⟨fun C T N h => by cases h; rfl, List.forall_mem_cons.mpr ⟨fun C T N h => by cases h; rfl, List.forall_mem_cons.mpr ⟨fun C T N h => by cases h; rfl, List.forall_mem_cons.mpr ⟨fun C T N h => by cases h; rfl, List.forall_mem_cons.mpr ⟨fun C T N h => by cases h; rfl, List.forall_mem_cons.mpr ⟨fun C T N h => by cases h; rfl, List.forall_mem_cons.mpr ⟨fun C T N h => by cases h; rfl, List.forall_mem_cons.mpr ⟨fun C T N h => by cases h; rfl, List.forall_mem_cons.mpr ⟨fun C T N h => by cases h; rfl, fun _ h => absurd h List.not_mem_nil⟩⟩⟩⟩⟩⟩⟩⟩⟩⟩⟩⟩⟩⟩⟩⟩⟩⟩⟩⟩⟩⟩⟩⟩⟩⟩⟩⟩⟩⟩⟩⟩⟩⟩⟩⟩
def knX10 : List (Nat × Sv_t) := [(429, (0, 2000000000)), (243, (1, (-2))), (430, (1, 1103515245)), (432, (1, 12345)), (434, (1, 2147483648)), (436, (1, 65536)), (438, (1, 100))]
set_option maxRecDepth 100000 in
theorem knX10_ok : KN_ RX10 knX10 := List.forall_mem_cons.mpr ⟨Or.inl ⟨rfl, ⟨by decide, by decide⟩, wg_ 1152 (by decide +kernel) rfl⟩, List.forall_mem_cons.mpr ⟨Or.inr ⟨rfl, ⟨by decide, by decide⟩, wg_ 866 (by decide +kernel) rfl⟩, List.forall_mem_cons.mpr ⟨Or.inr ⟨rfl, ⟨by decide, by decide⟩, wg_ 1156 (by decide +kernel) rfl⟩, List.forall_mem_cons.mpr ⟨Or.inr ⟨rfl, ⟨by decide, by decide⟩, wg_ 1157 (by decide +kernel) rfl⟩, List.forall_mem_cons.mpr ⟨Or.inr ⟨rfl, ⟨by decide, by decide⟩, wg_ 1158 (by decide +kernel) rfl⟩, List.forall_mem_cons.mpr ⟨Or.inr ⟨rfl, ⟨by decide, by decide⟩, wg_ 1162 (by decide +kernel) rfl⟩, List.forall_mem_cons.mpr ⟨Or.inr ⟨rfl, ⟨by decide, by decide⟩, wg_ 1163 (by decide +kernel) rfl⟩, fun _ h => absurd h List.not_mem_nil⟩⟩⟩⟩⟩⟩⟩
def flX11 : List (Nat × Nat × Nat × Int) := [(9, 11, 1, 1), (13, 11, 2, 2), (16, 11, 3, 3), (20, 11, 4, 4), (24, 11, 6, 6), (27, 11, 13, 13), (31, 11, 14, 14), (34, 11, 15, 15), (37, 11, 16, 16), (40, 11, 17, 17), (43, 11, 18, 18), (46, 11, 21, 21), (49, 11, 24, 24), (52, 11, 29, 29), (55, 11, 30, 30), (58, 11, 31, 31), (61, 11, 35, 35), (64, 11, 36, 36), (67, 11, 37, 37), (71, 11, 38, 38), (108, 11, 5, 5), (111, 11, 7, 7), (114, 11, 8, 8), (121, 11, 9, 9), (124, 11, 10, 10), (135, 11, 11, 11), (144, 11, 12, 12), (302, 11, 19, 19), (305, 11, 20, 20), (327, 11, 22, 22), (330, 11, 23, 23), (386, 11, 25, 25), (402, 11, 26, 26), (405, 11, 27, 27), (418, 11, 28, 28), (460, 11, 32, 32), (463, 11, 33, 33), (466, 11, 34, 34)]
def plX11 : List (Nat × Nat × Nat × Int) := [(27, 11, 13, 13), (108, 11, 5, 5), (111, 11, 7, 7), (114, 11, 8, 8), (121, 11, 9, 9), (124, 11, 10, 10), (135, 11, 11, 11), (144, 11, 12, 12), (302, 11, 19, 19), (305, 11, 20, 20), (327, 11, 22, 22), (330, 11, 23, 23), (386, 11, 25, 25), (402, 11, 26, 26), (405, 11, 27, 27), (418, 11, 28, 28), (460, 11, 32, 32), (463, 11, 33, 33), (466, 11, 34, 34)]
set_option maxRecDepth 100000 in
theorem flX11_ok : FT_ RX11 flX11 := List.forall_mem_cons.mpr ⟨⟨_, _, _, rfl, by decide, rfl, wg_ 1231 (by decide +kernel) rfl⟩, List.forall_mem_cons.mpr ⟨⟨_, _, _, rfl, by decide, rfl, wg_ 1232 (by decide +kernel) rfl⟩, List.forall_mem_cons.mpr ⟨⟨_, _, _, rfl, by decide, rfl, wg_ 1233 (by decide +kernel) rfl⟩, List.forall_mem_cons.mpr ⟨⟨_, _, _, rfl, by decide, rfl, wg_ 1234 (by decide +kernel) rfl⟩, List.forall_mem_cons.mpr ⟨⟨_, _, _, rfl, by decide, rfl, wg_ 1236 (by decide +kernel) rfl⟩, List.forall_mem_cons.mpr ⟨⟨_, _, _, rfl, by decide, rfl, wg_ 1243 (by decide +kernel) rfl⟩, List.forall_mem_cons.mpr ⟨⟨_, _, _, rfl, by decide, rfl, wg_ 1244 (by decide +kernel) rfl⟩, List.forall_mem_cons.mpr ⟨⟨_, _, _, rfl, by decide, rfl, wg_ 1245 (by decide +kernel) rfl⟩, List.forall_mem_cons.mpr ⟨⟨_, _, _, rfl, by decide, rfl, wg_ 1246 (by decide +kernel) rfl⟩, List.forall_mem_cons.mpr ⟨⟨_, _, _, rfl, by decide, rfl, wg_ 1247 (by decide +kernel) rfl⟩, List.forall_mem_cons.mpr ⟨⟨_, _, _, rfl, by decide, rfl, wg_ 1248 (by decide +kernel) rfl⟩, List.forall_mem_cons.mpr ⟨⟨_, _, _, rfl, by decide, rfl, wg_ 1251 (by decide +kernel) rfl⟩, List.forall_mem_cons.mpr ⟨⟨_, _, _, rfl, by decide, rfl, wg_ 1254 (by decide +kernel) rfl⟩, List.forall_mem_cons.mpr ⟨⟨_, _, _, rfl, by decide, rfl, wg_ 1259 (by decide +kernel) rfl⟩, List.forall_mem_cons.mpr ⟨⟨_, _, _, rfl, by decide, rfl, wg_ 1260 (by decide +kernel) rfl⟩, List.forall_mem_cons.mpr ⟨⟨_, _, _, rfl, by decide, rfl, wg_ 1261 (by decide +kernel) rfl⟩, List.forall_mem_cons.mpr ⟨⟨_, _, _, rfl, by decide, rfl, wg_ 1265 (by decide +kernel) rfl⟩, List.forall_mem_cons.mpr ⟨⟨_, _, _, rfl, by decide, rfl, wg_ 1266 (by decide +kernel) rfl⟩, List.forall_mem_cons.mpr ⟨⟨_, _, _, rfl, by decide, rfl, wg_ 1267 (by decide +kernel) rfl⟩, List.forall_mem_cons.mpr ⟨⟨_, _, _, rfl, by decide, rfl, wg_ 1268 (by decide +kernel) rfl⟩, List.forall_mem_cons.mpr ⟨⟨_, _, _, rfl, by decide, rfl, wg_ 1235 (by decide +kernel) rfl⟩, List.forall_mem_cons.mpr ⟨⟨_, _, _, rfl, by decide, rfl, wg_ 1237 (by decide +kernel) rfl⟩, List.forall_mem_cons.mpr ⟨⟨_, _, _, rfl, by decide, rfl, wg_ 1238 (by decide +kernel) rfl⟩, List.forall_mem_cons.mpr ⟨⟨_, _, _, rfl, by decide, rfl, wg_ 1239 (by decide +kernel) rfl⟩, List.forall_mem_cons.mpr ⟨⟨_, _, _, rfl, by decide, rfl, wg_ 1240 (by decide +kernel) rfl⟩, List.forall_mem_cons.mpr ⟨⟨_, _, _, rfl, by decide, rfl, wg_ 1241 (by decide +kernel) rfl⟩, List.forall_mem_cons.mpr ⟨⟨_, _, _, rfl, by decide, rfl, wg_ 1242 (by decide +kernel) rfl⟩, List.forall_mem_cons.mpr ⟨⟨_, _, _, rfl, by decide, rfl, wg_ 1249 (by decide +kernel) rfl⟩, List.forall_mem_cons.mpr ⟨⟨_, _, _, rfl, by decide, rfl, wg_ 1250 (by decide +kernel) rfl⟩, List.forall_mem_cons.mpr ⟨⟨_, _, _, rfl, by decide, rfl, wg_ 1252 (by decide +kernel) rfl⟩, List.forall_mem_cons.mpr ⟨⟨_, _, _, rfl, by decide, rfl, wg_ 1253 (by decide +kernel) rfl⟩, List.forall_mem_cons.mpr ⟨⟨_, _, _, rfl, by decide, rfl, wg_ 1255 (by decide +kernel) rfl⟩, List.forall_mem_cons.mpr ⟨⟨_, _, _, rfl, by decide, rfl, wg_ 1256 (by decide +kernel) rfl⟩, List.forall_mem_cons.mpr ⟨⟨_, _, _, rfl, by decide, rfl, wg_ 1257 (by decide +kernel) rfl⟩, List.forall_mem_cons.mpr ⟨⟨_, _, _, rfl, by decide, rfl, wg_ 1258 (by decide +kernel) rfl⟩, List.forall_mem_cons.mpr ⟨⟨_, _, _, rfl, by decide, rfl, wg_ 1262 (by decide +kernel) rfl⟩, List.forall_mem_cons.mpr ⟨⟨_, _, _, rfl, by decide, rfl, wg_ 1263 (by decide +kernel) rfl⟩, List.forall_mem_cons.mpr ⟨⟨_, _, _, rfl, by decide, rfl, wg_ 1264 (by decide +kernel) rfl⟩, fun _ h => absurd h List.not_mem_nil⟩⟩⟩⟩⟩⟩⟩⟩⟩⟩⟩⟩⟩⟩⟩⟩⟩⟩⟩⟩⟩⟩⟩⟩⟩⟩⟩⟩⟩⟩⟩⟩⟩⟩⟩⟩⟩⟩
set_option maxRecDepth 100000 in
theorem plX11_ok : PT_ RX11 plX11 := ⟨List.forall_mem_cons.mpr ⟨⟨_, _, _, rfl, by decide, rfl, wg_ 1243 (by decide +kernel) rfl⟩, List.forall_mem_cons.mpr ⟨⟨_, _, _, rfl, by decide, rfl, wg_ 1235 (by decide +kernel) rfl⟩, List.forall_mem_cons.mpr ⟨⟨_, _, _, rfl, by decide, rfl, wg_ 1237 (by decide +kernel) rfl⟩, List.forall_mem_cons.mpr ⟨⟨_, _, _, rfl, by decide, rfl, wg_ 1238 (by decide +kernel) rfl⟩, List.forall_mem_cons.mpr ⟨⟨_, _, _, rfl, by decide, rfl, wg_ 1239 (by decide +kernel) rfl⟩, List.forall_mem_cons.mpr ⟨⟨_, _, _, rfl, by decide, rfl, wg_ 1240 (by decide +kernel) rfl⟩, List.forall_mem_cons.mpr ⟨⟨_, _, _, rfl, by decide, rfl, wg_ 1241 (by decide +kernel) rfl⟩, List.forall_mem_cons.mpr ⟨⟨_, _, _, rfl, by decide, rfl, wg_ 1242 (by decide +kernel) rfl⟩, List.forall_mem_cons.mpr ⟨⟨_, _, _, rfl, by decide, rfl, wg_ 1249 (by decide +kernel) rfl⟩, List.forall_mem_cons.mpr ⟨⟨_, _, _, rfl, by decide, rfl, wg_ 1250 (by decide +kernel) rfl⟩, List.forall_mem_cons.mpr ⟨⟨_, _, _, rfl, by decide, rfl, wg_ 1252 (by decide +kernel) rfl⟩, List.forall_mem_cons.mpr ⟨⟨_, _, _, rfl, by decide, rfl, wg_ 1253 (by decide +kernel) rfl⟩, List.forall_mem_cons.mpr ⟨⟨_, _, _, rfl, by decide, rfl, wg_ 1255 (by decide +kernel) rfl⟩, List.forall_mem_cons.mpr ⟨⟨_, _, _, rfl, by decide, rfl, wg_ 1256 (by decide +kernel) rfl⟩, List.forall_mem_cons.mpr ⟨⟨_, _, _, rfl, by decide, rfl, wg_ 1257 (by decide +kernel) rfl⟩, List.forall_mem_cons.mpr ⟨⟨_, _, _, rfl, by decide, rfl, wg_ 1258 (by decide +kernel) rfl⟩, List.forall_mem_cons.mpr ⟨⟨_, _, _, rfl, by decide, rfl, wg_ 1262 (by decide +kernel) rfl⟩, List.forall_mem_cons.mpr ⟨⟨_, _, _, rfl, by decide, rfl, wg_ 1263 (by decide +kernel) rfl⟩, List.forall_mem_cons.mpr ⟨⟨_, _, _, rfl, by decide, rfl, wg_ 1264 (by decide +kernel) rfl⟩, fun _ h => absurd h List.not_mem_nil⟩⟩⟩⟩⟩⟩⟩⟩⟩⟩⟩⟩⟩⟩⟩⟩⟩⟩⟩, List.forall_mem_cons.mpr ⟨fun C T N h => by cases h; rfl, List.forall_mem_cons.mpr ⟨fun C T N h => by cases h; rfl, List.forall_mem_cons.mpr ⟨fun C T N h => by cases h; rfl, List.forall_mem_cons.mpr ⟨fun C T N h => by cases h; rfl, List.forall_mem_cons.mpr ⟨fun C T N h => by cases h; rfl, List.forall_mem_cons.mpr ⟨fun C T N h => by cases h; rfl, List.forall_mem_cons.mpr ⟨fun C T N h => by cases h; rfl, List.forall_mem_cons.mpr ⟨fun C T N h => by cases h; rfl, List.forall_mem_cons.mpr ⟨fun C T N h => by cases h; rfl, List.forall_mem_cons.mpr ⟨fun C T N h => by cases h; rfl, List.forall_mem_cons.mpr ⟨fun C T N h => by cases h; rfl, List.forall_mem_cons.mpr ⟨fun C T N h => by cases h; rfl, List.forall_mem_cons.mpr ⟨fun C T N h => by cases h; rfl, List.forall_mem_cons.mpr ⟨fun C T N h => by cases h; rfl, List.forall_mem_cons.mpr ⟨fun C T N h => by cases h; rfl, List.forall_mem_cons.mpr ⟨fun C T N h => by cases h; rfl, List.forall_mem_cons.mpr ⟨fun C T N h => by cases h; rfl, List.forall_mem_cons.mpr ⟨fun C T N h => by cases h; rfl, List.forall_mem_cons.mpr ⟨fun C T N h => by cases h; rfl, fun _ h => absurd h List.not_mem_nil⟩⟩⟩⟩⟩⟩⟩⟩⟩⟩⟩⟩⟩⟩⟩⟩⟩⟩⟩⟩
def knX11 : List (Nat × Sv_t) := [(138, (0, 99999)), (370, (0, 1000000)), (77, (1, 2)), (127, (1, 97)), (129, (1, 122)), (131, (1, 48)), (133, (1, 57)), (180, (1, 60)), (258, (1, 6)), (87, (1, 1999)), (267, (1, 3)), (336, (1, 20)), (338, (1, 9)), (334, (1, (-1))), (348, (1, (-2))), (371, (1, 4)), (421, (1, 200)), (448, (1, 40)), (479, (1, 2000000000)), (477, (1, 100)), (469, (1, 1103515245)), (471, (1, 12345)), (473, (1, 2147483648)), (475, (1, 65536))]
set_option maxRecDepth 100000 in
theorem knX11_ok : KN_ RX11 knX11 := List.forall_mem_cons.mpr ⟨Or.inl ⟨rfl, ⟨by decide, by decide⟩, wg_ 1388 (by decide +kernel) rfl⟩, List.forall_mem_cons.mpr ⟨Or.inl ⟨rfl, ⟨by decide, by decide⟩, wg_ 1724 (by decide +kernel) rfl⟩, List.forall_mem_cons.mpr ⟨Or.inr ⟨rfl, ⟨by decide, by decide⟩, wg_ 1352 (by decide +kernel) rfl⟩, List.forall_mem_cons.mpr ⟨Or.inr ⟨rfl, ⟨by decide, by decide⟩, wg_ 1384 (by decide +kernel) rfl⟩, List.forall_mem_cons.mpr ⟨Or.inr ⟨rfl, ⟨by decide, by decide⟩, wg_ 1385 (by decide +kernel) rfl⟩, List.forall_mem_cons.mpr ⟨Or.inr ⟨rfl, ⟨by decide, by decide⟩, wg_ 1386 (by decide +kernel) rfl⟩, List.forall_mem_cons.mpr ⟨Or.inr ⟨rfl, ⟨by decide, by decide⟩, wg_ 1387 (by decide +kernel) rfl⟩, List.forall_mem_cons.mpr ⟨Or.inr ⟨rfl, ⟨by decide, by decide⟩, wg_ 1445 (by decide +kernel) rfl⟩, List.forall_mem_cons.mpr ⟨Or.inr ⟨rfl, ⟨by decide, by decide⟩, wg_ 1471 (by decide +kernel) rfl⟩, List.forall_mem_cons.mpr ⟨Or.inr ⟨rfl, ⟨by decide, by decide⟩, wg_ 1487 (by decide +kernel) rfl⟩, List.forall_mem_cons.mpr ⟨Or.inr ⟨rfl, ⟨by decide, by decide⟩, wg_ 1496 (by decide +kernel) rfl⟩, List.forall_mem_cons.mpr ⟨Or.inr ⟨rfl, ⟨by decide, by decide⟩, wg_ 1669 (by decide +kernel) rfl⟩, List.forall_mem_cons.mpr ⟨Or.inr ⟨rfl, ⟨by decide, by decide⟩, wg_ 1670 (by decide +kernel) rfl⟩, List.forall_mem_cons.mpr ⟨Or.inr ⟨rfl, ⟨by decide, by decide⟩, wg_ 1675 (by decide +kernel) rfl⟩, List.forall_mem_cons.mpr ⟨Or.inr ⟨rfl, ⟨by decide, by decide⟩, wg_ 1680 (by decide +kernel) rfl⟩, List.forall_mem_cons.mpr ⟨Or.inr ⟨rfl, ⟨by decide, by decide⟩, wg_ 1737 (by decide +kernel) rfl⟩, List.forall_mem_cons.mpr ⟨Or.inr ⟨rfl, ⟨by decide, by decide⟩, wg_ 1838 (by decide +kernel) rfl⟩, List.forall_mem_cons.mpr ⟨Or.inr ⟨rfl, ⟨by decide, by decide⟩, wg_ 1855 (by decide +kernel) rfl⟩, List.forall_mem_cons.mpr ⟨Or.inr ⟨rfl, ⟨by decide, by decide⟩, wg_ 1907 (by decide +kernel) rfl⟩, List.forall_mem_cons.mpr ⟨Or.inr ⟨rfl, ⟨by decide, by decide⟩, wg_ 1908 (by decide +kernel) rfl⟩, List.forall_mem_cons.mpr ⟨Or.inr ⟨rfl, ⟨by decide, by decide⟩, wg_ 1913 (by decide +kernel) rfl⟩, List.forall_mem_cons.mpr ⟨Or.inr ⟨rfl, ⟨by decide, by decide⟩, wg_ 1914 (by decide +kernel) rfl⟩, List.forall_mem_cons.mpr ⟨Or.inr ⟨rfl, ⟨by decide, by decide⟩, wg_ 1915 (by decide +kernel) rfl⟩, List.forall_mem_cons.mpr ⟨Or.inr ⟨rfl, ⟨by decide, by decide⟩, wg_ 1916 (by decide +kernel) rfl⟩, fun _ h => absurd h List.not_mem_nil⟩⟩⟩⟩⟩⟩⟩⟩⟩⟩⟩⟩⟩⟩⟩⟩⟩⟩⟩⟩⟩⟩⟩⟩
def flL : List (Nat × Nat × Nat × Int) := []
def plL : List (Nat × Nat × Nat × Int) := []
set_option maxRecDepth 100000 in
theorem flL_ok : FT_ RL flL := fun _ h => absurd h List.not_mem_nil
set_option maxRecDepth 100000 in
theorem plL_ok : PT_ RL plL := ⟨fun _ h => absurd h List.not_mem_nil, fun _ h => absurd h List.not_mem_nil⟩
def knL : List (Nat × Sv_t) := [(256, (1, 4294967295))]
set_option maxRecDepth 100000 in
theorem knL_ok : KN_ RL knL := List.forall_mem_cons.mpr ⟨Or.inr ⟨rfl, ⟨by decide, by decide⟩, wg_ 1940 (by decide +kernel) rfl⟩, fun _ h => absurd h List.not_mem_nil⟩
end
section
section SN2
variable {X : Cx_t} {G : Gx_t} {Q : State → Prop} {cl sl : Nat} {ad shs : List Nat} {σ : Me_t} {pc pc' : Nat} {L S : List Sv_t} {own : String} {cc : ByteArray} {nL : Nat} {rty : Option FieldType}
theorem i8_c {c : Int} (h1 : -128 ≤ c) (h2 : c ≤ 127) : (Int8.ofInt c).toInt32 = Int32.ofInt c := by
  rw [← Int32.toInt_inj, Int8.toInt_toInt32, Int8.toInt_ofInt_of_le (by omega) (by omega), i3_t (by omega)]
theorem i16_c {c : Int} (h1 : -32768 ≤ c) (h2 : c ≤ 32767) : (Int16.ofInt c).toInt32 = Int32.ofInt c := by
  rw [← Int32.toInt_inj, Int16.toInt_toInt32, Int16.toInt_ofInt_of_le (by omega) (by omega), i3_t (by omega)]
theorem so_iconst {c : Int} (E : EN_ X G own cc nL rty) (hd : decode cc pc = .ok (.iconst c, 1)) (h1 : -128 ≤ c) (h2 : c ≤ 127) (k : WP_ X G Q cl sl ad shs σ (pc + 1) L ((0, c) :: S)) : WP_ X G Q cl sl ad shs σ pc L S :=
  wpp_ k (fun _ vS => vc_ (show -2147483648 ≤ c ∧ c ≤ 2147483647 by omega) vS) (fun _ _ _ _ _ _ kk => lv_iconst E.1 E.2.1 hd rfl kk)
theorem so_bipush {c : Int} (E : EN_ X G own cc nL rty) (hd : decode cc pc = .ok (.bipush c, 2)) (h1 : -128 ≤ c) (h2 : c ≤ 127) (k : WP_ X G Q cl sl ad shs σ (pc + 2) L ((0, c) :: S)) : WP_ X G Q cl sl ad shs σ pc L S :=
  wpp_ k (fun _ vS => vc_ (show -2147483648 ≤ c ∧ c ≤ 2147483647 by omega) vS) (fun _ _ _ _ _ _ kk => lv_bipush E.1 E.2.1 hd (i8_c h1 h2) kk)
theorem so_sipush {c : Int} (E : EN_ X G own cc nL rty) (hd : decode cc pc = .ok (.sipush c, 3)) (h1 : -32768 ≤ c) (h2 : c ≤ 32767) (k : WP_ X G Q cl sl ad shs σ (pc + 3) L ((0, c) :: S)) : WP_ X G Q cl sl ad shs σ pc L S :=
  wpp_ k (fun _ vS => vc_ (show -2147483648 ≤ c ∧ c ≤ 2147483647 by omega) vS) (fun _ _ _ _ _ _ kk => lv_sipush E.1 E.2.1 hd (i16_c h1 h2) kk)
theorem so_lconst0 {c : Fin 2} (E : EN_ X G own cc nL rty) (hd : decode cc pc = .ok (.lconst c, 1)) (h : c.val = 0) (k : WP_ X G Q cl sl ad shs σ (pc + 1) L ((1, 0) :: S)) : WP_ X G Q cl sl ad shs σ pc L S :=
  wpp_ k (fun _ vS => vc_ (show (-9223372036854775808 : Int) ≤ 0 ∧ (0 : Int) ≤ 9223372036854775807 by omega) vS) (fun _ _ _ _ _ _ kk => lv_lconst E.1 E.2.1 hd (by rw [h]; decide) kk)
theorem so_lconst1 {c : Fin 2} (E : EN_ X G own cc nL rty) (hd : decode cc pc = .ok (.lconst c, 1)) (h : ¬ c.val = 0) (k : WP_ X G Q cl sl ad shs σ (pc + 1) L ((1, 1) :: S)) : WP_ X G Q cl sl ad shs σ pc L S :=
  wpp_ k (fun _ vS => vc_ (show (-9223372036854775808 : Int) ≤ 1 ∧ (1 : Int) ≤ 9223372036854775807 by omega) vS) (fun _ _ _ _ _ _ kk => lv_lconst E.1 E.2.1 hd (by rw [show c.val = 1 by omega]; decide) kk)
theorem so_ldc {n : Nat} {kn : List (Nat × Sv_t)} {v : Sv_t} (E : EN_ X G own cc nL rty) (hK : KN_ own kn) (hv : lk_ kn n = some v) (hd : decode cc pc = .ok (.ldc n, 2)) (k : WP_ X G Q cl sl ad shs σ (pc + 2) L (v :: S)) (h0 : v.1 = 0) : WP_ X G Q cl sl ad shs σ pc L S := by
  obtain ⟨t, z⟩ := v
  cases h0
  rcases hK _ (lk_mem hv) with ⟨-, hr, hw⟩ | ⟨h1, -⟩
  · exact wpp_ k (fun _ vS => vc_ hr vS) (fun _ _ _ _ _ _ kk => lv_ldc E.1 E.2.1 E.2.2.2.1 (E.2.2.2.2.1 _ hw) hd kk)
  · cases h1
theorem so_ldcw {n : Nat} {kn : List (Nat × Sv_t)} {v : Sv_t} (E : EN_ X G own cc nL rty) (hK : KN_ own kn) (hv : lk_ kn n = some v) (hd : decode cc pc = .ok (.ldc_w n, 3)) (k : WP_ X G Q cl sl ad shs σ (pc + 3) L (v :: S)) (h0 : v.1 = 0) : WP_ X G Q cl sl ad shs σ pc L S := by
  obtain ⟨t, z⟩ := v
  cases h0
  rcases hK _ (lk_mem hv) with ⟨-, hr, hw⟩ | ⟨h1, -⟩
  · exact wpp_ k (fun _ vS => vc_ hr vS) (fun _ _ _ _ _ _ kk => lv_ldcw E.1 E.2.1 E.2.2.2.1 (E.2.2.2.2.1 _ hw) hd kk)
  · cases h1
theorem so_ldc2 {n : Nat} {kn : List (Nat × Sv_t)} {v : Sv_t} (E : EN_ X G own cc nL rty) (hK : KN_ own kn) (hv : lk_ kn n = some v) (hd : decode cc pc = .ok (.ldc2_w n, 3)) (k : WP_ X G Q cl sl ad shs σ (pc + 3) L (v :: S)) (h0 : v.1 = 1) : WP_ X G Q cl sl ad shs σ pc L S := by
  obtain ⟨t, z⟩ := v
  cases h0
  rcases hK _ (lk_mem hv) with ⟨h1, -⟩ | ⟨-, hr, hw⟩
  · cases h1
  · exact wpp_ k (fun _ vS => vc_ hr vS) (fun _ _ _ _ _ _ kk => lv_ldc2 E.1 E.2.1 E.2.2.2.1 (E.2.2.2.2.1 _ hw) hd kk)
/-- the two ints, the two longs on top -/
theorem so_iadd {a b : Int} (E : EN_ X G own cc nL rty) (hd : decode cc pc = .ok (.iadd, 1)) (hr : -2147483648 ≤ a + b ∧ a + b ≤ 2147483647) (k : WP_ X G Q cl sl ad shs σ (pc + 1) L ((0, a + b) :: S)) : WP_ X G Q cl sl ad shs σ pc L ((0, b) :: (0, a) :: S) :=
  wpp_ k (fun _ vS => vc_ hr (vt_ (vt_ vS).2).2) (fun _ _ _ _ _ _ kk => lv_iadd E.1 E.2.1 hd (by rw [← Int32.ofInt_add]; exact kk))
theorem so_isub {a b : Int} (E : EN_ X G own cc nL rty) (hd : decode cc pc = .ok (.isub, 1)) (hr : -2147483648 ≤ a - b ∧ a - b ≤ 2147483647) (k : WP_ X G Q cl sl ad shs σ (pc + 1) L ((0, a - b) :: S)) : WP_ X G Q cl sl ad shs σ pc L ((0, b) :: (0, a) :: S) :=
  wpp_ k (fun _ vS => vc_ hr (vt_ (vt_ vS).2).2) (fun _ _ _ _ _ _ kk => lv_isub E.1 E.2.1 hd (by rw [← Int32.ofInt_sub]; exact kk))
theorem so_imul {a b : Int} (E : EN_ X G own cc nL rty) (hd : decode cc pc = .ok (.imul, 1)) (hr : -2147483648 ≤ a * b ∧ a * b ≤ 2147483647) (k : WP_ X G Q cl sl ad shs σ (pc + 1) L ((0, a * b) :: S)) : WP_ X G Q cl sl ad shs σ pc L ((0, b) :: (0, a) :: S) :=
  wpp_ k (fun _ vS => vc_ hr (vt_ (vt_ vS).2).2) (fun _ _ _ _ _ _ kk => lv_imul E.1 E.2.1 hd (by rw [← Int32.ofInt_mul]; exact kk))
theorem i3_n0 {b : Int} (hb : -2147483648 ≤ b ∧ b ≤ 2147483647) (h : ¬ b = 0) : ¬ Int32.ofInt b = 0 := fun q => h ((i3_eq hb (by omega)).mp (q.trans i3_z))
theorem i6_n0 {b : Int} (hb : -9223372036854775808 ≤ b ∧ b ≤ 9223372036854775807) (h : ¬ b = 0) : ¬ Int64.ofInt b = 0 := fun q => h ((i6_eq hb (by omega)).mp (q.trans i6_z))
theorem so_idiv {a b : Int} (E : EN_ X G own cc nL rty) (hd : decode cc pc = .ok (.idiv, 1)) (h0 : ¬ b = 0) (hr : -2147483648 ≤ a.tdiv b ∧ a.tdiv b ≤ 2147483647) (k : WP_ X G Q cl sl ad shs σ (pc + 1) L ((0, a.tdiv b) :: S)) : WP_ X G Q cl sl ad shs σ pc L ((0, b) :: (0, a) :: S) :=
  wpp_ k (fun _ vS => vc_ hr (vt_ (vt_ vS).2).2) (fun _ _ _ _ _ vS kk => lv_idiv E.1 E.2.1 hd (i3_n0 (vt_ vS).1 h0) (by rw [i3_div (vt_ (vt_ vS).2).1 (vt_ vS).1 hr]; exact kk))
theorem tm_r {a b : Int} (ha : -2147483648 ≤ a ∧ a ≤ 2147483647) : -2147483648 ≤ a.tmod b ∧ a.tmod b ≤ 2147483647 := by
  have h1 : (a.tmod b).natAbs ≤ a.natAbs := by rw [Int.natAbs_tmod]; exact Nat.mod_le _ _
  rcases Int.le_total 0 a with h0 | h0
  · have := Int.tmod_nonneg b h0
    omega
  · have := Int.tmod_nonneg b (Int.neg_nonneg_of_nonpos h0)
    rw [Int.neg_tmod] at this
    omega
theorem tm_r6 {a b : Int} (ha : -9223372036854775808 ≤ a ∧ a ≤ 9223372036854775807) : -9223372036854775808 ≤ a.tmod b ∧ a.tmod b ≤ 9223372036854775807 := by
  have h1 : (a.tmod b).natAbs ≤ a.natAbs := by rw [Int.natAbs_tmod]; exact Nat.mod_le _ _
  rcases Int.le_total 0 a with h0 | h0
  · have := Int.tmod_nonneg b h0
    omega
  · have := Int.tmod_nonneg b (Int.neg_nonneg_of_nonpos h0)
    rw [Int.neg_tmod] at this
    omega
theorem so_irem {a b : Int} (E : EN_ X G own cc nL rty) (hd : decode cc pc = .ok (.irem, 1)) (h0 : ¬ b = 0) (k : WP_ X G Q cl sl ad shs σ (pc + 1) L ((0, a.tmod b) :: S)) : WP_ X G Q cl sl ad shs σ pc L ((0, b) :: (0, a) :: S) :=
  wpp_ k (fun _ vS => vc_ (tm_r (vt_ (vt_ vS).2).1) (vt_ (vt_ vS).2).2) (fun _ _ _ _ _ vS kk => lv_irem E.1 E.2.1 hd (i3_n0 (vt_ vS).1 h0) (by rw [i3_rem (vt_ (vt_ vS).2).1 (vt_ vS).1]; exact kk))
theorem so_iand {a b : Int} (E : EN_ X G own cc nL rty) (hd : decode cc pc = .ok (.iand, 1)) (k : WP_ X G Q cl sl ad shs σ (pc + 1) L ((0, and3_ a b) :: S)) : WP_ X G Q cl sl ad shs σ pc L ((0, b) :: (0, a) :: S) :=
  wpp_ k (fun _ vS => vc_ (i3_r _) (vt_ (vt_ vS).2).2) (fun _ _ _ _ _ _ kk => lv_iand E.1 E.2.1 hd (by rw [← i3_o (_ &&& _)]; exact kk))
theorem so_ior {a b : Int} (E : EN_ X G own cc nL rty) (hd : decode cc pc = .ok (.ior, 1)) (k : WP_ X G Q cl sl ad shs σ (pc + 1) L ((0, or3_ a b) :: S)) : WP_ X G Q cl sl ad shs σ pc L ((0, b) :: (0, a) :: S) :=
  wpp_ k (fun _ vS => vc_ (i3_r _) (vt_ (vt_ vS).2).2) (fun _ _ _ _ _ _ kk => lv_ior E.1 E.2.1 hd (by rw [← i3_o (_ ||| _)]; exact kk))
theorem so_ixor {a b : Int} (E : EN_ X G own cc nL rty) (hd : decode cc pc = .ok (.ixor, 1)) (k : WP_ X G Q cl sl ad shs σ (pc + 1) L ((0, xor3_ a b) :: S)) : WP_ X G Q cl sl ad shs σ pc L ((0, b) :: (0, a) :: S) :=
  wpp_ k (fun _ vS => vc_ (i3_r _) (vt_ (vt_ vS).2).2) (fun _ _ _ _ _ _ kk => lv_ixor E.1 E.2.1 hd (by rw [← i3_o (_ ^^^ _)]; exact kk))
theorem so_ishl {a b : Int} (E : EN_ X G own cc nL rty) (hd : decode cc pc = .ok (.ishl, 1)) (k : WP_ X G Q cl sl ad shs σ (pc + 1) L ((0, shl3_ a b) :: S)) : WP_ X G Q cl sl ad shs σ pc L ((0, b) :: (0, a) :: S) :=
  wpp_ k (fun _ vS => vc_ (i3_r _) (vt_ (vt_ vS).2).2) (fun _ _ _ _ _ _ kk => lv_ishl E.1 E.2.1 hd (by rw [← i3_o (_ <<< _)]; exact kk))
theorem so_ishr {a b : Int} (E : EN_ X G own cc nL rty) (hd : decode cc pc = .ok (.ishr, 1)) (k : WP_ X G Q cl sl ad shs σ (pc + 1) L ((0, shr3_ a b) :: S)) : WP_ X G Q cl sl ad shs σ pc L ((0, b) :: (0, a) :: S) :=
  wpp_ k (fun _ vS => vc_ (i3_r _) (vt_ (vt_ vS).2).2) (fun _ _ _ _ _ _ kk => lv_ishr E.1 E.2.1 hd (by rw [← i3_o (_ >>> _)]; exact kk))
theorem so_i2b {a : Int} (E : EN_ X G own cc nL rty) (hd : decode cc pc = .ok (.i2b, 1)) (k : WP_ X G Q cl sl ad shs σ (pc + 1) L ((0, i2b_ a) :: S)) : WP_ X G Q cl sl ad shs σ pc L ((0, a) :: S) :=
  wpp_ k (fun _ vS => vc_ (i3_r _) (vt_ vS).2) (fun _ _ _ _ _ _ kk => lv_i2b E.1 E.2.1 hd (i3_o _).symm kk)
theorem so_i2s {a : Int} (E : EN_ X G own cc nL rty) (hd : decode cc pc = .ok (.i2s, 1)) (k : WP_ X G Q cl sl ad shs σ (pc + 1) L ((0, i2s_ a) :: S)) : WP_ X G Q cl sl ad shs σ pc L ((0, a) :: S) :=
  wpp_ k (fun _ vS => vc_ (i3_r _) (vt_ vS).2) (fun _ _ _ _ _ _ kk => lv_i2s E.1 E.2.1 hd (i3_o _).symm kk)
theorem so_i2l {a : Int} (E : EN_ X G own cc nL rty) (hd : decode cc pc = .ok (.i2l, 1)) (k : WP_ X G Q cl sl ad shs σ (pc + 1) L ((1, a) :: S)) : WP_ X G Q cl sl ad shs σ pc L ((0, a) :: S) :=
  wpp_ k (fun _ vS => vc_ (show -9223372036854775808 ≤ a ∧ a ≤ 9223372036854775807 by have h : -2147483648 ≤ a ∧ a ≤ 2147483647 := (vt_ vS).1; omega) (vt_ vS).2) (fun _ _ _ _ _ vS kk => lv_i2l E.1 E.2.1 hd (i3_l (vt_ vS).1) kk)
theorem so_l2i {a : Int} (E : EN_ X G own cc nL rty) (hd : decode cc pc = .ok (.l2i, 1)) (k : WP_ X G Q cl sl ad shs σ (pc + 1) L ((0, l2i_ a) :: S)) : WP_ X G Q cl sl ad shs σ pc L ((1, a) :: S) :=
  wpp_ k (fun _ vS => vc_ (i3_r _) (vt_ vS).2) (fun _ _ _ _ _ _ kk => lv_l2i E.1 E.2.1 hd (i3_o _).symm kk)
theorem so_ladd {a b : Int} (E : EN_ X G own cc nL rty) (hd : decode cc pc = .ok (.ladd, 1)) (hr : -9223372036854775808 ≤ a + b ∧ a + b ≤ 9223372036854775807) (k : WP_ X G Q cl sl ad shs σ (pc + 1) L ((1, a + b) :: S)) : WP_ X G Q cl sl ad shs σ pc L ((1, b) :: (1, a) :: S) :=
  wpp_ k (fun _ vS => vc_ hr (vt_ (vt_ vS).2).2) (fun _ _ _ _ _ _ kk => lv_ladd E.1 E.2.1 hd (by rw [← Int64.ofInt_add]; exact kk))
theorem so_lsub {a b : Int} (E : EN_ X G own cc nL rty) (hd : decode cc pc = .ok (.lsub, 1)) (hr : -9223372036854775808 ≤ a - b ∧ a - b ≤ 9223372036854775807) (k : WP_ X G Q cl sl ad shs σ (pc + 1) L ((1, a - b) :: S)) : WP_ X G Q cl sl ad shs σ pc L ((1, b) :: (1, a) :: S) :=
  wpp_ k (fun _ vS => vc_ hr (vt_ (vt_ vS).2).2) (fun _ _ _ _ _ _ kk => lv_lsub E.1 E.2.1 hd (by rw [← Int64.ofInt_sub]; exact kk))
theorem so_lmul {a b : Int} (E : EN_ X G own cc nL rty) (hd : decode cc pc = .ok (.lmul, 1)) (hr : -9223372036854775808 ≤ a * b ∧ a * b ≤ 9223372036854775807) (k : WP_ X G Q cl sl ad shs σ (pc + 1) L ((1, a * b) :: S)) : WP_ X G Q cl sl ad shs σ pc L ((1, b) :: (1, a) :: S) :=
  wpp_ k (fun _ vS => vc_ hr (vt_ (vt_ vS).2).2) (fun _ _ _ _ _ _ kk => lv_lmul E.1 E.2.1 hd (by rw [← Int64.ofInt_mul]; exact kk))
theorem so_ldiv {a b : Int} (E : EN_ X G own cc nL rty) (hd : decode cc pc = .ok (.ldiv, 1)) (h0 : ¬ b = 0) (hr : -9223372036854775808 ≤ a.tdiv b ∧ a.tdiv b ≤ 9223372036854775807) (k : WP_ X G Q cl sl ad shs σ (pc + 1) L ((1, a.tdiv b) :: S)) : WP_ X G Q cl sl ad shs σ pc L ((1, b) :: (1, a) :: S) :=
  wpp_ k (fun _ vS => vc_ hr (vt_ (vt_ vS).2).2) (fun _ _ _ _ _ vS kk => lv_ldiv E.1 E.2.1 hd (i6_n0 (vt_ vS).1 h0) (by rw [i6_div (vt_ (vt_ vS).2).1 (vt_ vS).1 hr]; exact kk))
theorem so_lrem {a b : Int} (E : EN_ X G own cc nL rty) (hd : decode cc pc = .ok (.lrem, 1)) (h0 : ¬ b = 0) (k : WP_ X G Q cl sl ad shs σ (pc + 1) L ((1, a.tmod b) :: S)) : WP_ X G Q cl sl ad shs σ pc L ((1, b) :: (1, a) :: S) :=
  wpp_ k (fun _ vS => vc_ (tm_r6 (vt_ (vt_ vS).2).1) (vt_ (vt_ vS).2).2) (fun _ _ _ _ _ vS kk => lv_lrem E.1 E.2.1 hd (i6_n0 (vt_ vS).1 h0) (by rw [i6_rem (vt_ (vt_ vS).2).1 (vt_ vS).1]; exact kk))
theorem so_land {a b : Int} (E : EN_ X G own cc nL rty) (hd : decode cc pc = .ok (.land, 1)) (k : WP_ X G Q cl sl ad shs σ (pc + 1) L ((1, and6_ a b) :: S)) : WP_ X G Q cl sl ad shs σ pc L ((1, b) :: (1, a) :: S) :=
  wpp_ k (fun _ vS => vc_ (i6_r _) (vt_ (vt_ vS).2).2) (fun _ _ _ _ _ _ kk => lv_land E.1 E.2.1 hd (by rw [← i6_o (_ &&& _)]; exact kk))
theorem so_lor {a b : Int} (E : EN_ X G own cc nL rty) (hd : decode cc pc = .ok (.lor, 1)) (k : WP_ X G Q cl sl ad shs σ (pc + 1) L ((1, or6_ a b) :: S)) : WP_ X G Q cl sl ad shs σ pc L ((1, b) :: (1, a) :: S) :=
  wpp_ k (fun _ vS => vc_ (i6_r _) (vt_ (vt_ vS).2).2) (fun _ _ _ _ _ _ kk => lv_lor E.1 E.2.1 hd (by rw [← i6_o (_ ||| _)]; exact kk))
theorem so_lshl {a b : Int} (E : EN_ X G own cc nL rty) (hd : decode cc pc = .ok (.lshl, 1)) (k : WP_ X G Q cl sl ad shs σ (pc + 1) L ((1, shl6_ a b) :: S)) : WP_ X G Q cl sl ad shs σ pc L ((0, b) :: (1, a) :: S) :=
  wpp_ k (fun _ vS => vc_ (i6_r _) (vt_ (vt_ vS).2).2) (fun _ _ _ _ _ _ kk => lv_lshl E.1 E.2.1 hd (i6_o _).symm kk)
theorem so_lshr {a b : Int} (E : EN_ X G own cc nL rty) (hd : decode cc pc = .ok (.lshr, 1)) (k : WP_ X G Q cl sl ad shs σ (pc + 1) L ((1, shr6_ a b) :: S)) : WP_ X G Q cl sl ad shs σ pc L ((0, b) :: (1, a) :: S) :=
  wpp_ k (fun _ vS => vc_ (i6_r _) (vt_ (vt_ vS).2).2) (fun _ _ _ _ _ _ kk => lv_lshr E.1 E.2.1 hd (i6_o _).symm kk)
theorem so_lcmp {a b : Int} (E : EN_ X G own cc nL rty) (hd : decode cc pc = .ok (.lcmp, 1)) (k : WP_ X G Q cl sl ad shs σ (pc + 1) L ((0, lcmp_ a b) :: S)) : WP_ X G Q cl sl ad shs σ pc L ((1, b) :: (1, a) :: S) :=
  wpp_ k (fun _ vS => vc_ (lcmp_r _ _) (vt_ (vt_ vS).2).2) (fun _ _ _ _ _ vS kk => W.lcmp E.1 E.2.1 hd (by rw [lcmp_e (vt_ (vt_ vS).2).1 (vt_ vS).1]; exact kk))
theorem cat1_ {cs : Nat → Nat} {v : Sv_t} (h : (v.1 == 1) = false) : (val_ cs ad v).category = 1 := by
  rw [val_cat, if_neg]
  intro q
  simp [q] at h
theorem so_dup {v : Sv_t} (E : EN_ X G own cc nL rty) (hd : decode cc pc = .ok (.dup, 1)) (h : (v.1 == 1) = false) (k : WP_ X G Q cl sl ad shs σ (pc + 1) L (v :: v :: S)) : WP_ X G Q cl sl ad shs σ pc L (v :: S) :=
  wpp_ k (fun _ vS => vc_ (vt_ vS).1 vS) (fun _ _ _ _ _ _ kk => lv_dup E.1 E.2.1 hd (cat1_ h) kk)
theorem so_pop {v : Sv_t} (E : EN_ X G own cc nL rty) (hd : decode cc pc = .ok (.pop, 1)) (h : (v.1 == 1) = false) (k : WP_ X G Q cl sl ad shs σ (pc + 1) L S) : WP_ X G Q cl sl ad shs σ pc L (v :: S) :=
  wpp_ k (fun _ vS => (vt_ vS).2) (fun _ _ _ _ _ _ kk => lv_pop E.1 E.2.1 hd (cat1_ h) kk)
theorem so_pop2 {z : Int} (E : EN_ X G own cc nL rty) (hd : decode cc pc = .ok (.pop2, 1)) (k : WP_ X G Q cl sl ad shs σ (pc + 1) L S) : WP_ X G Q cl sl ad shs σ pc L ((1, z) :: S) :=
  wpp_ k (fun _ vS => (vt_ vS).2) (fun _ _ _ _ _ _ kk => lv_pop2_2 E.1 E.2.1 hd rfl kk)
theorem so_dup2 {v w : Sv_t} (E : EN_ X G own cc nL rty) (hd : decode cc pc = .ok (.dup2, 1)) (h : (v.1 == 1) = false) (h' : (w.1 == 1) = false) (k : WP_ X G Q cl sl ad shs σ (pc + 1) L (v :: w :: v :: w :: S)) : WP_ X G Q cl sl ad shs σ pc L (v :: w :: S) :=
  wpp_ k (fun _ vS => vc_ (vt_ vS).1 (vc_ (vt_ (vt_ vS).2).1 vS)) (fun _ _ _ _ _ _ kk => lv_dup2_11 E.1 E.2.1 hd (cat1_ h) (cat1_ h') kk)
theorem so_goto {off : Int} (E : EN_ X G own cc nL rty) (hd : decode cc pc = .ok (.goto off, 3)) (h0 : 0 ≤ (pc : Int) + off) (k : WP_ X G Q cl sl ad shs σ ((pc : Int) + off).toNat L S) : WP_ X G Q cl sl ad shs σ pc L S :=
  wpp_ k (fun _ vS => vS) (fun _ _ _ _ _ _ kk => lv_goto E.1 E.2.1 hd (by omega) kk)
/-- a branch: both ways by their own walks -/
theorem wpb2_ {S' : List Sv_t} {P : Prop} {tgt : Nat} (hv : (∀ v ∈ S, tv_ shs v) → ∀ v ∈ S', tv_ shs v)
    (h : ∀ (H : Heap) (locs : List Loc) (ls : Array Slot), (∀ v ∈ S, tv_ shs v) → (P → Wx_ X Q cl sl H locs tgt ls (S'.map (val_ G.2.2.1 ad))) → (¬ P → Wx_ X Q cl sl H locs pc' ls (S'.map (val_ G.2.2.1 ad))) → Wx_ X Q cl sl H locs pc ls (S.map (val_ G.2.2.1 ad)))
    (k1 : P → WP_ X G Q cl sl ad shs σ tgt L S') (k2 : ¬ P → WP_ X G Q cl sl ad shs σ pc' L S') : WP_ X G Q cl sl ad shs σ pc L S :=
  fun hM hA H locs ls hP hD hS hl vL vS => h H locs ls vS (fun p => k1 p hM hA H locs ls hP hD hS hl vL (hv vS)) (fun p => k2 p hM hA H locs ls hP hD hS hl vL (hv vS))
theorem so_if {c : ClassFile.Cond} {off z : Int} (E : EN_ X G own cc nL rty) (hd : decode cc pc = .ok (.ifCond c off, 3)) (h0 : 0 ≤ (pc : Int) + off) {a b : Prop} (h : cmp0_ c z 0 a b) (k1 : a → WP_ X G Q cl sl ad shs σ ((pc : Int) + off).toNat L S) (k2 : b → WP_ X G Q cl sl ad shs σ (pc + 3) L S) : WP_ X G Q cl sl ad shs σ pc L ((0, z) :: S) := by
  have r0 : (-2147483648 : Int) ≤ 0 ∧ (0 : Int) ≤ 2147483647 := by omega
  have ht : (pc : Int) + off = ((((pc : Int) + off).toNat : Nat) : Int) := by omega
  cases c with
  | eq => exact wpb2_ (P := z = 0) (fun vS => (vt_ vS).2) (fun _ _ _ vS f g => lv_if_eq E.1 E.2.1 hd ht (fun q => f ((i3_eq (vt_ vS).1 r0).mp (q.trans i3_z))) (fun q => g (fun e => q (((i3_eq (vt_ vS).1 r0).mpr e).trans i3_z.symm)))) (fun p => k1 (h.1 p)) (fun p => k2 (h.2 p))
  | ne => exact wpb2_ (P := ¬ z = 0) (fun vS => (vt_ vS).2) (fun _ _ _ vS f g => lv_if_ne E.1 E.2.1 hd ht (fun q => f (fun e => q (((i3_eq (vt_ vS).1 r0).mpr e).trans i3_z.symm))) (fun q => g (fun e => e ((i3_eq (vt_ vS).1 r0).mp (q.trans i3_z))))) (fun p => k1 (h.1 p)) (fun p => k2 (h.2 (Decidable.not_not.mp p)))
  | lt => exact wpb2_ (P := z < 0) (fun vS => (vt_ vS).2) (fun _ _ _ vS f g => lv_if_lt E.1 E.2.1 hd ht (fun q => f ((i3_lt (vt_ vS).1 r0).mp (i3_z ▸ q))) (fun q => g (fun e => q (i3_z ▸ (i3_lt (vt_ vS).1 r0).mpr e)))) (fun p => k1 (h.1 p)) (fun p => k2 (h.2 (by omega)))
  | ge => exact wpb2_ (P := 0 ≤ z) (fun vS => (vt_ vS).2) (fun _ _ _ vS f g => lv_if_ge E.1 E.2.1 hd ht (fun q => f ((i3_le r0 (vt_ vS).1).mp (i3_z ▸ q))) (fun q => g (fun e => q (i3_z ▸ (i3_le r0 (vt_ vS).1).mpr e)))) (fun p => k1 (h.1 p)) (fun p => k2 (h.2 (by omega)))
  | gt => exact wpb2_ (P := 0 < z) (fun vS => (vt_ vS).2) (fun _ _ _ vS f g => lv_if_gt E.1 E.2.1 hd ht (fun q => f ((i3_lt r0 (vt_ vS).1).mp (i3_z ▸ q))) (fun q => g (fun e => q (i3_z ▸ (i3_lt r0 (vt_ vS).1).mpr e)))) (fun p => k1 (h.1 p)) (fun p => k2 (h.2 (by omega)))
  | le => exact wpb2_ (P := z ≤ 0) (fun vS => (vt_ vS).2) (fun _ _ _ vS f g => lv_if_le E.1 E.2.1 hd ht (fun q => f ((i3_le (vt_ vS).1 r0).mp (i3_z ▸ q))) (fun q => g (fun e => q (i3_z ▸ (i3_le (vt_ vS).1 r0).mpr e)))) (fun p => k1 (h.1 p)) (fun p => k2 (h.2 (by omega)))
theorem so_icmp {c : ClassFile.Cond} {off z y : Int} (E : EN_ X G own cc nL rty) (hd : decode cc pc = .ok (.if_icmp c off, 3)) (h0 : 0 ≤ (pc : Int) + off) {a b : Prop} (h : cmp0_ c z y a b) (k1 : a → WP_ X G Q cl sl ad shs σ ((pc : Int) + off).toNat L S) (k2 : b → WP_ X G Q cl sl ad shs σ (pc + 3) L S) : WP_ X G Q cl sl ad shs σ pc L ((0, y) :: (0, z) :: S) := by
  have ht : (pc : Int) + off = ((((pc : Int) + off).toNat : Nat) : Int) := by omega
  cases c with
  | eq => exact wpb2_ (P := z = y) (fun vS => (vt_ (vt_ vS).2).2) (fun _ _ _ vS f g => lv_icmp_eq E.1 E.2.1 hd ht (fun q => f ((i3_eq (vt_ (vt_ vS).2).1 (vt_ vS).1).mp q)) (fun q => g (fun e => q ((i3_eq (vt_ (vt_ vS).2).1 (vt_ vS).1).mpr e)))) (fun p => k1 (h.1 p)) (fun p => k2 (h.2 p))
  | ne => exact wpb2_ (P := ¬ z = y) (fun vS => (vt_ (vt_ vS).2).2) (fun _ _ _ vS f g => lv_icmp_ne E.1 E.2.1 hd ht (fun q => f (fun e => q ((i3_eq (vt_ (vt_ vS).2).1 (vt_ vS).1).mpr e))) (fun q => g (fun e => e ((i3_eq (vt_ (vt_ vS).2).1 (vt_ vS).1).mp q)))) (fun p => k1 (h.1 p)) (fun p => k2 (h.2 (Decidable.not_not.mp p)))
  | lt => exact wpb2_ (P := z < y) (fun vS => (vt_ (vt_ vS).2).2) (fun _ _ _ vS f g => lv_icmp_lt E.1 E.2.1 hd ht (fun q => f ((i3_lt (vt_ (vt_ vS).2).1 (vt_ vS).1).mp q)) (fun q => g (fun e => q ((i3_lt (vt_ (vt_ vS).2).1 (vt_ vS).1).mpr e)))) (fun p => k1 (h.1 p)) (fun p => k2 (h.2 (by omega)))
  | ge => exact wpb2_ (P := y ≤ z) (fun vS => (vt_ (vt_ vS).2).2) (fun _ _ _ vS f g => lv_icmp_ge E.1 E.2.1 hd ht (fun q => f ((i3_le (vt_ vS).1 (vt_ (vt_ vS).2).1).mp q)) (fun q => g (fun e => q ((i3_le (vt_ vS).1 (vt_ (vt_ vS).2).1).mpr e)))) (fun p => k1 (h.1 p)) (fun p => k2 (h.2 (by omega)))
  | gt => exact wpb2_ (P := y < z) (fun vS => (vt_ (vt_ vS).2).2) (fun _ _ _ vS f g => lv_icmp_gt E.1 E.2.1 hd ht (fun q => f ((i3_lt (vt_ vS).1 (vt_ (vt_ vS).2).1).mp q)) (fun q => g (fun e => q ((i3_lt (vt_ vS).1 (vt_ (vt_ vS).2).1).mpr e)))) (fun p => k1 (h.1 p)) (fun p => k2 (h.2 (by omega)))
  | le => exact wpb2_ (P := z ≤ y) (fun vS => (vt_ (vt_ vS).2).2) (fun _ _ _ vS f g => lv_icmp_le E.1 E.2.1 hd ht (fun q => f ((i3_le (vt_ (vt_ vS).2).1 (vt_ vS).1).mp q)) (fun q => g (fun e => q ((i3_le (vt_ (vt_ vS).2).1 (vt_ vS).1).mpr e)))) (fun p => k1 (h.1 p)) (fun p => k2 (h.2 (by omega)))
theorem tsw_at {J : Nat → Prop} {z : Int} : ∀ (offs : List Int) (lo : Int), tsw_ J pc z lo offs → ∀ (n : Nat) (o : Int), offs[n]? = some o → z = lo + n → J ((pc : Int) + o).toNat
  | [], _, _, n, o, h, _ => by simp at h
  | a :: os, lo, h, n, o, hn, hz => by
    obtain ⟨h1, h2⟩ := h
    cases n with
    | zero =>
      rw [List.getElem?_cons_zero] at hn
      cases hn
      exact h1 (by omega)
    | succ n =>
      rw [List.getElem?_cons_succ] at hn
      exact tsw_at os (lo + 1) h2 n o hn (by omega)
theorem so_tsw {d lo hi z : Int} {offs : Array Int} {len : Nat} (E : EN_ X G own cc nL rty) (hd : decode cc pc = .ok (.tableswitch d lo hi offs, len)) (hn : (offs.size : Int) = hi - lo + 1) (h0 : 0 ≤ (pc : Int) + d) (hp : ∀ o ∈ offs.toList, 0 ≤ (pc : Int) + o)
    (h : (z < lo ∨ hi < z → WP_ X G Q cl sl ad shs σ ((pc : Int) + d).toNat L S) ∧ tsw_ (fun t => WP_ X G Q cl sl ad shs σ t L S) pc z lo offs.toList) : WP_ X G Q cl sl ad shs σ pc L ((0, z) :: S) := by
  intro hM hA H locs ls hP hD hS hl vL vS
  have ez : (Int32.ofInt z).toInt = z := i3_t (vt_ vS).1
  by_cases ho : z < lo ∨ hi < z
  · exact lv_tableOut E.1 E.2.1 hd (by rw [ez]; exact ho) (tgt := ((pc : Int) + d).toNat) (by omega) (h.1 ho hM hA H locs ls hP hD hS hl vL (vt_ vS).2)
  · have hlt : (z - lo).toNat < offs.size := by omega
    have hoff : offs[(z - lo).toNat]? = some offs[(z - lo).toNat] := Array.getElem?_eq_getElem hlt
    have hl2 : offs.toList[(z - lo).toNat]? = some offs[(z - lo).toNat] := by rw [Array.getElem?_toList]; exact hoff
    have hk := tsw_at offs.toList lo h.2 (z - lo).toNat _ hl2 (by omega)
    have hpp := hp _ (List.mem_of_getElem? hl2)
    exact lv_tableIn E.1 E.2.1 hd (by rw [ez]; omega) (by rw [ez]; omega) (by rw [ez]; exact hoff) (tgt := ((pc : Int) + offs[(z - lo).toNat]).toNat) (by omega) (hk hM hA H locs ls hP hD hS hl vL (vt_ vS).2)
end SN2
end
section
section SN3
variable {X : Cx_t} {G : Gx_t} {Q : State → Prop} {cl sl : Nat} {ad shs : List Nat} {σ : Me_t} {pc pc' : Nat} {L S : List Sv_t} {own : String} {cc : ByteArray} {nL : Nat} {rty : Option FieldType}
theorem tn_ {z : Int} (h : 0 ≤ z) : ((z.toNat : Nat) : Int) = z := Int.toNat_of_nonneg h
theorem mt_at {o : Int} {t : Nat} {j : Nat} (hM : MT_ shs σ) (h : tv_ shs (t + 10, o)) (hj : j < sz_ t) : ok_ shs t o j (σ o (j : Int)) := by
  have h1 := hM o.toNat t h.2 j hj
  rw [tn_ h.1] at h1
  exact h1
theorem rg_ {N : Nat} {f : Nat → Value} {j : Nat} (h : j < N) : ((List.range N).map f)[j]? = some (f j) := by
  simp [List.getElem?_map, List.getElem?_range h]
theorem so_get {n c jn N : Nat} {ji : Int} {t : Nat} {o : Int} {fl : List (Nat × Nat × Nat × Int)} (hCL : CL_) (hF : FT_ own fl) (E : EN_ X G own cc nL rty) (hd : decode cc pc = .ok (.getfield n, 3)) (hl : lk_ fl n = some (c, jn, ji)) (hK : KT_ t = (0, c, N)) (hj : jn < N)
    (k : WP_ X G Q cl sl ad shs σ (pc + 3) L (((ty_ t jn).1, σ o ji) :: S)) : WP_ X G Q cl sl ad shs σ pc L ((t + 10, o) :: S) := by
  intro hM hA H locs ls hP hD hS hlh vL vS
  have hv := rs_ (vt_ vS).1
  obtain ⟨C, T, N', h1, h2, h3, h4⟩ := hF _ (lk_mem hl)
  simp only at h1 h2 h3 h4
  subst h3
  have hok := mt_at hM (vt_ vS).1 (j := jn) (by unfold sz_; rw [hK]; exact hj)
  rw [List.map_cons, val_r hv.1]
  have he := wl_get (cs := G.2.2.1) (tc := G.2.1) (ad := ad) (σ := σ) hv.2
  rw [ent_0 hK] at he
  refine va_get (cc := cc) E.1 E.2.1 (Ts := gl_) (own := own) (ref := (T jn).1) E.2.2.2.2.1 (hCL c C T N' h1).1 E.2.2.2.1 E.2.2.2.2.2.1 hP o.toNat he h1 jn h2 (E.2.2.2.2.1 _ h4) (fun x h => h) (rg_ hj) hd ?_
  rw [tn_ hv.1]
  exact k hM hA H locs ls hP hD hS hlh vL (vc_ hok.1 (vt_ vS).2)
/-- the memory behind a store -/
theorem mt_ups {o : Int} {t : Nat} {j : Nat} {z : Int} (hM : MT_ shs σ) (h : tv_ shs (t + 10, o)) (hz : ok_ shs t o j z) : MT_ shs (ups_ σ o (j : Int) z) := by
  intro k sh hk i hi
  by_cases e : (k : Int) = o ∧ (i : Int) = (j : Int)
  · obtain ⟨e1, e2⟩ := e
    have e3 : i = j := by omega
    subst e3
    have e4 : o.toNat = k := by omega
    have h := rs_ h
    rw [e4] at h
    have e5 : sh = t := by
      have := hk.symm.trans h.2
      exact Option.some.inj this
    subst e5
    rw [e1, ups_s]
    exact hz
  · have : ups_ σ o (j : Int) z (k : Int) (i : Int) = σ (k : Int) (i : Int) := by
      unfold ups_
      rw [if_neg e]
    rw [this]
    exact hM k sh hk i hi
theorem ups_row {o j z : Int} {a : Nat} (h : (a : Int) ≠ o) : ups_ σ o j z (a : Int) = σ (a : Int) := by
  funext b
  exact ups_n (Or.inl h)
theorem val_fit {cs : Nat → Nat} {ft : FieldType} {t : Nat × Int × Int} {z : Int} (h : tyok_ ft t = true) (hv : tv_ shs (t.1, z)) (hr : t.1 < 2 → t.2.1 ≤ z ∧ z ≤ t.2.2) : narrow ft (val_ cs ad (t.1, z)) = val_ cs ad (t.1, z) ∧ fits ft (val_ cs ad (t.1, z)) = true := by
  obtain ⟨g, lo, hi⟩ := t
  simp only at hv hr ⊢
  have ref : ∀ (ft : FieldType), (g == 2 || Nat.ble 10 g) = true → (∀ v : Value, (v = .null ∨ ∃ a, v = .ref a) → narrow ft v = v ∧ fits ft v = true) → narrow ft (val_ cs ad (g, z)) = val_ cs ad (g, z) ∧ fits ft (val_ cs ad (g, z)) = true := by
    intro ft hg hf
    apply hf
    have : val_ cs ad (g, z) = if z < 0 then .null else .ref (ad.getD z.toNat 0) := by
      simp only [Bool.or_eq_true, beq_iff_eq] at hg
      rcases hg with rfl | hg
      · rfl
      · have h10 := Nat.le_of_ble_eq_true hg
        obtain ⟨u, rfl⟩ : ∃ u, g = u + 10 := ⟨g - 10, by omega⟩
        rfl
    rw [this]
    split
    · exact Or.inl rfl
    · exact Or.inr ⟨_, rfl⟩
  cases ft with
  | int =>
    have : g = 0 := by simpa [tyok_] using h
    subst this
    exact ⟨rfl, rfl⟩
  | boolean =>
    simp only [tyok_, Bool.and_eq_true, beq_iff_eq, decide_eq_true_eq] at h
    obtain ⟨⟨rfl, h1⟩, h2⟩ := h
    have := hr (by omega)
    have hz : z = 0 ∨ z = 1 := by omega
    rcases hz with rfl | rfl
    · exact ⟨(show narrow .boolean (.int (Int32.ofInt 0)) = .int (Int32.ofInt 0) by decide), (show fits .boolean (.int (Int32.ofInt 0)) = true by decide)⟩
    · exact ⟨(show narrow .boolean (.int (Int32.ofInt 1)) = .int (Int32.ofInt 1) by decide), (show fits .boolean (.int (Int32.ofInt 1)) = true by decide)⟩
  | long =>
    have : g = 1 := by simpa [tyok_] using h
    subst this
    exact ⟨rfl, rfl⟩
  | object C => exact ref _ (by simpa [tyok_] using h) (fun v hv => by rcases hv with rfl | ⟨a, rfl⟩ <;> exact ⟨rfl, rfl⟩)
  | array C => exact ref _ (by simpa [tyok_] using h) (fun v hv => by rcases hv with rfl | ⟨a, rfl⟩ <;> exact ⟨rfl, rfl⟩)
  | _ => simp [tyok_] at h
theorem ls_set {N j : Nat} {f g : Nat → Value} {v : Value} (hj : j < N) (hv : g j = v) (hne : ∀ i, i ≠ j → g i = f i) : ((List.range N).map f).set j v = (List.range N).map g := by
  apply List.ext_getElem?
  intro i
  by_cases hi : i = j
  · subst hi
    rw [List.getElem?_set_self (by simpa using hj), rg_ hj, hv]
  · rw [List.getElem?_set_ne (Ne.symm hi)]
    by_cases hN : i < N
    · rw [rg_ hN, rg_ hN, hne i hi]
    · simp [List.getElem?_map, Nat.not_lt.mp hN]
theorem so_put {n c jn N : Nat} {ji : Int} {t : Nat} {o z : Int} {u : Nat} {pl : List (Nat × Nat × Nat × Int)} (hCL : CL_) (hSH : SH_) (hF : PT_ own pl) (E : EN_ X G own cc nL rty) (hd : decode cc pc = .ok (.putfield n, 3)) (hl : lk_ pl n = some (c, jn, ji)) (hK : KT_ t = (0, c, N)) (hj : jn < N)
    (hu : ∀ cs : Nat → Nat, val_ cs ad (u, z) = val_ cs ad ((ty_ t jn).1, z)) (hok : tv_ shs (u, z) → ok_ shs t o jn z)
    (k : WP_ X G Q cl sl ad shs (ups_ σ o ji z) (pc + 3) L S) : WP_ X G Q cl sl ad shs σ pc L ((u, z) :: (t + 10, o) :: S) := by
  intro hM hA H locs ls hP hD hS hlh vL vS
  have hz := hok (vt_ vS).1
  have ho := (vt_ (vt_ vS).2).1
  have hv := rs_ ho
  obtain ⟨C, T, N', h1, h2, h3, h4⟩ := hF.1 _ (lk_mem hl)
  simp only at h1 h2 h3 h4
  subst h3
  have hN : N' = N := by
    obtain ⟨⟨C2, T2, e⟩, -⟩ := hSH t c N hK
    have := h1.symm.trans e
    simp only [Option.some.injEq, Prod.mk.injEq] at this
    exact this.2.2
  have hnf := hF.2 _ (lk_mem hl) C T N' h1
  obtain ⟨q1, q2, q3⟩ := hCL c C T N' h1
  obtain ⟨w1, w2⟩ := val_fit (cs := G.2.2.1) (ad := ad) ((hSH t c N hK).2 jn hj) hz.1 hz.2.1
  rw [List.map_cons, List.map_cons, hu, val_r hv.1]
  have he := wl_get (cs := G.2.2.1) (tc := G.2.1) (ad := ad) (σ := σ) hv.2
  rw [ent_0 hK] at he
  refine va_put (cc := cc) E.1 E.2.1 (Ts := gl_) (own := own) (ref := (T jn).1) E.2.2.2.2.1 q1 (tyF_ c) q2 q3 E.2.2.2.1 E.2.2.2.2.2.1 hP hD hS o.toNat he h1 jn h2 (E.2.2.2.2.1 _ h4) (fun x h => h) hnf (q2 jn h2) w1 w2 (by simpa using hj) hd ?_
  intro H1 locs1 hP1 hD1 hS1
  have eq : (wl_ G.2.2.1 G.2.1 ad shs σ).set o.toNat (ad.getD o.toNat 0, .inr (c, ((List.range N).map fun j => val_ G.2.2.1 ad ((ty_ t j).1, σ (o.toNat : Int) (j : Int))).set jn (val_ G.2.2.1 ad ((ty_ t jn).1, z)))) = wl_ G.2.2.1 G.2.1 ad shs (ups_ σ o (jn : Int) z) := by
    refine wl_set hv.2 ?_ (fun a ha => ups_row (by omega))
    rw [ent_0 hK, tn_ hv.1]
    congr 2
    refine ls_set hj (by rw [ups_s]) (fun i hi => by rw [ups_n (Or.inr (by omega))])
  rw [eq] at hP1 hD1
  exact k (mt_ups hM ho hz) hA H1 locs1 ls hP1 hD1 hS1 hlh vL (vt_ (vt_ vS).2).2
theorem in_ {x : Int} {N : Nat} (h : 0 ≤ x ∧ x < (N : Int)) (hN : N < 100000) : vp_in (Int32.ofInt x) N := by
  rw [vp_in_iff, i3_t (by omega)]
  omega
theorem cl_ {x : Int} (h : 0 ≤ x) (h2 : x ≤ 2147483647) : (Int32.ofInt x).toNatClampNeg = x.toNat := by
  show (Int32.ofInt x).toInt.toNat = x.toNat
  rw [i3_t (by omega)]
theorem so_ild {t N c : Nat} {o x : Int} (hSA : SA_) (E : EN_ X G own cc nL rty) (hd : decode cc pc = .ok (.iaload, 1)) (hK : KT_ t = (1, c, N)) (hx : 0 ≤ x ∧ x < (N : Int)) (k : WP_ X G Q cl sl ad shs σ (pc + 1) L ((0, σ o x) :: S)) : WP_ X G Q cl sl ad shs σ pc L ((0, x) :: (t + 10, o) :: S) := by
  intro hM hA H locs ls hP hD hS hlh vL vS
  have ho := (vt_ (vt_ vS).2).1
  have hv := rs_ ho
  have hsa := hSA t 1 c N hK
  have hok := mt_at hM ho (j := x.toNat) (by unfold sz_; rw [hK]; simp only; omega)
  rw [tn_ hx.1] at hok
  have h0 := hok.1
  rw [(hsa.1 rfl x.toNat).1, (hsa.1 rfl 0).2] at h0
  have he := wl_get (cs := G.2.2.1) (tc := G.2.1) (ad := ad) (σ := σ) hv.2
  rw [ent_1 hK] at he
  rw [List.map_cons, List.map_cons, val_r hv.1]
  refine va_iald (cc := cc) E.1 E.2.1 E.2.2.2.2.2.1 hP o.toNat 0 he rfl (in_ hx hsa.2.2.2.2.2.2.2) hd ?_
  rw [cl_ hx.1 (by have := hsa.2.2.2.2.2.2.2; omega), tn_ hx.1, tn_ hv.1]
  exact k hM hA H locs ls hP hD hS hlh vL (vc_ h0 (vt_ (vt_ vS).2).2)
theorem so_bld {t N c : Nat} {o x : Int} (hSA : SA_) (E : EN_ X G own cc nL rty) (hd : decode cc pc = .ok (.baload, 1)) (hK : KT_ t = (2, c, N)) (hx : 0 ≤ x ∧ x < (N : Int)) (k : WP_ X G Q cl sl ad shs σ (pc + 1) L ((0, σ o x) :: S)) : WP_ X G Q cl sl ad shs σ pc L ((0, x) :: (t + 10, o) :: S) := by
  intro hM hA H locs ls hP hD hS hlh vL vS
  have ho := (vt_ (vt_ vS).2).1
  have hv := rs_ ho
  have hsa := hSA t 2 c N hK
  have hok := mt_at hM ho (j := x.toNat) (by unfold sz_; rw [hK]; simp only; omega)
  rw [tn_ hx.1] at hok
  have h0 := hok.1
  rw [(hsa.2.1 rfl x.toNat).1, (hsa.2.1 rfl 0).2.1] at h0
  have he := wl_get (cs := G.2.2.1) (tc := G.2.1) (ad := ad) (σ := σ) hv.2
  rw [ent_2 hK] at he
  rw [List.map_cons, List.map_cons, val_r hv.1]
  refine va_bald (cc := cc) E.1 E.2.1 E.2.2.2.2.2.1 hP o.toNat 1 he rfl (in_ hx hsa.2.2.2.2.2.2.2) hd ?_
  rw [cl_ hx.1 (by have := hsa.2.2.2.2.2.2.2; omega), tn_ hx.1, tn_ hv.1]
  exact k hM hA H locs ls hP hD hS hlh vL (vc_ h0 (vt_ (vt_ vS).2).2)
theorem so_zld {t N c : Nat} {o x : Int} (hSA : SA_) (E : EN_ X G own cc nL rty) (hd : decode cc pc = .ok (.baload, 1)) (hK : KT_ t = (3, c, N)) (hx : 0 ≤ x ∧ x < (N : Int)) (k : WP_ X G Q cl sl ad shs σ (pc + 1) L ((0, σ o x) :: S)) : WP_ X G Q cl sl ad shs σ pc L ((0, x) :: (t + 10, o) :: S) := by
  intro hM hA H locs ls hP hD hS hlh vL vS
  have ho := (vt_ (vt_ vS).2).1
  have hv := rs_ ho
  have hsa := hSA t 3 c N hK
  have hok := mt_at hM ho (j := x.toNat) (by unfold sz_; rw [hK]; simp only; omega)
  rw [tn_ hx.1] at hok
  have h0 := hok.1
  rw [(hsa.2.2.1 rfl x.toNat).1, (hsa.2.2.1 rfl 0).2.1] at h0
  have he := wl_get (cs := G.2.2.1) (tc := G.2.1) (ad := ad) (σ := σ) hv.2
  rw [ent_3 hK] at he
  rw [List.map_cons, List.map_cons, val_r hv.1]
  refine va_zald (cc := cc) E.1 E.2.1 E.2.2.2.2.2.1 hP o.toNat 2 he rfl (in_ hx hsa.2.2.2.2.2.2.2) hd ?_
  rw [cl_ hx.1 (by have := hsa.2.2.2.2.2.2.2; omega), tn_ hx.1, tn_ hv.1]
  exact k hM hA H locs ls hP hD hS hlh vL (vc_ h0 (vt_ (vt_ vS).2).2)
theorem so_lld {t N c : Nat} {o x : Int} (hSA : SA_) (E : EN_ X G own cc nL rty) (hd : decode cc pc = .ok (.laload, 1)) (hK : KT_ t = (4, c, N)) (hx : 0 ≤ x ∧ x < (N : Int)) (k : WP_ X G Q cl sl ad shs σ (pc + 1) L ((1, σ o x) :: S)) : WP_ X G Q cl sl ad shs σ pc L ((0, x) :: (t + 10, o) :: S) := by
  intro hM hA H locs ls hP hD hS hlh vL vS
  have ho := (vt_ (vt_ vS).2).1
  have hv := rs_ ho
  have hsa := hSA t 4 c N hK
  have hok := mt_at hM ho (j := x.toNat) (by unfold sz_; rw [hK]; simp only; omega)
  rw [tn_ hx.1] at hok
  have h0 := hok.1
  rw [(hsa.2.2.2.1 rfl x.toNat).1, (hsa.2.2.2.1 rfl 0).2] at h0
  have he := wl_get (cs := G.2.2.1) (tc := G.2.1) (ad := ad) (σ := σ) hv.2
  rw [ent_4 hK] at he
  rw [List.map_cons, List.map_cons, val_r hv.1]
  refine va_lald (cc := cc) E.1 E.2.1 E.2.2.2.2.2.1 hP o.toNat 3 he rfl (in_ hx hsa.2.2.2.2.2.2.2) hd ?_
  rw [cl_ hx.1 (by have := hsa.2.2.2.2.2.2.2; omega), tn_ hx.1, tn_ hv.1]
  exact k hM hA H locs ls hP hD hS hlh vL (vc_ h0 (vt_ (vt_ vS).2).2)
theorem so_ald {t N c : Nat} {o x r : Int} (hSA : SA_) (E : EN_ X G own cc nL rty) (hd : decode cc pc = .ok (.aaload, 1)) (hK : KT_ t = (5, c, N)) (hx : 0 ≤ x ∧ x < (N : Int)) (hr : rt_ t o 0 x = some r) (k : WP_ X G Q cl sl ad shs σ (pc + 1) L (((ty_ t 0).1, r) :: S)) : WP_ X G Q cl sl ad shs σ pc L ((0, x) :: (t + 10, o) :: S) := by
  intro hM hA H locs ls hP hD hS hlh vL vS
  have ho := (vt_ (vt_ vS).2).1
  have hv := rs_ ho
  have hsa := hSA t 5 c N hK
  obtain ⟨a1, a2, a3, a4⟩ := hsa.2.2.2.2.1 rfl
  have hok := mt_at hM ho (j := x.toNat) (by unfold sz_; rw [hK]; simp only; omega)
  rw [tn_ hx.1] at hok
  have h0 := hok.1
  rw [a1 x.toNat] at h0
  have er : σ o x = r := hok.2.2 r (by rw [tn_ hx.1, a4]; exact hr)
  rw [er] at h0
  have he := wl_get (cs := G.2.2.1) (tc := G.2.1) (ad := ad) (σ := σ) hv.2
  rw [ent_5 hK] at he
  rw [List.map_cons, List.map_cons, val_r hv.1]
  have hkk := k hM hA H locs ls hP hD hS hlh vL (vc_ h0 (vt_ (vt_ vS).2).2)
  have e1 : (Int32.ofInt x).toNatClampNeg = x.toNat := cl_ hx.1 (by have := hsa.2.2.2.2.2.2.2; omega)
  have ev : va_rf (if σ (o.toNat : Int) ((Int32.ofInt x).toNatClampNeg : Int) < 0 then none else some (ad.getD (σ (o.toNat : Int) ((Int32.ofInt x).toNatClampNeg : Int)).toNat 0)) = val_ G.2.2.1 ad ((ty_ t 0).1, r) := by
    rw [e1, tn_ hx.1, tn_ hv.1, er]
    have : val_ G.2.2.1 ad ((ty_ t 0).1, r) = if r < 0 then .null else .ref (ad.getD r.toNat 0) := by
      rcases a3 with e | e
      · rw [e]; rfl
      · obtain ⟨u, hu⟩ : ∃ u, (ty_ t 0).1 = u + 10 := ⟨(ty_ t 0).1 - 10, by omega⟩
        rw [hu]; rfl
    rw [this]
    split <;> rfl
  have hkk2 : Wx_ X Q cl sl H locs (pc + 1) ls (va_rf (if σ (o.toNat : Int) ((Int32.ofInt x).toNatClampNeg : Int) < 0 then none else some (ad.getD (σ (o.toNat : Int) ((Int32.ofInt x).toNatClampNeg : Int)).toNat 0)) :: S.map (val_ G.2.2.1 ad)) := by
    rw [ev]
    exact hkk
  rcases a2 with rfl | rfl | rfl
  · exact va_aldq (cc := cc) E.1 E.2.1 E.2.2.2.2.2.1 hP o.toNat 4 he rfl (in_ hx hsa.2.2.2.2.2.2.2) hd hkk2
  · exact va_aldq (cc := cc) E.1 E.2.1 E.2.2.2.2.2.1 hP o.toNat 5 he rfl (in_ hx hsa.2.2.2.2.2.2.2) hd hkk2
  · exact va_aldq (cc := cc) E.1 E.2.1 E.2.2.2.2.2.1 hP o.toNat 6 he rfl (in_ hx hsa.2.2.2.2.2.2.2) hd hkk2
end SN3
end
section
section SN4
variable {X : Cx_t} {G : Gx_t} {Q : State → Prop} {cl sl : Nat} {ad shs : List Nat} {σ : Me_t} {pc pc' : Nat} {L S : List Sv_t} {own : String} {cc : ByteArray} {nL : Nat} {rty : Option FieldType}
theorem upd_fn {o x z : Int} (hx : 0 ≤ x) : (fun j : Nat => Int32.ofInt (ups_ σ o x z o (j : Int))) = upd (fun j : Nat => Int32.ofInt (σ o (j : Int))) x.toNat (Int32.ofInt z) := by
  funext j
  unfold upd
  by_cases h : j = x.toNat
  · rw [if_pos h, show (j : Int) = x by omega, ups_s]
  · rw [if_neg h, ups_n (Or.inr (by omega))]
theorem updL_fn {o x z : Int} (hx : 0 ≤ x) : (fun j : Nat => Int64.ofInt (ups_ σ o x z o (j : Int))) = vp_updL (fun j : Nat => Int64.ofInt (σ o (j : Int))) x.toNat (Int64.ofInt z) := by
  funext j
  unfold vp_updL
  by_cases h : j = x.toNat
  · rw [if_pos h, show (j : Int) = x by omega, ups_s]
  · rw [if_neg h, ups_n (Or.inr (by omega))]
theorem nb_ {z : Int} (h1 : -128 ≤ z) (h2 : z ≤ 127) : vp_nar .byte (Int32.ofInt z) = Int32.ofInt z := by
  rw [vp_nar_byte, ← Int32.toInt_inj, Int8.toInt_toInt32, i3_t (by omega)]
  have : (Int32.ofInt z).toInt8 = Int8.ofInt z := by
    rw [← Int8.toInt_inj, Int32.toInt_toInt8, i3_t (by omega), Int8.toInt_ofInt]
  rw [this, Int8.toInt_ofInt_of_le (by omega) (by omega)]
theorem nz_ {z : Int} (h1 : 0 ≤ z) (h2 : z ≤ 1) : vp_nar .boolean (Int32.ofInt z) = Int32.ofInt z := by
  have hz : z = 0 ∨ z = 1 := by omega
  rcases hz with rfl | rfl
  · decide
  · decide
theorem mt_el {t N a c : Nat} {o x z : Int} (hK : KT_ t = (a, c, N)) (hM : MT_ shs σ) (ho : tv_ shs (t + 10, o)) (hx : 0 ≤ x ∧ x < (N : Int)) (hz : ok_ shs t o x.toNat z) : MT_ shs (ups_ σ o x z) := by
  have := mt_ups (j := x.toNat) hM ho hz
  rw [tn_ hx.1] at this
  exact this
theorem so_ist {t N c : Nat} {o x z : Int} (hSA : SA_) (E : EN_ X G own cc nL rty) (hd : decode cc pc = .ok (.iastore, 1)) (hK : KT_ t = (1, c, N)) (hx : 0 ≤ x ∧ x < (N : Int)) (hz : tv_ shs (0, z) → (ty_ t 0).2.1 ≤ z ∧ z ≤ (ty_ t 0).2.2) (k : WP_ X G Q cl sl ad shs (ups_ σ o x z) (pc + 1) L S) : WP_ X G Q cl sl ad shs σ pc L ((0, z) :: (0, x) :: (t + 10, o) :: S) := by
  intro hM hA H locs ls hP hD hS hlh vL vS
  have vz := (vt_ vS).1
  have ho := (vt_ (vt_ (vt_ vS).2).2).1
  have hv := rs_ ho
  have hsa := hSA t 1 c N hK
  have hok : ok_ shs t o x.toNat z := by
    obtain ⟨e1, e2⟩ := hsa.1 rfl x.toNat
    refine ⟨by rw [e1, e2]; exact vz, fun _ => by rw [e1]; exact hz vz, fun r hr => ?_⟩
    rw [hsa.2.2.2.2.2.2.1 (by omega) (by omega)] at hr
    cases hr
  have he := wl_get (cs := G.2.2.1) (tc := G.2.1) (ad := ad) (σ := σ) hv.2
  rw [ent_1 hK] at he
  rw [List.map_cons, List.map_cons, List.map_cons, val_r hv.1]
  refine va_iast (cc := cc) E.1 E.2.1 E.2.2.2.2.2.1 hP hD hS o.toNat 0 he rfl (in_ hx hsa.2.2.2.2.2.2.2) hd ?_
  intro H1 locs1 hP1 hD1 hS1
  have eq : (wl_ G.2.2.1 G.2.1 ad shs σ).set o.toNat (ad.getD o.toNat 0, .inl (G.2.1 1, N, .inl (upd (fun j : Nat => Int32.ofInt (σ (o.toNat : Int) (j : Int))) (Int32.ofInt x).toNatClampNeg (Int32.ofInt z)))) = wl_ G.2.2.1 G.2.1 ad shs (ups_ σ o x z) := by
    refine wl_set hv.2 ?_ (fun a ha => ups_row (by omega))
    rw [ent_1 hK, tn_ hv.1, upd_fn hx.1, cl_ hx.1 (by have := hsa.2.2.2.2.2.2.2; omega)]
  rw [eq] at hP1 hD1
  exact k (mt_el hK hM ho hx hok) hA H1 locs1 ls hP1 hD1 hS1 hlh vL (vt_ (vt_ (vt_ vS).2).2).2
theorem so_bst {t N c : Nat} {o x z : Int} (hSA : SA_) (E : EN_ X G own cc nL rty) (hd : decode cc pc = .ok (.bastore, 1)) (hK : KT_ t = (2, c, N)) (hx : 0 ≤ x ∧ x < (N : Int)) (hz : (ty_ t 0).2.1 ≤ z ∧ z ≤ (ty_ t 0).2.2) (k : WP_ X G Q cl sl ad shs (ups_ σ o x z) (pc + 1) L S) : WP_ X G Q cl sl ad shs σ pc L ((0, z) :: (0, x) :: (t + 10, o) :: S) := by
  intro hM hA H locs ls hP hD hS hlh vL vS
  have vz := (vt_ vS).1
  have ho := (vt_ (vt_ (vt_ vS).2).2).1
  have hv := rs_ ho
  have hsa := hSA t 2 c N hK
  obtain ⟨e1, e2, e3, e4⟩ := hsa.2.1 rfl x.toNat
  have hok : ok_ shs t o x.toNat z := by
    refine ⟨by rw [e1, e2]; exact vz, fun _ => by rw [e1]; exact hz, fun r hr => ?_⟩
    rw [hsa.2.2.2.2.2.2.1 (by omega) (by omega)] at hr
    cases hr
  have he := wl_get (cs := G.2.2.1) (tc := G.2.1) (ad := ad) (σ := σ) hv.2
  rw [ent_2 hK] at he
  rw [List.map_cons, List.map_cons, List.map_cons, val_r hv.1]
  refine va_bast (cc := cc) E.1 E.2.1 E.2.2.2.2.2.1 hP hD hS o.toNat 1 he rfl (in_ hx hsa.2.2.2.2.2.2.2) hd ?_
  intro H1 locs1 hP1 hD1 hS1
  have eq : (wl_ G.2.2.1 G.2.1 ad shs σ).set o.toNat (ad.getD o.toNat 0, .inl (G.2.1 2, N, .inl (upd (fun j : Nat => Int32.ofInt (σ (o.toNat : Int) (j : Int))) (Int32.ofInt x).toNatClampNeg (vp_nar .byte (Int32.ofInt z))))) = wl_ G.2.2.1 G.2.1 ad shs (ups_ σ o x z) := by
    refine wl_set hv.2 ?_ (fun a ha => ups_row (by omega))
    rw [ent_2 hK, tn_ hv.1, upd_fn hx.1, cl_ hx.1 (by have := hsa.2.2.2.2.2.2.2; omega), nb_ (by omega) (by omega)]
  rw [eq] at hP1 hD1
  exact k (mt_el hK hM ho hx hok) hA H1 locs1 ls hP1 hD1 hS1 hlh vL (vt_ (vt_ (vt_ vS).2).2).2
theorem so_zst {t N c : Nat} {o x z : Int} (hSA : SA_) (E : EN_ X G own cc nL rty) (hd : decode cc pc = .ok (.bastore, 1)) (hK : KT_ t = (3, c, N)) (hx : 0 ≤ x ∧ x < (N : Int)) (hz : (ty_ t 0).2.1 ≤ z ∧ z ≤ (ty_ t 0).2.2) (k : WP_ X G Q cl sl ad shs (ups_ σ o x z) (pc + 1) L S) : WP_ X G Q cl sl ad shs σ pc L ((0, z) :: (0, x) :: (t + 10, o) :: S) := by
  intro hM hA H locs ls hP hD hS hlh vL vS
  have vz := (vt_ vS).1
  have ho := (vt_ (vt_ (vt_ vS).2).2).1
  have hv := rs_ ho
  have hsa := hSA t 3 c N hK
  obtain ⟨e1, e2, e3, e4⟩ := hsa.2.2.1 rfl x.toNat
  have hok : ok_ shs t o x.toNat z := by
    refine ⟨by rw [e1, e2]; exact vz, fun _ => by rw [e1]; exact hz, fun r hr => ?_⟩
    rw [hsa.2.2.2.2.2.2.1 (by omega) (by omega)] at hr
    cases hr
  have he := wl_get (cs := G.2.2.1) (tc := G.2.1) (ad := ad) (σ := σ) hv.2
  rw [ent_3 hK] at he
  rw [List.map_cons, List.map_cons, List.map_cons, val_r hv.1]
  refine va_zast (cc := cc) E.1 E.2.1 E.2.2.2.2.2.1 hP hD hS o.toNat 2 he rfl (in_ hx hsa.2.2.2.2.2.2.2) hd ?_
  intro H1 locs1 hP1 hD1 hS1
  have eq : (wl_ G.2.2.1 G.2.1 ad shs σ).set o.toNat (ad.getD o.toNat 0, .inl (G.2.1 3, N, .inl (upd (fun j : Nat => Int32.ofInt (σ (o.toNat : Int) (j : Int))) (Int32.ofInt x).toNatClampNeg (vp_nar .boolean (Int32.ofInt z))))) = wl_ G.2.2.1 G.2.1 ad shs (ups_ σ o x z) := by
    refine wl_set hv.2 ?_ (fun a ha => ups_row (by omega))
    rw [ent_3 hK, tn_ hv.1, upd_fn hx.1, cl_ hx.1 (by have := hsa.2.2.2.2.2.2.2; omega), nz_ (by omega) (by omega)]
  rw [eq] at hP1 hD1
  exact k (mt_el hK hM ho hx hok) hA H1 locs1 ls hP1 hD1 hS1 hlh vL (vt_ (vt_ (vt_ vS).2).2).2
theorem so_lst {t N c : Nat} {o x z : Int} (hSA : SA_) (E : EN_ X G own cc nL rty) (hd : decode cc pc = .ok (.lastore, 1)) (hK : KT_ t = (4, c, N)) (hx : 0 ≤ x ∧ x < (N : Int)) (hz : tv_ shs (1, z) → (ty_ t 0).2.1 ≤ z ∧ z ≤ (ty_ t 0).2.2) (k : WP_ X G Q cl sl ad shs (ups_ σ o x z) (pc + 1) L S) : WP_ X G Q cl sl ad shs σ pc L ((1, z) :: (0, x) :: (t + 10, o) :: S) := by
  intro hM hA H locs ls hP hD hS hlh vL vS
  have vz := (vt_ vS).1
  have ho := (vt_ (vt_ (vt_ vS).2).2).1
  have hv := rs_ ho
  have hsa := hSA t 4 c N hK
  obtain ⟨e1, e2⟩ := hsa.2.2.2.1 rfl x.toNat
  have hok : ok_ shs t o x.toNat z := by
    refine ⟨by rw [e1, e2]; exact vz, fun _ => by rw [e1]; exact hz vz, fun r hr => ?_⟩
    rw [hsa.2.2.2.2.2.2.1 (by omega) (by omega)] at hr
    cases hr
  have he := wl_get (cs := G.2.2.1) (tc := G.2.1) (ad := ad) (σ := σ) hv.2
  rw [ent_4 hK] at he
  rw [List.map_cons, List.map_cons, List.map_cons, val_r hv.1]
  refine va_last (cc := cc) E.1 E.2.1 E.2.2.2.2.2.1 hP hD hS o.toNat 3 he rfl (in_ hx hsa.2.2.2.2.2.2.2) hd ?_
  intro H1 locs1 hP1 hD1 hS1
  have eq : (wl_ G.2.2.1 G.2.1 ad shs σ).set o.toNat (ad.getD o.toNat 0, .inl (G.2.1 4, N, .inr (.inl (vp_updL (fun j : Nat => Int64.ofInt (σ (o.toNat : Int) (j : Int))) (Int32.ofInt x).toNatClampNeg (Int64.ofInt z))))) = wl_ G.2.2.1 G.2.1 ad shs (ups_ σ o x z) := by
    refine wl_set hv.2 ?_ (fun a ha => ups_row (by omega))
    rw [ent_4 hK, tn_ hv.1, updL_fn hx.1, cl_ hx.1 (by have := hsa.2.2.2.2.2.2.2; omega)]
  rw [eq] at hP1 hD1
  exact k (mt_el hK hM ho hx hok) hA H1 locs1 ls hP1 hD1 hS1 hlh vL (vt_ (vt_ (vt_ vS).2).2).2
theorem so_alen {t N a c : Nat} {o : Int} (hSA : SA_) (E : EN_ X G own cc nL rty) (hd : decode cc pc = .ok (.arraylength, 1)) (hK : KT_ t = (a, c, N)) (ha : 1 ≤ a ∧ a ≤ 5) (k : WP_ X G Q cl sl ad shs σ (pc + 1) L ((0, (N : Int)) :: S)) : WP_ X G Q cl sl ad shs σ pc L ((t + 10, o) :: S) := by
  intro hM hA H locs ls hP hD hS hlh vL vS
  have ho := (vt_ vS).1
  have hv := rs_ ho
  have hsa := hSA t a c N hK
  have hN := hsa.2.2.2.2.2.2.2
  have he := wl_get (cs := G.2.2.1) (tc := G.2.1) (ad := ad) (σ := σ) hv.2
  have kk := k hM hA H locs ls hP hD hS hlh vL (vc_ (show -2147483648 ≤ (N : Int) ∧ (N : Int) ≤ 2147483647 by omega) (vt_ vS).2)
  rw [List.map_cons, val_r hv.1]
  have e0 : Int32.ofNat N = Int32.ofInt (N : Int) := rfl
  have ha' : a = 1 ∨ a = 2 ∨ a = 3 ∨ a = 4 ∨ a = 5 := by omega
  rcases ha' with rfl | rfl | rfl | rfl | rfl
  · rw [ent_1 hK] at he
    exact va_alen (cc := cc) E.1 E.2.1 E.2.2.2.2.2.1 hP o.toNat 0 he rfl e0 hd kk
  · rw [ent_2 hK] at he
    exact va_alen (cc := cc) E.1 E.2.1 E.2.2.2.2.2.1 hP o.toNat 1 he rfl e0 hd kk
  · rw [ent_3 hK] at he
    exact va_alen (cc := cc) E.1 E.2.1 E.2.2.2.2.2.1 hP o.toNat 2 he rfl e0 hd kk
  · rw [ent_4 hK] at he
    exact va_alen (cc := cc) E.1 E.2.1 E.2.2.2.2.2.1 hP o.toNat 3 he rfl e0 hd kk
  · rw [ent_5 hK] at he
    obtain ⟨-, a2, -⟩ := hsa.2.2.2.2.1 rfl
    rcases a2 with rfl | rfl | rfl
    · exact va_alen (cc := cc) E.1 E.2.1 E.2.2.2.2.2.1 hP o.toNat 4 he rfl e0 hd kk
    · exact va_alen (cc := cc) E.1 E.2.1 E.2.2.2.2.2.1 hP o.toNat 5 he rfl e0 hd kk
    · exact va_alen (cc := cc) E.1 E.2.1 E.2.2.2.2.2.1 hP o.toNat 6 he rfl e0 hd kk
end SN4
end
section
/-! A ROW OF INSTRUCTIONS -/
def wpb_ (fl pl : List (Nat × Nat × Nat × Int)) (kn : List (Nat × Sv_t)) (cal : List (Nat × Nat × Tr_t)) (rk : Nat) (Ret : List Sv_t → Me_t → Prop) (J : Nat → List Sv_t → List Sv_t → Me_t → Prop) (scr : Option (Nat × (Int → Int))) (ct : List Nat) : Ci_t → List Sv_t → List Sv_t → Me_t → Prop
  | [], _, _, _ => False
  | q :: cs, L, S, σ => stp_ fl pl kn cal rk Ret J scr q.1 q.2.1 L S σ (fun L' S' σ' => bif ct.contains (q.1 + q.2.2) then J (q.1 + q.2.2) L' S' σ' else wpb_ fl pl kn cal rk Ret J scr ct cs L' S' σ')
/-- places and lengths fit; jumps stay at 0 and above; constants of the right kind -/
def jok_ (kn : List (Nat × Sv_t)) (pc : Nat) (i : Instr) (len : Nat) : Bool := match i with
  | .ifCond _ o => decide (0 ≤ (pc : Int) + o) && len == 3
  | .if_icmp _ o => decide (0 ≤ (pc : Int) + o) && len == 3
  | .goto o => decide (0 ≤ (pc : Int) + o) && len == 3
  | .tableswitch d lo hi offs => decide (0 ≤ (pc : Int) + d) && offs.toList.all (fun o => decide (0 ≤ (pc : Int) + o)) && decide ((offs.size : Int) = hi - lo + 1)
  | .ldc n => (match lk_ kn n with | some v => v.1 == 0 | none => true) && len == 2
  | .ldc_w n => (match lk_ kn n with | some v => v.1 == 0 | none => true) && len == 3
  | .ldc2_w n => (match lk_ kn n with | some v => v.1 == 1 | none => true) && len == 3
  | i => len == ln_ i
def ck_ (kn : List (Nat × Sv_t)) : Ci_t → Bool
  | [] => true
  | q :: cs => jok_ kn q.1 q.2.1 q.2.2 && (match cs with | [] => true | q2 :: _ => q.1 + q.2.2 == q2.1) && ck_ kn cs
section BLK
variable {X : Cx_t} {G : Gx_t} {Q : State → Prop} {cl sl : Nat} {ad shs : List Nat} {σ : Me_t} {pc pc' : Nat} {L S : List Sv_t} {own : String} {cc : ByteArray} {nL : Nat} {rty : Option FieldType}
/-- a call by its transformer -/
def COK_ (X : Cx_t) (G : Gx_t) (Q : State → Prop) (cl sl : Nat) (ad shs : List Nat) (cc : ByteArray) (nL : Nat) (n na : Nat) (T : Tr_t) : Prop :=
  ∀ (pc : Nat) (i : Instr) (σ : Me_t) (L as S : List Sv_t) (k : List Sv_t → Me_t → Prop), ((i = .invokevirtual (n / 2) ∧ n % 2 = 0) ∨ (i = .invokestatic (n / 2) ∧ n % 2 = 1)) → decode cc pc = .ok (i, 3) → as.length = na → csum_ S ≤ 8 → L.length = nL → T as σ k → (∀ r σ', k r σ' → WP_ X G Q cl sl ad shs σ' (pc + 3) L (r ++ S)) → WP_ X G Q cl sl ad shs σ pc L (as.reverse ++ S)
/-- what the end asks -/
def ROK_ (X : Cx_t) (G : Gx_t) (Q : State → Prop) (cl sl : Nat) (ad shs : List Nat) (cc : ByteArray) (rk : Nat) (Ret : List Sv_t → Me_t → Prop) : Prop :=
  ∀ (pc : Nat) (σ : Me_t) (L S : List Sv_t), ((decode cc pc = .ok (.ireturn, 1) ∧ ∃ z, S = [(0, z)] ∧ (rk = 1 ∨ rk = 2 ∧ 0 ≤ z ∧ z ≤ 1)) ∨ (decode cc pc = .ok (.lreturn, 1) ∧ rk = 3 ∧ ∃ z, S = [(1, z)]) ∨ (decode cc pc = .ok (.areturn, 1) ∧ rk = 4 ∧ ∃ t z, S = [(t + 10, z)]) ∨ (decode cc pc = .ok (.return_, 1) ∧ rk = 0 ∧ S = [])) → Ret S σ → WP_ X G Q cl sl ad shs σ pc L S
/-- the script -/
def SOK_ (X : Cx_t) (G : Gx_t) (Q : State → Prop) (cl sl : Nat) (ad shs : List Nat) (cc : ByteArray) (scr : Option (Nat × (Int → Int))) : Prop :=
  ∀ (n : Nat) (xs : Int → Int), scr = some (n, xs) → ∀ (pc : Nat) (σ : Me_t) (L S : List Sv_t), (∀ x : Int, decode cc pc = .ok (.iaload, 1) → 0 ≤ x ∧ x < (n : Int) → WP_ X G Q cl sl ad shs σ (pc + 1) L ((0, xs x) :: S) → WP_ X G Q cl sl ad shs σ pc L ((0, x) :: (4, 0) :: S)) ∧ (decode cc pc = .ok (.arraylength, 1) → WP_ X G Q cl sl ad shs σ (pc + 1) L ((0, (n : Int)) :: S) → WP_ X G Q cl sl ad shs σ pc L ((4, 0) :: S))
theorem sok_no : SOK_ X G Q cl sl ad shs cc none := fun _ _ h => by cases h
theorem blt_ {a b : Nat} (h : a.blt b = true) : a < b := by
  unfold Nat.blt at h
  exact Nat.le_of_ble_eq_true h
set_option maxHeartbeats 2000000 in
theorem stp_ok {fl pl : List (Nat × Nat × Nat × Int)} {kn : List (Nat × Sv_t)} {cal : List (Nat × Nat × Tr_t)} {rk : Nat} {Ret : List Sv_t → Me_t → Prop} {scr : Option (Nat × (Int → Int))} {i : Instr} {len : Nat} {k : List Sv_t → List Sv_t → Me_t → Prop}
    (hCL : CL_) (hSH : SH_) (hSA : SA_) (hF : FT_ own fl) (hP : PT_ own pl) (hK : KN_ own kn) (hC : ∀ n na T, lk_ cal n = some (na, T) → COK_ X G Q cl sl ad shs cc nL n na T) (hR : ROK_ X G Q cl sl ad shs cc rk Ret) (hS : SOK_ X G Q cl sl ad shs cc scr)
    (E : EN_ X G own cc nL rty) (hd : decode cc pc = .ok (i, len)) (hj : jok_ kn pc i len = true) (hL : L.length = nL) (h : stp_ fl pl kn cal rk Ret (fun tg L' S' σ' => WP_ X G Q cl sl ad shs σ' tg L' S') scr pc i L S σ k)
    (hk : ∀ L' S' σ', L'.length = nL → k L' S' σ' → WP_ X G Q cl sl ad shs σ' (pc + len) L' S') : WP_ X G Q cl sl ad shs σ pc L S := by
  have l1 : ∀ n v, (ls1_ L n v).length = nL := fun n v => by simp [ls1_, ls0_len, hL]
  have l2 : ∀ n v, (ls2_ L n v).length = nL := fun n v => by simp [ls2_, ls0_len, hL]
  cases i with
  | iload n =>
    have e : len = 2 := by simpa [jok_, ln_] using hj
    subst e
    simp only [stp_] at h
    split at h
    next z hz => exact so_iload (i := 0) E hd hz (hk _ _ _ hL h)
    next => exact h.elim
  | iload_n n =>
    have e : len = 1 := by simpa [jok_, ln_] using hj
    subst e
    simp only [stp_] at h
    split at h
    next z hz => exact so_iload_n E hd hz (hk _ _ _ hL h)
    next => exact h.elim
  | lload n =>
    have e : len = 2 := by simpa [jok_, ln_] using hj
    subst e
    simp only [stp_] at h
    split at h
    next z hz => exact so_lload E hd hz (hk _ _ _ hL h)
    next => exact h.elim
  | lload_n n =>
    have e : len = 1 := by simpa [jok_, ln_] using hj
    subst e
    simp only [stp_] at h
    split at h
    next z hz => exact so_lload_n E hd hz (hk _ _ _ hL h)
    next => exact h.elim
  | aload n =>
    have e : len = 2 := by simpa [jok_, ln_] using hj
    subst e
    simp only [stp_] at h
    split at h
    next z hz => exact so_aload4 E hd hz (hk _ _ _ hL h)
    next t z hz => exact so_aload E hd hz (hk _ _ _ hL h)
    next => exact h.elim
  | aload_n n =>
    have e : len = 1 := by simpa [jok_, ln_] using hj
    subst e
    simp only [stp_] at h
    split at h
    next z hz => exact so_aload4_n E hd hz (hk _ _ _ hL h)
    next t z hz => exact so_aload_n E hd hz (hk _ _ _ hL h)
    next => exact h.elim
  | istore n =>
    have e : len = 2 := by simpa [jok_, ln_] using hj
    subst e
    simp only [stp_] at h
    split at h
    next z S' =>
      cases hb : n.blt L.length with
      | true => rw [hb] at h; exact so_istore E hd (blt_ hb) (hk _ _ _ (l1 _ _) h)
      | false => rw [hb] at h; exact h.elim
    next => exact h.elim
  | istore_n n =>
    have e : len = 1 := by simpa [jok_, ln_] using hj
    subst e
    simp only [stp_] at h
    split at h
    next z S' =>
      cases hb : n.val.blt L.length with
      | true => rw [hb] at h; exact so_istore_n E hd (blt_ hb) (hk _ _ _ (l1 _ _) h)
      | false => rw [hb] at h; exact h.elim
    next => exact h.elim
  | lstore n =>
    have e : len = 2 := by simpa [jok_, ln_] using hj
    subst e
    simp only [stp_] at h
    split at h
    next z S' =>
      cases hb : (n + 1).blt L.length with
      | true => rw [hb] at h; exact so_lstore E hd (blt_ hb) (hk _ _ _ (l2 _ _) h)
      | false => rw [hb] at h; exact h.elim
    next => exact h.elim
  | lstore_n n =>
    have e : len = 1 := by simpa [jok_, ln_] using hj
    subst e
    simp only [stp_] at h
    split at h
    next z S' =>
      cases hb : (n.val + 1).blt L.length with
      | true => rw [hb] at h; exact so_lstore_n E hd (blt_ hb) (hk _ _ _ (l2 _ _) h)
      | false => rw [hb] at h; exact h.elim
    next => exact h.elim
  | astore n =>
    have e : len = 2 := by simpa [jok_, ln_] using hj
    subst e
    simp only [stp_] at h
    split at h
    next t z S' =>
      cases hb : n.blt L.length with
      | true => rw [hb] at h; exact so_astore E hd (blt_ hb) (hk _ _ _ (l1 _ _) h)
      | false => rw [hb] at h; exact h.elim
    next => exact h.elim
  | astore_n n =>
    have e : len = 1 := by simpa [jok_, ln_] using hj
    subst e
    simp only [stp_] at h
    split at h
    next t z S' =>
      cases hb : n.val.blt L.length with
      | true => rw [hb] at h; exact so_astore_n E hd (blt_ hb) (hk _ _ _ (l1 _ _) h)
      | false => rw [hb] at h; exact h.elim
    next => exact h.elim
  | iinc n c =>
    have e : len = 3 := by simpa [jok_, ln_] using hj
    subst e
    simp only [stp_] at h
    split at h
    next z hz => exact so_iinc E hd hz h.1 (hk _ _ _ (l1 _ _) h.2)
    next => exact h.elim
  | iconst c =>
    have e : len = 1 := by simpa [jok_, ln_] using hj
    subst e
    simp only [stp_] at h
    cases hb : (decide (-128 ≤ c) && decide (c ≤ 127)) with
    | true =>
      rw [hb] at h
      simp only [Bool.and_eq_true, decide_eq_true_eq] at hb
      exact so_iconst E hd hb.1 hb.2 (hk _ _ _ hL h)
    | false => rw [hb] at h; exact h.elim
  | bipush c =>
    have e : len = 2 := by simpa [jok_, ln_] using hj
    subst e
    simp only [stp_] at h
    cases hb : (decide (-128 ≤ c) && decide (c ≤ 127)) with
    | true =>
      rw [hb] at h
      simp only [Bool.and_eq_true, decide_eq_true_eq] at hb
      exact so_bipush E hd hb.1 hb.2 (hk _ _ _ hL h)
    | false => rw [hb] at h; exact h.elim
  | sipush c =>
    have e : len = 3 := by simpa [jok_, ln_] using hj
    subst e
    simp only [stp_] at h
    cases hb : (decide (-32768 ≤ c) && decide (c ≤ 32767)) with
    | true =>
      rw [hb] at h
      simp only [Bool.and_eq_true, decide_eq_true_eq] at hb
      exact so_sipush E hd hb.1 hb.2 (hk _ _ _ hL h)
    | false => rw [hb] at h; exact h.elim
  | lconst c =>
    have e : len = 1 := by simpa [jok_, ln_] using hj
    subst e
    simp only [stp_] at h
    cases hb : (c.val == 0) with
    | true => rw [hb] at h; exact so_lconst0 E hd (by simpa using hb) (hk _ _ _ hL h)
    | false => rw [hb] at h; exact so_lconst1 E hd (by simpa using hb) (hk _ _ _ hL h)
  | ldc n =>
    simp only [stp_] at h
    split at h
    next v hv =>
      simp only [jok_, hv, Bool.and_eq_true, beq_iff_eq] at hj
      obtain ⟨h0, rfl⟩ := hj
      exact so_ldc E hK hv hd (hk _ _ _ hL h) h0
    next => exact h.elim
  | ldc_w n =>
    simp only [stp_] at h
    split at h
    next v hv =>
      simp only [jok_, hv, Bool.and_eq_true, beq_iff_eq] at hj
      obtain ⟨h0, rfl⟩ := hj
      exact so_ldcw E hK hv hd (hk _ _ _ hL h) h0
    next => exact h.elim
  | ldc2_w n =>
    simp only [stp_] at h
    split at h
    next v hv =>
      simp only [jok_, hv, Bool.and_eq_true, beq_iff_eq] at hj
      obtain ⟨h0, rfl⟩ := hj
      exact so_ldc2 E hK hv hd (hk _ _ _ hL h) h0
    next => exact h.elim
  | iadd =>
    have e : len = 1 := by simpa [jok_, ln_] using hj
    subst e
    simp only [stp_] at h
    split at h
    next b a S' => exact so_iadd E hd h.1 (hk _ _ _ hL h.2)
    next => exact h.elim
  | isub =>
    have e : len = 1 := by simpa [jok_, ln_] using hj
    subst e
    simp only [stp_] at h
    split at h
    next b a S' => exact so_isub E hd h.1 (hk _ _ _ hL h.2)
    next => exact h.elim
  | imul =>
    have e : len = 1 := by simpa [jok_, ln_] using hj
    subst e
    simp only [stp_] at h
    split at h
    next b a S' => exact so_imul E hd h.1 (hk _ _ _ hL h.2)
    next => exact h.elim
  | idiv =>
    have e : len = 1 := by simpa [jok_, ln_] using hj
    subst e
    simp only [stp_] at h
    split at h
    next b a S' => exact so_idiv E hd h.1.1 h.1.2 (hk _ _ _ hL h.2)
    next => exact h.elim
  | irem =>
    have e : len = 1 := by simpa [jok_, ln_] using hj
    subst e
    simp only [stp_] at h
    split at h
    next b a S' => exact so_irem E hd h.1 (hk _ _ _ hL h.2)
    next => exact h.elim
  | iand =>
    have e : len = 1 := by simpa [jok_, ln_] using hj
    subst e
    simp only [stp_] at h
    split at h
    next b a S' => exact so_iand E hd (hk _ _ _ hL h)
    next => exact h.elim
  | ior =>
    have e : len = 1 := by simpa [jok_, ln_] using hj
    subst e
    simp only [stp_] at h
    split at h
    next b a S' => exact so_ior E hd (hk _ _ _ hL h)
    next => exact h.elim
  | ixor =>
    have e : len = 1 := by simpa [jok_, ln_] using hj
    subst e
    simp only [stp_] at h
    split at h
    next b a S' => exact so_ixor E hd (hk _ _ _ hL h)
    next => exact h.elim
  | ishl =>
    have e : len = 1 := by simpa [jok_, ln_] using hj
    subst e
    simp only [stp_] at h
    split at h
    next b a S' => exact so_ishl E hd (hk _ _ _ hL h)
    next => exact h.elim
  | ishr =>
    have e : len = 1 := by simpa [jok_, ln_] using hj
    subst e
    simp only [stp_] at h
    split at h
    next b a S' => exact so_ishr E hd (hk _ _ _ hL h)
    next => exact h.elim
  | i2b =>
    have e : len = 1 := by simpa [jok_, ln_] using hj
    subst e
    simp only [stp_] at h
    split at h
    next a S' => exact so_i2b E hd (hk _ _ _ hL h)
    next => exact h.elim
  | i2s =>
    have e : len = 1 := by simpa [jok_, ln_] using hj
    subst e
    simp only [stp_] at h
    split at h
    next a S' => exact so_i2s E hd (hk _ _ _ hL h)
    next => exact h.elim
  | i2l =>
    have e : len = 1 := by simpa [jok_, ln_] using hj
    subst e
    simp only [stp_] at h
    split at h
    next a S' => exact so_i2l E hd (hk _ _ _ hL h)
    next => exact h.elim
  | l2i =>
    have e : len = 1 := by simpa [jok_, ln_] using hj
    subst e
    simp only [stp_] at h
    split at h
    next a S' => exact so_l2i E hd (hk _ _ _ hL h)
    next => exact h.elim
  | ladd =>
    have e : len = 1 := by simpa [jok_, ln_] using hj
    subst e
    simp only [stp_] at h
    split at h
    next b a S' => exact so_ladd E hd h.1 (hk _ _ _ hL h.2)
    next => exact h.elim
  | lsub =>
    have e : len = 1 := by simpa [jok_, ln_] using hj
    subst e
    simp only [stp_] at h
    split at h
    next b a S' => exact so_lsub E hd h.1 (hk _ _ _ hL h.2)
    next => exact h.elim
  | lmul =>
    have e : len = 1 := by simpa [jok_, ln_] using hj
    subst e
    simp only [stp_] at h
    split at h
    next b a S' => exact so_lmul E hd h.1 (hk _ _ _ hL h.2)
    next => exact h.elim
  | ldiv =>
    have e : len = 1 := by simpa [jok_, ln_] using hj
    subst e
    simp only [stp_] at h
    split at h
    next b a S' => exact so_ldiv E hd h.1.1 h.1.2 (hk _ _ _ hL h.2)
    next => exact h.elim
  | lrem =>
    have e : len = 1 := by simpa [jok_, ln_] using hj
    subst e
    simp only [stp_] at h
    split at h
    next b a S' => exact so_lrem E hd h.1 (hk _ _ _ hL h.2)
    next => exact h.elim
  | land =>
    have e : len = 1 := by simpa [jok_, ln_] using hj
    subst e
    simp only [stp_] at h
    split at h
    next b a S' => exact so_land E hd (hk _ _ _ hL h)
    next => exact h.elim
  | lor =>
    have e : len = 1 := by simpa [jok_, ln_] using hj
    subst e
    simp only [stp_] at h
    split at h
    next b a S' => exact so_lor E hd (hk _ _ _ hL h)
    next => exact h.elim
  | lshl =>
    have e : len = 1 := by simpa [jok_, ln_] using hj
    subst e
    simp only [stp_] at h
    split at h
    next b a S' => exact so_lshl E hd (hk _ _ _ hL h)
    next => exact h.elim
  | lshr =>
    have e : len = 1 := by simpa [jok_, ln_] using hj
    subst e
    simp only [stp_] at h
    split at h
    next b a S' => exact so_lshr E hd (hk _ _ _ hL h)
    next => exact h.elim
  | lcmp =>
    have e : len = 1 := by simpa [jok_, ln_] using hj
    subst e
    simp only [stp_] at h
    split at h
    next b a S' => exact so_lcmp E hd (hk _ _ _ hL h)
    next => exact h.elim
  | dup =>
    have e : len = 1 := by simpa [jok_, ln_] using hj
    subst e
    simp only [stp_] at h
    split at h
    next v S' =>
      cases hb : (v.1 == 1) with
      | true => rw [hb] at h; exact h.elim
      | false => rw [hb] at h; exact so_dup E hd hb (hk _ _ _ hL h)
    next => exact h.elim
  | dup2 =>
    have e : len = 1 := by simpa [jok_, ln_] using hj
    subst e
    simp only [stp_] at h
    split at h
    next v w S' =>
      cases hb : (v.1 == 1 || w.1 == 1) with
      | true => rw [hb] at h; exact h.elim
      | false =>
        rw [hb] at h
        simp only [Bool.or_eq_false_iff] at hb
        exact so_dup2 E hd hb.1 hb.2 (hk _ _ _ hL h)
    next => exact h.elim
  | pop =>
    have e : len = 1 := by simpa [jok_, ln_] using hj
    subst e
    simp only [stp_] at h
    split at h
    next v S' =>
      cases hb : (v.1 == 1) with
      | true => rw [hb] at h; exact h.elim
      | false => rw [hb] at h; exact so_pop E hd hb (hk _ _ _ hL h)
    next => exact h.elim
  | pop2 =>
    have e : len = 1 := by simpa [jok_, ln_] using hj
    subst e
    simp only [stp_] at h
    split at h
    next z S' => exact so_pop2 E hd (hk _ _ _ hL h)
    next => exact h.elim
  | ifCond c off =>
    simp only [jok_, Bool.and_eq_true, decide_eq_true_eq, beq_iff_eq] at hj
    obtain ⟨h0, rfl⟩ := hj
    simp only [stp_] at h
    split at h
    next z S' => exact so_if E hd h0 h (fun a => a) (fun b => hk _ _ _ hL b)
    next => exact h.elim
  | if_icmp c off =>
    simp only [jok_, Bool.and_eq_true, decide_eq_true_eq, beq_iff_eq] at hj
    obtain ⟨h0, rfl⟩ := hj
    simp only [stp_] at h
    split at h
    next y z S' => exact so_icmp E hd h0 h (fun a => a) (fun b => hk _ _ _ hL b)
    next => exact h.elim
  | goto off =>
    simp only [jok_, Bool.and_eq_true, decide_eq_true_eq, beq_iff_eq] at hj
    obtain ⟨h0, rfl⟩ := hj
    exact so_goto E hd h0 h
  | tableswitch d lo hi offs =>
    simp only [jok_, Bool.and_eq_true, decide_eq_true_eq, List.all_eq_true] at hj
    obtain ⟨⟨h0, h1⟩, h2⟩ := hj
    simp only [stp_] at h
    split at h
    next z S' => exact so_tsw E hd h2 h0 h1 h
    next => exact h.elim
  | getfield n =>
    have e : len = 3 := by simpa [jok_, ln_] using hj
    subst e
    simp only [stp_] at h
    split at h
    next t o S' =>
      split at h
      next c jn ji hl =>
        split at h
        next c' N hkt =>
          cases hb : (c == c' && jn.blt N) with
          | false => rw [hb] at h; exact h.elim
          | true =>
            rw [hb] at h
            simp only [Bool.and_eq_true, beq_iff_eq] at hb
            obtain ⟨rfl, hb⟩ := hb
            have hjn := blt_ hb
            obtain ⟨C, T, N', g1, g2, g3, g4⟩ := hF _ (lk_mem hl)
            simp only at g3
            simp only [cond_true] at h
            split at h
            next r hr =>
              intro hM hA H locs ls hP hD hS hlh vL vS
              have hok := mt_at hM (vt_ vS).1 (j := jn) (by unfold sz_; rw [hkt]; exact hjn)
              have er : σ o ji = r := by
                have := hok.2.2 r (by rw [← g3]; exact hr)
                rw [g3]; exact this
              exact so_get hCL hF E hd hl hkt hjn (by rw [er]; exact hk _ _ _ hL h) hM hA H locs ls hP hD hS hlh vL vS
            next =>
              intro hM hA H locs ls hP hD hS hlh vL vS
              have hok := mt_at hM (vt_ vS).1 (j := jn) (by unfold sz_; rw [hkt]; exact hjn)
              exact so_get hCL hF E hd hl hkt hjn (hk _ _ _ hL (h _ rfl (rgo_of (by rw [g3]; exact hok)))) hM hA H locs ls hP hD hS hlh vL vS
        next => exact h.elim
      next => exact h.elim
    next => exact h.elim
  | putfield n =>
    have e : len = 3 := by simpa [jok_, ln_] using hj
    subst e
    simp only [stp_] at h
    split at h
    next u z t o S' =>
      split at h
      next c jn ji hl =>
        split at h
        next c' N hkt =>
          cases hb : (c == c' && jn.blt N) with
          | false => rw [hb] at h; exact h.elim
          | true =>
            rw [hb] at h
            simp only [Bool.and_eq_true, beq_iff_eq] at hb
            obtain ⟨rfl, hb⟩ := hb
            have hjn := blt_ hb
            obtain ⟨C, T, N', g1, g2, g3, g4⟩ := hP.1 _ (lk_mem hl)
            simp only at g3
            simp only [cond_true] at h
            split at h
            next => exact h.elim
            next hrt =>
              have hrt' : ∀ r, rt_ t o jn (jn : Int) = some r → z = r := fun r q => by rw [← g3, hrt] at q; cases q
              split at h
              next lo hi hty =>
                cases hu : (u == 0) with
                | false => rw [hu] at h; exact h.elim
                | true =>
                  rw [hu] at h
                  have eu : u = 0 := by simpa using hu
                  subst eu
                  simp only [cond_true] at h
                  cases hf : ful_ lo hi with
                  | true =>
                    rw [hf] at h
                    simp only [ful_, Bool.and_eq_true, decide_eq_true_eq] at hf
                    exact so_put hCL hSH hP E hd hl hkt hjn (fun cs => by rw [hty]) (fun hv => ⟨by rw [hty]; exact hv, fun _ => by rw [hty]; have hv : -2147483648 ≤ z ∧ z ≤ 2147483647 := hv; exact ⟨Int.le_trans hf.1 hv.1, Int.le_trans hv.2 hf.2⟩, hrt'⟩) (hk _ _ _ hL (h _ rfl))
                  | false =>
                    rw [hf] at h
                    exact so_put hCL hSH hP E hd hl hkt hjn (fun cs => by rw [hty]) (fun hv => ⟨by rw [hty]; exact hv, fun _ => by rw [hty]; exact h.1, hrt'⟩) (hk _ _ _ hL (h.2 _ rfl))
              next lo hi hty =>
                cases hu : (u == 1 && ful6_ lo hi) with
                | false => rw [hu] at h; exact h.elim
                | true =>
                  rw [hu] at h
                  simp only [Bool.and_eq_true, beq_iff_eq, ful6_, decide_eq_true_eq] at hu
                  obtain ⟨rfl, hf⟩ := hu
                  exact so_put hCL hSH hP E hd hl hkt hjn (fun cs => by rw [hty]) (fun hv => ⟨by rw [hty]; exact hv, fun _ => by rw [hty]; have hv : -9223372036854775808 ≤ z ∧ z ≤ 9223372036854775807 := hv; exact ⟨Int.le_trans hf.1 hv.1, Int.le_trans hv.2 hf.2⟩, hrt'⟩) (hk _ _ _ hL (h _ rfl))
              next lo hi hty =>
                cases hu : Nat.ble 10 u with
                | false => rw [hu] at h; exact h.elim
                | true =>
                  rw [hu] at h
                  obtain ⟨w, rfl⟩ : ∃ w, u = w + 10 := ⟨u - 10, by have := Nat.le_of_ble_eq_true hu; omega⟩
                  exact so_put hCL hSH hP E hd hl hkt hjn (fun cs => by rw [hty]; rfl) (fun hv => ⟨by rw [hty]; exact Or.inr (List.getElem?_eq_some_iff.mp hv.2).1, fun q => by rw [hty] at q; simp at q, hrt'⟩) (hk _ _ _ hL (h _ rfl))
              next g lo hi _ _ _ hty =>
                cases hu : (u == g && Nat.ble 10 g) with
                | false => rw [hu] at h; exact h.elim
                | true =>
                  rw [hu] at h
                  simp only [Bool.and_eq_true, beq_iff_eq] at hu
                  obtain ⟨rfl, hu⟩ := hu
                  have h10 := Nat.le_of_ble_eq_true hu
                  exact so_put hCL hSH hP E hd hl hkt hjn (fun cs => by rw [hty]) (fun hv => ⟨by rw [hty]; exact hv, fun q => by rw [hty] at q; simp only at q; omega, hrt'⟩) (hk _ _ _ hL (h _ rfl))
        next => exact h.elim
      next => exact h.elim
    next => exact h.elim
  | iaload =>
    have e : len = 1 := by simpa [jok_, ln_] using hj
    subst e
    simp only [stp_] at h
    split at h
    next x S' =>
      split at h
      next n xs => exact (hS n xs rfl pc σ L S').1 x hd h.1 (hk _ _ _ hL h.2)
      next => exact h.elim
    next x t o S' =>
      split at h
      next c N hkt =>
        intro hM hA H locs ls hP hD hS hlh vL vS
        have hok := mt_at hM (vt_ (vt_ vS).2).1 (j := x.toNat) (by unfold sz_; rw [hkt]; have := h.1; simp only; omega)
        rw [tn_ h.1.1] at hok
        have hrg := rgo_of hok
        have e0 : ty_ t x.toNat = ty_ t 0 := by
          have hsa := hSA t 1 c N hkt
          first | exact (hsa.1 rfl x.toNat).1 | exact (hsa.2.1 rfl x.toNat).1 | exact (hsa.2.2.1 rfl x.toNat).1
        rw [e0] at hrg
        exact so_ild hSA E hd hkt h.1 (hk _ _ _ hL (h.2 _ rfl hrg)) hM hA H locs ls hP hD hS hlh vL vS
      next => exact h.elim
    next => exact h.elim
  | baload =>
    have e : len = 1 := by simpa [jok_, ln_] using hj
    subst e
    simp only [stp_] at h
    split at h
    next x t o S' =>
      split at h
      next c N hkt =>
        intro hM hA H locs ls hP hD hS hlh vL vS
        have hok := mt_at hM (vt_ (vt_ vS).2).1 (j := x.toNat) (by unfold sz_; rw [hkt]; have := h.1; simp only; omega)
        rw [tn_ h.1.1] at hok
        have hrg := rgo_of hok
        have e0 : ty_ t x.toNat = ty_ t 0 := by
          have hsa := hSA t 2 c N hkt
          first | exact (hsa.1 rfl x.toNat).1 | exact (hsa.2.1 rfl x.toNat).1 | exact (hsa.2.2.1 rfl x.toNat).1
        rw [e0] at hrg
        exact so_bld hSA E hd hkt h.1 (hk _ _ _ hL (h.2 _ rfl hrg)) hM hA H locs ls hP hD hS hlh vL vS
      next c N hkt =>
        intro hM hA H locs ls hP hD hS hlh vL vS
        have hok := mt_at hM (vt_ (vt_ vS).2).1 (j := x.toNat) (by unfold sz_; rw [hkt]; have := h.1; simp only; omega)
        rw [tn_ h.1.1] at hok
        have hrg := rgo_of hok
        have e0 : ty_ t x.toNat = ty_ t 0 := by
          have hsa := hSA t 3 c N hkt
          first | exact (hsa.1 rfl x.toNat).1 | exact (hsa.2.1 rfl x.toNat).1 | exact (hsa.2.2.1 rfl x.toNat).1
        rw [e0] at hrg
        exact so_zld hSA E hd hkt h.1 (hk _ _ _ hL (h.2 _ rfl hrg)) hM hA H locs ls hP hD hS hlh vL vS
      next => exact h.elim
    next => exact h.elim
  | laload =>
    have e : len = 1 := by simpa [jok_, ln_] using hj
    subst e
    simp only [stp_] at h
    split at h
    next x t o S' =>
      split at h
      next c N hkt => exact so_lld hSA E hd hkt h.1 (hk _ _ _ hL h.2)
      next => exact h.elim
    next => exact h.elim
  | aaload =>
    have e : len = 1 := by simpa [jok_, ln_] using hj
    subst e
    simp only [stp_] at h
    split at h
    next x t o S' =>
      split at h
      next c N hkt =>
        obtain ⟨h1, h2⟩ := h
        split at h2
        next r hr => exact so_ald hSA E hd hkt h1 hr (hk _ _ _ hL h2)
        next => exact h2.elim
      next => exact h.elim
    next => exact h.elim
  | iastore =>
    have e : len = 1 := by simpa [jok_, ln_] using hj
    subst e
    simp only [stp_] at h
    split at h
    next z x t o S' =>
      split at h
      next c N hkt =>
        obtain ⟨h1, h2⟩ := h
        cases hf : ful_ (ty_ t 0).2.1 (ty_ t 0).2.2 with
        | true =>
          rw [hf] at h2
          simp only [ful_, Bool.and_eq_true, decide_eq_true_eq] at hf
          exact so_ist hSA E hd hkt h1 (fun hv => by have hv : -2147483648 ≤ z ∧ z ≤ 2147483647 := hv; exact ⟨Int.le_trans hf.1 hv.1, Int.le_trans hv.2 hf.2⟩) (hk _ _ _ hL (h2 _ rfl))
        | false =>
          rw [hf] at h2
          exact so_ist hSA E hd hkt h1 (fun _ => h2.1) (hk _ _ _ hL (h2.2 _ rfl))
      next => exact h.elim
    next => exact h.elim
  | bastore =>
    have e : len = 1 := by simpa [jok_, ln_] using hj
    subst e
    simp only [stp_] at h
    split at h
    next z x t o S' =>
      split at h
      next c N hkt => exact so_bst hSA E hd hkt h.1 h.2.1 (hk _ _ _ hL (h.2.2 _ rfl))
      next c N hkt => exact so_zst hSA E hd hkt h.1 h.2.1 (hk _ _ _ hL (h.2.2 _ rfl))
      next => exact h.elim
    next => exact h.elim
  | lastore =>
    have e : len = 1 := by simpa [jok_, ln_] using hj
    subst e
    simp only [stp_] at h
    split at h
    next z x t o S' =>
      split at h
      next c N hkt =>
        obtain ⟨h1, h2⟩ := h
        cases hf : ful6_ (ty_ t 0).2.1 (ty_ t 0).2.2 with
        | true =>
          rw [hf] at h2
          simp only [ful6_, Bool.and_eq_true, decide_eq_true_eq] at hf
          exact so_lst hSA E hd hkt h1 (fun hv => by have hv : -9223372036854775808 ≤ z ∧ z ≤ 9223372036854775807 := hv; exact ⟨Int.le_trans hf.1 hv.1, Int.le_trans hv.2 hf.2⟩) (hk _ _ _ hL (h2 _ rfl))
        | false => rw [hf] at h2; exact h2.elim
      next => exact h.elim
    next => exact h.elim
  | arraylength =>
    have e : len = 1 := by simpa [jok_, ln_] using hj
    subst e
    simp only [stp_] at h
    split at h
    next S' =>
      split at h
      next n xs => exact (hS n xs rfl pc σ L S').2 hd (hk _ _ _ hL h)
      next => exact h.elim
    next t o S' =>
      obtain ⟨a, c, N, hkt⟩ : ∃ a c N, KT_ t = (a, c, N) := ⟨_, _, _, rfl⟩
      · rw [hkt] at h
        cases hb : (Nat.ble 1 a && Nat.ble a 5) with
        | false => rw [hb] at h; exact h.elim
        | true =>
          rw [hb] at h
          simp only [Bool.and_eq_true] at hb
          exact so_alen hSA E hd hkt ⟨Nat.le_of_ble_eq_true hb.1, Nat.le_of_ble_eq_true hb.2⟩ (hk _ _ _ hL h)
    next => exact h.elim
  | invokevirtual n =>
    have e : len = 3 := by simpa [jok_, ln_] using hj
    subst e
    simp only [stp_] at h
    split at h
    next na T hl =>
      cases hb : (Nat.ble na S.length && Nat.ble (csum_ (S.drop na)) 8) with
      | false => rw [hb] at h; exact h.elim
      | true =>
        rw [hb] at h
        simp only [Bool.and_eq_true] at hb
        have h1 := Nat.le_of_ble_eq_true hb.1
        have h2 := Nat.le_of_ble_eq_true hb.2
        have := hC _ _ _ hl pc (.invokevirtual n) σ L (S.take na).reverse (S.drop na) _ (Or.inl ⟨by rw [Nat.mul_div_cancel_left _ (by omega)], by omega⟩) hd (by simp; omega) h2 hL h (fun r σ' q => hk _ _ _ hL q)
        rw [List.reverse_reverse, List.take_append_drop] at this
        exact this
    next => exact h.elim
  | invokestatic n =>
    have e : len = 3 := by simpa [jok_, ln_] using hj
    subst e
    simp only [stp_] at h
    split at h
    next na T hl =>
      cases hb : (Nat.ble na S.length && Nat.ble (csum_ (S.drop na)) 8) with
      | false => rw [hb] at h; exact h.elim
      | true =>
        rw [hb] at h
        simp only [Bool.and_eq_true] at hb
        have h1 := Nat.le_of_ble_eq_true hb.1
        have h2 := Nat.le_of_ble_eq_true hb.2
        have := hC _ _ _ hl pc (.invokestatic n) σ L (S.take na).reverse (S.drop na) _ (Or.inr ⟨by rw [show (2 * n + 1) / 2 = n by omega], by omega⟩) hd (by simp; omega) h2 hL h (fun r σ' q => hk _ _ _ hL q)
        rw [List.reverse_reverse, List.take_append_drop] at this
        exact this
    next => exact h.elim
  | ireturn =>
    have e : len = 1 := by simpa [jok_, ln_] using hj
    subst e
    simp only [stp_] at h
    split at h
    next z =>
      cases h1 : (rk == 1) with
      | true => rw [h1] at h; exact hR pc σ L _ (Or.inl ⟨hd, z, rfl, Or.inl (by simpa using h1)⟩) h
      | false =>
        rw [h1] at h
        simp only [cond_false] at h
        cases h2 : (rk == 2) with
        | true => rw [h2] at h; exact hR pc σ L _ (Or.inl ⟨hd, z, rfl, Or.inr ⟨by simpa using h2, h.1⟩⟩) h.2
        | false => rw [h2] at h; exact h.elim
    next => exact h.elim
  | lreturn =>
    have e : len = 1 := by simpa [jok_, ln_] using hj
    subst e
    simp only [stp_] at h
    split at h
    next z =>
      cases h1 : (rk == 3) with
      | true => rw [h1] at h; exact hR pc σ L _ (Or.inr (Or.inl ⟨hd, by simpa using h1, z, rfl⟩)) h
      | false => rw [h1] at h; exact h.elim
    next => exact h.elim
  | areturn =>
    have e : len = 1 := by simpa [jok_, ln_] using hj
    subst e
    simp only [stp_] at h
    split at h
    next t z =>
      cases h1 : (rk == 4) with
      | true => rw [h1] at h; exact hR pc σ L _ (Or.inr (Or.inr (Or.inl ⟨hd, by simpa using h1, t, z, rfl⟩))) h
      | false => rw [h1] at h; exact h.elim
    next => exact h.elim
  | return_ =>
    have e : len = 1 := by simpa [jok_, ln_] using hj
    subst e
    simp only [stp_] at h
    split at h
    next =>
      cases h1 : (rk == 0) with
      | true => rw [h1] at h; exact hR pc σ L _ (Or.inr (Or.inr (Or.inr ⟨hd, by simpa using h1, rfl⟩))) h
      | false => rw [h1] at h; exact h.elim
    next => exact h.elim
  | _ => exact h.elim
theorem blk_ {fl pl : List (Nat × Nat × Nat × Int)} {kn : List (Nat × Sv_t)} {cal : List (Nat × Nat × Tr_t)} {rk : Nat} {Ret : List Sv_t → Me_t → Prop} {scr : Option (Nat × (Int → Int))} {ct : List Nat}
    (hCL : CL_) (hSH : SH_) (hSA : SA_) (hF : FT_ own fl) (hP : PT_ own pl) (hK : KN_ own kn) (hC : ∀ n na T, lk_ cal n = some (na, T) → COK_ X G Q cl sl ad shs cc nL n na T) (hR : ROK_ X G Q cl sl ad shs cc rk Ret) (hS : SOK_ X G Q cl sl ad shs cc scr)
    (E : EN_ X G own cc nL rty) : ∀ (cs : Ci_t), (∀ q ∈ cs, decode cc q.1 = .ok q.2) → ck_ kn cs = true → ∀ (pc : Nat) (L S : List Sv_t) (σ : Me_t), L.length = nL → (cs.head?.map (fun q => q.1)) = some pc → wpb_ fl pl kn cal rk Ret (fun tg L' S' σ' => WP_ X G Q cl sl ad shs σ' tg L' S') scr ct cs L S σ → WP_ X G Q cl sl ad shs σ pc L S := by
  intro cs
  induction cs with
  | nil => intro _ _ pc L S σ _ _ h; exact h.elim
  | cons q cs ih =>
    intro hd hck pc L S σ hL hpc h
    simp only [List.head?_cons, Option.map_some, Option.some.injEq] at hpc
    subst hpc
    simp only [ck_, Bool.and_eq_true] at hck
    obtain ⟨⟨h1, h2⟩, h3⟩ := hck
    refine stp_ok hCL hSH hSA hF hP hK hC hR hS E (hd q List.mem_cons_self) h1 hL h ?_
    intro L' S' σ' hL' hk
    cases hct : ct.contains (q.1 + q.2.2) with
    | true => rw [hct] at hk; exact hk
    | false =>
    rw [hct] at hk
    simp only [cond_false] at hk
    cases cs with
    | nil => exact hk.elim
    | cons q2 cs2 =>
      have e : q.1 + q.2.2 = q2.1 := by simpa using h2
      rw [e]
      exact ih (fun r hr => hd r (List.mem_cons_of_mem _ hr)) h3 q2.1 L' S' σ' hL' rfl hk
end BLK
end
section
/-! CONTRACTS OVER THE MEMORY -/
def PC_ (D : va_G) (tc : Nat → ClassId) (cs : Nat → Nat) (ad : List Nat) (σ : Me_t) (as : List Sv_t) : Array Value → State → Prop := fun v U => v = (as.map (val_ cs ad)).toArray ∧ va_P D cls_ (wl_ cs tc ad SHS_ σ) U.heap ∧ va_K D cls_ (tys_ tc) U ∧ va_D (fun _ => True) (wl_ cs tc ad SHS_ σ) ∧ XW_ U ∧ XS_ cs (fun q => q ∈ ad) U
def QC_ (D : va_G) (tc : Nat → ClassId) (cs : Nat → Nat) (ad : List Nat) (Rt : List Sv_t → Me_t → Prop) : Array Value → State → Outcome → State → Prop := fun _ st oc t => (∃ (r : List Sv_t) (σ' : Me_t), oc = .returned (r.head?.map (val_ cs ad)) ∧ r.length ≤ 1 ∧ Rt r σ' ∧ MT_ SHS_ σ' ∧ (∀ v ∈ r, tv_ SHS_ v) ∧ va_P D cls_ (wl_ cs tc ad SHS_ σ') t.heap) ∧ va_F (fun q => q ∈ ad) st t
def CT_ {α : Type} (l : Launch) (y : MethodName) (cc : ByteArray) (nL : Nat) (ret : Option FieldType) (fr lo : Nat) (as : α → List Sv_t) (rm : Int → List Sv_t) (Pre : α → Me_t → Prop) (Post : α → Me_t → Int → Me_t → Prop) : Prop :=
  ∀ (D : va_G) (tc : Nat → ClassId) (cs : Nat → Nat) (ad : List Nat) (σ : Me_t) (a : α), ad.length = SHS_.length → MT_ SHS_ σ → (∀ v ∈ as a, tv_ SHS_ v) → Pre a σ →
    Met l y (.code y cc nL ret :: gl_) { frames := fr, cells := 0, slots := 0, locals := lo } (PC_ D tc cs ad σ (as a)) (QC_ D tc cs ad (fun r σ' => ∃ z, r = rm z ∧ Post a σ z σ')) 0 0 (fun q => q ∈ ad)
def TR_ {α : Type} (as : α → List Sv_t) (rm : Int → List Sv_t) (Pre : α → Me_t → Prop) (Post : α → Me_t → Int → Me_t → Prop) : Tr_t := fun args σ k => ∃ a : α, args = as a ∧ Pre a σ ∧ ∀ (z : Int) (σ' : Me_t), Post a σ z σ' → k (rm z) σ'
def entL_ (as : List Sv_t) (nL : Nat) : List Sv_t := (as.flatMap fun v => bif v.1 == 1 then [v, (9, 0)] else [v]) ++ List.replicate (nL - (as.flatMap fun v => bif v.1 == 1 then [v, ((9 : Nat), (0 : Int))] else [v]).length) (9, 0)
theorem wl_D {A : Nat → Prop} {cs : Nat → Nat} {tc : Nat → ClassId} {ad shs : List Nat} {σ σ' : Me_t} (h : va_D A (wl_ cs tc ad shs σ)) : va_D A (wl_ cs tc ad shs σ') := by
  have key : ∀ (k : Nat) (q : Nat × va_E), (wl_ cs tc ad shs σ')[k]? = some q → ∃ q0 : Nat × va_E, (wl_ cs tc ad shs σ)[k]? = some q0 ∧ q0.1 = q.1 := by
    intro k q hq
    cases hs : shs[k]? with
    | none => rw [wl_none hs] at hq; cases hq
    | some sh =>
      rw [wl_get hs] at hq
      cases hq
      exact ⟨_, wl_get hs, rfl⟩
  refine ⟨fun i j x y hi hj hxy => ?_, fun k q hk => ?_⟩
  · obtain ⟨x0, h1, h2⟩ := key i x hi
    obtain ⟨y0, h3, h4⟩ := key j y hj
    exact h.1 i j x0 y0 h1 h3 (h2.trans (hxy.trans h4.symm))
  · obtain ⟨q0, h1, h2⟩ := key k q hk
    rw [← h2]
    exact h.2 k q0 h1
theorem wl_in {cs : Nat → Nat} {tc : Nat → ClassId} {ad shs : List Nat} {σ : Me_t} (hA : ad.length = shs.length) {k : Nat} {q : Nat × va_E} (h : (wl_ cs tc ad shs σ)[k]? = some q) : q.1 ∈ ad := by
  cases hs : shs[k]? with
  | none => rw [wl_none hs] at h; cases h
  | some sh =>
    rw [wl_get hs] at h
    cases h
    have hk : k < ad.length := by rw [hA]; exact (List.getElem?_eq_some_iff.mp hs).1
    simp [List.getD_eq_getElem?_getD, hk]
theorem map_cat {cs : Nat → Nat} {ad : List Nat} : ∀ S : List Sv_t, ((S.map (val_ cs ad)).map fun v => v.category).sum = csum_ S
  | [] => rfl
  | v :: S => by
    rw [List.map_cons, List.map_cons, List.sum_cons, map_cat S, val_cat]
    have e : csum_ (v :: S) = (bif v.1 == 1 then 2 else 1) + csum_ S := rfl
    rw [e]
    by_cases h : v.1 = 1
    · simp [h]
    · have h2 : (v.1 == 1) = false := by simpa using h
      simp [h, h2]
/-- behind a call -/
theorem run_ {p : Program} {l : Launch} {e : Env} {R : Room} {s : State} {m : MethodId} {args : Array Value} {below : List Frame} {meth : Method} {c : Code} {H : Heap} {locs : List Loc} {cells slots : Nat} {Q : State → Prop} {pc : Nat} {ls : Array Slot} {rest st0 : List Value} {a : Array Value} {A0 : Nat → Prop} {H0 : Heap}
    {D : va_G} {tc : Nat → ClassId} {cs : Nat → Nat} {ad : List Nat} {Rt : List Sv_t → Me_t → Prop} (hr : va_Run p l e R s m args below meth c H locs cells slots 0 0 (F0 m pc ls st0) rest (QC_ D tc cs ad Rt a) (fun q => q ∈ ad)) (hS : va_S A0 H0 H locs) (hA : ∀ q, q ∈ ad → A0 q)
    (kk : ∀ (r : List Sv_t) (σ' : Me_t) (H1 : Heap) (locs1 : List Loc), Rt r σ' → MT_ SHS_ σ' → (∀ v ∈ r, tv_ SHS_ v) → va_P D cls_ (wl_ cs tc ad SHS_ σ') H1 → va_S A0 H0 H1 locs1 → W p l e R s m args below meth c H1 locs1 cells slots Q (F0 m (pc + 3) ls (r.map (val_ cs ad) ++ rest))) : W p l e R s m args below meth c H locs cells slots Q (F0 m pc ls st0) := by
  intro T hT X
  obtain ⟨v, st₀, t, T', L, h0, X', hL, e1, e2, ⟨⟨r, σ', hv, hlen, hp, hM, ht, hP⟩, hz, hk⟩, st⟩ := hr T hT X
  have hv : v = r.head?.map (val_ cs ad) := Outcome.returned.inj hv
  subst hv
  rw [h0] at hz hk
  have hl : (r.head?.map (val_ cs ad)).toList = r.map (val_ cs ad) := by
    match r, hlen with
    | [], _ => rfl
    | [x], _ => rfl
    | x :: y :: w, h => simp at h
  obtain ⟨t2, a1, b1⟩ := kk r σ' T'.heap (locs ++ L) hp hM ht (by rw [e1]; exact hP)
    ⟨Nat.le_trans hS.1 (by rw [e1]; exact hz), fun q h1 h2 => by rw [e1, hk q (Nat.lt_of_lt_of_le h1 hS.1) (fun z => h2 (hA q z))]; exact hS.2.1 q h1 h2, fun q hq => by
      rcases List.mem_append.mp hq with h | h
      · exact hS.2.2 q h
      · exact hA _ (hL q h)⟩ T' rfl X'
  refine ⟨t2, st t2 ?_, b1⟩
  rw [hl]
  exact a1
theorem gin_ {ws : List Cond} (h : ∀ w ∈ ws, w ∈ gl_) : GoodIn gl_ (ws ++ gl_) := by
  intro w hw
  have hg : w ∈ gl_ := (List.mem_append.mp hw).elim (h w) id
  exact ⟨hg, good_of_word (List.mem_filter.mp hg).2⟩
theorem pcb_ {D : va_G} {tc : Nat → ClassId} {cs : Nat → Nat} {ad : List Nat} {σ : Me_t} {as : List Sv_t} : FrameBlind (PC_ D tc cs ad σ as) := fun a U g mk q => by
  obtain ⟨q0, q1, q2, q3, q4, q5⟩ := q
  exact ⟨q0, q1, va_K.moved (u := U) (U := U.calling g mk a) (Vm.Alike.refl U.vm) q2, q3, XW_same (s := U) (U := U.calling g mk a) rfl q4, XS_same (s := U) (U := U.calling g mk a) rfl rfl q5⟩
section COK
variable {α : Type} {X : Cx_t} {G : Gx_t} {Q : State → Prop} {ad : List Nat} {own : String} {cc bytes : ByteArray} {nL maxL fr lo fr0 lo0 : Nat} {rty ret : Option FieldType} {y : MethodName} {as : α → List Sv_t} {rm : Int → List Sv_t} {Pre : α → Me_t → Prop} {Post : α → Me_t → Int → Me_t → Prop}
/-- a call of an instance's method by its contract: the receiver is of shape t, class number c -/
theorem cok_v {t c N idx n cl sl : Nat} {C : String} {Tc : u_T} (E : EN_ X G own cc nL rty) (hct : CT_ X.2.1 y bytes maxL ret fr lo as rm Pre Post) (hRm : fr + 1 ≤ X.2.2.2.1.frames ∧ 8 + (maxL + 11) + lo ≤ X.2.2.2.1.locals) (hc0 : cl ≤ X.2.2.2.1.cells) (hs0 : sl ≤ X.2.2.2.1.slots) (hG : ∀ q, q ∈ ad → G.2.2.2 q)
    (hK : KT_ t = (0, c, N)) (hc : cls_[c]? = some (C, Tc, N)) (hy : y.cls = C ∧ y.cls ≠ "java/lang/invoke/MethodHandle" ∧ y.cls ≠ "java/lang/invoke/VarHandle" ∧ (parseMethodDescriptor y.desc).map (fun d => d.parameters.length) = some n)
    (has : ∀ a, ∃ (o : Int) (r : List Sv_t), as a = (t + 10, o) :: r ∧ r.length = n)
    (w1 : Cond.methodLink own idx y ∈ gl_) (w2 : Cond.instanceMethod y ∈ gl_) (w3 : Cond.selects C y y ∈ gl_) (w4 : Cond.initialized C ∈ gl_) (w5 : Cond.code y bytes maxL ret ∈ gl_) :
    COK_ X G Q cl sl ad SHS_ cc nL (2 * idx) (n + 1) (TR_ as rm Pre Post) := by
  obtain ⟨p, l, e, R, s, m, args, below, meth, code⟩ := X
  obtain ⟨D, tc, cs, A⟩ := G
  intro pc i σ L as0 S k hi hd hlen hcs hL hT hk
  have hi : i = .invokevirtual idx := by
    rcases hi with ⟨h, -⟩ | ⟨-, h⟩
    · rw [Nat.mul_div_cancel_left _ (by omega)] at h; exact h
    · omega
  subst hi
  obtain ⟨a, rfl, hpre, hpost⟩ := hT
  obtain ⟨o, r, ha, hr⟩ := has a
  intro hM hA H locs ls hP hD hS hlh vL vS
  have va : ∀ v ∈ as a, tv_ SHS_ v := fun v hv => vS v (List.mem_append_left _ (List.mem_reverse.mpr hv))
  have hv := rs_ (va (t + 10, o) (by rw [ha]; exact List.mem_cons_self))
  have he := wl_get (cs := cs) (tc := tc) (ad := ad) (σ := σ) hv.2
  rw [ent_0 hK] at he
  have hrec := va_recv E.2.2.2.2.2.1 hP hc he
  have hmet := hct D tc cs ad σ a hA hM va hpre
  have hmap : (as a).map (val_ cs ad) = .ref (ad.getD o.toNat 0) :: r.map (val_ cs ad) := by rw [ha, List.map_cons, val_r hv.1]
  refine run_ (va_runV (As := r.map (val_ cs ad)) (rest := S.map (val_ cs ad)) (b := ad.getD o.toNat 0) ⟨E.1, E.2.1, E.2.2.1, E.2.2.2.1, E.2.2.2.2.1⟩ hmet (cwV n E.2.2.2.2.1 ?_ rfl rfl rfl hy hRm) ⟨pcb_, hrec, fun U hU hW => ?_⟩ rfl (by rw [List.length_map, hr]) (hlh.1.trans hL) ?_ ?_ hd ⟨hc0, hs0⟩) hS hG ?_
  · have := gin_ (ws := [Cond.methodLink own idx y, Cond.instanceMethod y, Cond.selects C y y, Cond.initialized C, Cond.code y bytes maxL ret]) (fun w hw => by
      simp only [List.mem_cons, List.not_mem_nil, or_false] at hw
      rcases hw with rfl | rfl | rfl | rfl | rfl <;> assumption)
    exact this
  · refine ⟨by rw [hmap], by rw [hU]; exact hP, va_K.moved hW.alike E.2.2.2.2.2.1, hD.weaken (fun _ _ _ _ => trivial), XW_warm hW E.2.2.2.2.2.2.2.2.1, XS_move E.2.2.2.2.2.2.2.2.2 hS hU hW hG⟩
  · show List.map (val_ cs ad) ((as a).reverse ++ S) = _
    rw [List.map_append, List.map_reverse, hmap, List.reverse_cons]
    simp
  · rw [map_cat]
    show 2 * 0 + csum_ S ≤ 8
    omega
  · intro r' σ' H1 locs1 ⟨z, hz, hq⟩ hM' ht hP' hS'
    subst hz
    have := hk _ _ (hpost z σ' hq) hM' hA H1 locs1 ls hP' (wl_D hD) hS' hlh vL (fun v hv => by
      rcases List.mem_append.mp hv with h | h
      · exact ht v h
      · exact vS v (List.mem_append_right _ h))
    rw [List.map_append] at this
    exact this
theorem cok_s {idx n cl sl : Nat} (E : EN_ X G own cc nL rty) (hct : CT_ X.2.1 y bytes maxL ret fr lo as rm Pre Post) (hRm : fr + 1 ≤ X.2.2.2.1.frames ∧ 8 + (maxL + 11) + lo ≤ X.2.2.2.1.locals) (hc0 : cl ≤ X.2.2.2.1.cells) (hs0 : sl ≤ X.2.2.2.1.slots) (hG : ∀ q, q ∈ ad → G.2.2.2 q)
    (hy : y.cls ≠ "java/lang/invoke/MethodHandle" ∧ y.cls ≠ "java/lang/invoke/VarHandle" ∧ (parseMethodDescriptor y.desc).map (fun d => d.parameters.length) = some n)
    (has : ∀ a, (as a).length = n)
    (w1 : Cond.methodLink own idx y ∈ gl_) (w2 : Cond.static y ∈ gl_) (w4 : Cond.initialized y.cls ∈ gl_) (w5 : Cond.code y bytes maxL ret ∈ gl_) :
    COK_ X G Q cl sl ad SHS_ cc nL (2 * idx + 1) n (TR_ as rm Pre Post) := by
  obtain ⟨p, l, e, R, s, m, args, below, meth, code⟩ := X
  obtain ⟨D, tc, cs, A⟩ := G
  intro pc i σ L as0 S k hi hd hlen hcs hL hT hk
  have hi : i = .invokestatic idx := by
    rcases hi with ⟨-, h⟩ | ⟨h, -⟩
    · omega
    · rw [show (2 * idx + 1) / 2 = idx by omega] at h; exact h
  subst hi
  obtain ⟨a, rfl, hpre, hpost⟩ := hT
  intro hM hA H locs ls hP hD hS hlh vL vS
  have va : ∀ v ∈ as a, tv_ SHS_ v := fun v hv => vS v (List.mem_append_left _ (List.mem_reverse.mpr hv))
  have hmet := hct D tc cs ad σ a hA hM va hpre
  refine run_ (va_runS (As := (as a).map (val_ cs ad)) (rest := S.map (val_ cs ad)) ⟨E.1, E.2.1, E.2.2.1, E.2.2.2.1, E.2.2.2.2.1⟩ hmet ⟨callB_of n E.2.2.2.2.1 ?_ rfl rfl rfl (E.2.2.2.2.1 _ w4) (E.2.2.2.2.1 _ w1) hy hRm, E.2.2.2.2.1 _ w2⟩ ⟨pcb_, fun U hU hW => ?_⟩ rfl (by rw [List.length_map, has]) (hlh.1.trans hL) ?_ ?_ hd ⟨hc0, hs0⟩) hS hG ?_
  · have := gin_ (ws := [Cond.code y bytes maxL ret]) (fun w hw => by
      simp only [List.mem_cons, List.not_mem_nil, or_false] at hw
      subst hw; assumption)
    exact this
  · refine ⟨rfl, by rw [hU]; exact hP, va_K.moved hW.alike E.2.2.2.2.2.1, hD.weaken (fun _ _ _ _ => trivial), XW_warm hW E.2.2.2.2.2.2.2.2.1, XS_move E.2.2.2.2.2.2.2.2.2 hS hU hW hG⟩
  · show List.map (val_ cs ad) ((as a).reverse ++ S) = _
    rw [List.map_append, List.map_reverse]
  · rw [map_cat]
    show 2 * 0 + csum_ S ≤ 8
    omega
  · intro r' σ' H1 locs1 ⟨z, hz, hq⟩ hM' ht hP' hS'
    subst hz
    have := hk _ _ (hpost z σ' hq) hM' hA H1 locs1 ls hP' (wl_D hD) hS' hlh vL (fun v hv => by
      rcases List.mem_append.mp hv with h | h
      · exact ht v h
      · exact vS v (List.mem_append_right _ h))
    rw [List.map_append] at this
    exact this
theorem cok_sn {idx n cl sl : Nat} {host : String} (E : EN_ X G own cc nL rty) (hct : CT_ X.2.1 y bytes maxL ret fr lo as rm Pre Post) (hRm : fr + 1 ≤ X.2.2.2.1.frames ∧ 8 + (maxL + 11) + lo ≤ X.2.2.2.1.locals) (hc0 : cl ≤ X.2.2.2.1.cells) (hs0 : sl ≤ X.2.2.2.1.slots) (hG : ∀ q, q ∈ ad → G.2.2.2 q)
    (hy : y.cls ≠ "java/lang/invoke/MethodHandle" ∧ y.cls ≠ "java/lang/invoke/VarHandle" ∧ (parseMethodDescriptor y.desc).map (fun d => d.parameters.length) = some n)
    (has : ∀ a, (as a).length = n)
    (w1 : Cond.methodLinkNest own idx y host ∈ lw_tbl) (w2 : Cond.static y ∈ gl_) (w4 : Cond.initialized y.cls ∈ gl_) (w5 : Cond.code y bytes maxL ret ∈ gl_) :
    COK_ X G Q cl sl ad SHS_ cc nL (2 * idx + 1) n (TR_ as rm Pre Post) := by
  obtain ⟨p, l, e, R, s, m, args, below, meth, code⟩ := X
  obtain ⟨D, tc, cs, A⟩ := G
  intro pc i σ L as0 S k hi hd hlen hcs hL hT hk
  have hi : i = .invokestatic idx := by
    rcases hi with ⟨-, h⟩ | ⟨h, -⟩
    · omega
    · rw [show (2 * idx + 1) / 2 = idx by omega] at h; exact h
  subst hi
  obtain ⟨a, rfl, hpre, hpost⟩ := hT
  intro hM hA H locs ls hP hD hS hlh vL vS
  have va : ∀ v ∈ as a, tv_ SHS_ v := fun v hv => vS v (List.mem_append_left _ (List.mem_reverse.mpr hv))
  have hmet := hct D tc cs ad σ a hA hM va hpre
  refine run_ (va_runSN (As := (as a).map (val_ cs ad)) (rest := S.map (val_ cs ad)) ⟨E.1, E.2.1, E.2.2.1, E.2.2.2.1, E.2.2.2.2.1⟩ hmet ⟨va_cnB (host := host) n E.2.2.2.2.1 ?_ rfl rfl rfl (E.2.2.2.2.2.2.2.2.1 _ w1 rfl) (E.2.2.2.2.1 _ w4) hy hRm, E.2.2.2.2.1 _ w2⟩ ⟨pcb_, fun U hU hW => ?_⟩ rfl (by rw [List.length_map, has]) (hlh.1.trans hL) ?_ ?_ hd ⟨hc0, hs0⟩) hS hG ?_
  · have := gin_ (ws := [Cond.code y bytes maxL ret]) (fun w hw => by
      simp only [List.mem_cons, List.not_mem_nil, or_false] at hw
      subst hw; assumption)
    exact this
  · refine ⟨rfl, by rw [hU]; exact hP, va_K.moved hW.alike E.2.2.2.2.2.1, hD.weaken (fun _ _ _ _ => trivial), XW_warm hW E.2.2.2.2.2.2.2.2.1, XS_move E.2.2.2.2.2.2.2.2.2 hS hU hW hG⟩
  · show List.map (val_ cs ad) ((as a).reverse ++ S) = _
    rw [List.map_append, List.map_reverse]
  · rw [map_cat]
    show 2 * 0 + csum_ S ≤ 8
    omega
  · intro r' σ' H1 locs1 ⟨z, hz, hq⟩ hM' ht hP' hS'
    subst hz
    have := hk _ _ (hpost z σ' hq) hM' hA H1 locs1 ls hP' (wl_D hD) hS' hlh vL (fun v hv => by
      rcases List.mem_append.mp hv with h | h
      · exact ht v h
      · exact vS v (List.mem_append_right _ h))
    rw [List.map_append] at this
    exact this
end COK
def rk_ (ret : Option FieldType) : Nat := match ret with
  | none => 0
  | some .int => 1
  | some .boolean => 2
  | some .long => 3
  | some (.object _) => 4
  | _ => 9
/-- the end of a method, for its contract -/
theorem rok_ {X : Cx_t} {G : Gx_t} {ad : List Nat} {own : String} {cc : ByteArray} {nL : Nat} {ret : Option FieldType} {Rt : List Sv_t → Me_t → Prop} (E : EN_ X G own cc nL ret) (hG : G.2.2.2 = fun q => q ∈ ad) :
    ROK_ X G (MQ X.2.2.2.2.2.2.2.1 (QC_ G.1 G.2.1 G.2.2.1 ad Rt) X.2.2.2.2.2.2.1 X.2.2.2.2.1 0 0 (fun q => q ∈ ad)) 0 0 ad SHS_ cc (rk_ ret) Rt := by
  obtain ⟨p, l, e, R, s, m, args, below, meth, code⟩ := X
  obtain ⟨D, tc, cs, A⟩ := G
  simp only at hG
  subst hG
  intro pc σ L S hcase hRt hM hA H locs ls hP hD hS hlh vL vS
  have hlocks : meth.locks = false := E.2.2.2.2.2.2.2.1
  have hq : ∀ (r : List Sv_t), r = S → r.length ≤ 1 → ∀ t : State, t.heap = H → s.WarmedH t.vm → QC_ D tc cs ad Rt args s (.returned (r.head?.map (val_ cs ad))) t := by
    intro r hr hl t ht hW
    subst hr
    exact ⟨⟨r, σ, rfl, hl, hRt, hM, vS, by rw [ht]; exact hP⟩, hS.F ht⟩
  rcases hcase with ⟨hd, z, rfl, hr⟩ | ⟨hd, hr, z, rfl⟩ | ⟨hd, hr, t, z, rfl⟩ | ⟨hd, hr, rfl⟩
  · have hh := hq [(0, z)] rfl (by simp)
    rcases hr with hr | ⟨hr, h0, h1⟩
    · have : meth.sig.returnType = some .int := by
        have := E.2.2.2.2.2.2.1
        simp only at this
        rw [this]
        unfold rk_ at hr
        split at hr <;> simp_all
      exact W.iret E.1 E.2.1 this hh hS.2.2 hd
    · have : meth.sig.returnType = some .boolean := by
        have := E.2.2.2.2.2.2.1
        simp only at this
        rw [this]
        unfold rk_ at hr
        split at hr <;> simp_all
      have hz : z = 0 ∨ z = 1 := by omega
      refine W.zret E.1 E.2.1 this ?_ hh hS.2.2 hd
      rcases hz with rfl | rfl <;> decide
  · have hh := hq [(1, z)] rfl (by simp)
    have : meth.sig.returnType = some .long := by
      have := E.2.2.2.2.2.2.1
      simp only at this
      rw [this]
      unfold rk_ at hr
      split at hr <;> simp_all
    exact W.lret E.1 E.2.1 this hh hS.2.2 hd
  · have hh := hq [(t + 10, z)] rfl (by simp)
    have : ∃ C, meth.sig.returnType = some (.object C) := by
      have := E.2.2.2.2.2.2.1
      simp only at this
      rw [this]
      unfold rk_ at hr
      split at hr <;> simp_all
    obtain ⟨C, this⟩ := this
    have ez : val_ cs ad (t + 10, z) = .ref (ad.getD z.toNat 0) := val_r (rs_ (vS _ List.mem_cons_self)).1
    refine W.aret E.1 E.2.1 this (Or.inl ⟨C, rfl⟩) (Or.inr ⟨_, ez⟩) hh hS.2.2 hd
  · have hh := hq [] rfl (by simp)
    have : meth.sig.returnType = none := by
      have := E.2.2.2.2.2.2.1
      simp only at this
      rw [this]
      unfold rk_ at hr
      split at hr <;> simp_all
    exact W.vret E.1 E.2.1 this hh hS.2.2 hd
end
section
theorem vcat_ {cs : Nat → Nat} {ad : List Nat} {v : Sv_t} (h : v.1 = 1) : (val_ cs ad v).category = 2 := by rw [val_cat, if_pos h]
theorem lgs_len {cs : Nat → Nat} {ad : List Nat} : ∀ as : List Sv_t, (lg_sl (as.map (val_ cs ad))).length = (as.flatMap fun v => bif v.1 == 1 then [v, ((9 : Nat), (0 : Int))] else [v]).length
  | [] => rfl
  | v :: as => by
    have ih := lgs_len (cs := cs) (ad := ad) as
    unfold lg_sl at ih ⊢
    rw [List.map_cons, List.flatMap_cons, List.flatMap_cons, List.length_append, List.length_append, ih, val_cat]
    by_cases h : v.1 = 1
    · have h2 : (v.1 == 1) = true := by simpa using h
      simp [h]
    · have h2 : (v.1 == 1) = false := by simpa using h
      simp [h, h2]
theorem ent_mem {cs : Nat → Nat} {ad : List Nat} : ∀ (as : List Sv_t) (n : Nat) (j : Nat) (v : Sv_t), (as.flatMap fun v => bif v.1 == 1 then [v, ((9 : Nat), (0 : Int))] else [v])[j]? = some v → v.1 ≠ 9 → (n + j, val_ cs ad v) ∈ lv_args n (as.map (val_ cs ad))
  | [], n, j, v, h, _ => by simp at h
  | w :: as, n, j, v, h, h9 => by
    rw [List.flatMap_cons] at h
    rw [List.map_cons]
    unfold lv_args
    rw [val_cat]
    by_cases hw : w.1 = 1
    · have h2 : (w.1 == 1) = true := by simpa using hw
      rw [h2] at h
      rw [if_pos hw, if_pos rfl]
      match j, h with
      | 0, h =>
        simp at h
        subst h
        exact List.mem_cons_self
      | 1, h =>
        simp at h
        subst h
        exact absurd rfl h9
      | j + 2, h =>
        simp only [cond_true, List.cons_append, List.nil_append, List.getElem?_cons_succ] at h
        have := ent_mem (cs := cs) (ad := ad) as (n + 2) j v h h9
        rw [show n + (j + 2) = n + 2 + j by omega]
        exact List.mem_cons_of_mem _ this
    · have h2 : (w.1 == 1) = false := by simpa using hw
      rw [h2] at h
      rw [if_neg hw, if_neg (by omega)]
      match j, h with
      | 0, h =>
        simp at h
        subst h
        exact List.mem_cons_self
      | j + 1, h =>
        simp only [cond_false, List.cons_append, List.nil_append, List.getElem?_cons_succ] at h
        have := ent_mem (cs := cs) (ad := ad) as (n + 1) j v h h9
        rw [show n + (j + 1) = n + 1 + j by omega]
        exact List.mem_cons_of_mem _ this
theorem ent_tv {shs : List Nat} {as : List Sv_t} {nL : Nat} (h : ∀ v ∈ as, tv_ shs v) : ∀ v ∈ entL_ as nL, tv_ shs v := by
  intro v hv
  unfold entL_ at hv
  rcases List.mem_append.mp hv with hv | hv
  · obtain ⟨w, h1, h2⟩ := List.mem_flatMap.mp hv
    cases hw : (w.1 == 1) with
    | true =>
      rw [hw] at h2
      simp at h2
      rcases h2 with rfl | rfl
      · exact h _ h1
      · trivial
    | false =>
      rw [hw] at h2
      simp at h2
      subst h2
      exact h _ h1
  · have := List.eq_of_mem_replicate hv
    subst this
    trivial
/-- A CONTRACT OUT OF A WALK -/
theorem ct_of {α : Type} {l : Launch} {y : MethodName} {cc : ByteArray} {nL : Nat} {ret : Option FieldType} {fr lo : Nat} {as : α → List Sv_t} {rm : Int → List Sv_t} {Pre : α → Me_t → Prop} {Post : α → Me_t → Int → Me_t → Prop} (hy : plainName y.cls = true) (hln : ∀ a, ((as a).flatMap fun v => bif v.1 == 1 then [v, ((9 : Nat), (0 : Int))] else [v]).length ≤ nL)
    (body : ∀ (X : Cx_t) (G : Gx_t) (Q : State → Prop) (ad : List Nat) (σ : Me_t) (a : α), X.2.1 = l → X.2.2.2.1 = { frames := fr, cells := 0, slots := 0, locals := lo } → EN_ X G y.cls cc nL ret → (∀ q, q ∈ ad → G.2.2.2 q) → ROK_ X G Q 0 0 ad SHS_ cc (rk_ ret) (fun r σ' => ∃ z, r = rm z ∧ Post a σ z σ') → MT_ SHS_ σ → (∀ v ∈ as a, tv_ SHS_ v) → Pre a σ → WP_ X G Q 0 0 ad SHS_ σ 0 (entL_ (as a) nL) []) : CT_ l y cc nL ret fr lo as rm Pre Post := by
  intro D tc cs ad σ a hA hM hv hpre
  refine Met.ofW (cc := cc) (maxL := nL) (ret := ret) hy rfl ?_
  intro p e s m args below meth c s₁ B hml hP
  obtain ⟨rfl, hPP, hK, hD0, hXW, hXS⟩ := hP
  have hts := atoms_spec (ws := .code y cc nL ret :: gl_) B.pre
  have E : EN_ (p, l, e, { frames := fr, cells := 0, slots := 0, locals := lo }, s, m, ((as a).map (val_ cs ad)).toArray, below, meth, c) (D, tc, cs, fun q => q ∈ ad) y.cls cc nL ret :=
    ⟨B.exec, B.bytes, hml, findClass_of_methodNamed B.named, fun w hw => hts w (List.mem_cons_of_mem _ hw), hK, B.returns, B.notSynchronized, hXW, hXS⟩
  have hD : va_D (fun q => q ∈ ad) (wl_ cs tc ad SHS_ σ) := ⟨hD0.1, fun k q hk => wl_in hA hk⟩
  have b := body _ _ _ ad σ a rfl rfl E (fun _ h => h) (rok_ E rfl) hM hv hpre hM hA s.heap [] ((lg_sl ((as a).map (val_ cs ad)) ++ List.replicate (nL - (lg_sl ((as a).map (val_ cs ad))).length) Slot.unset).toArray) hPP hD va_S.rf ?_ (ent_tv hv) (fun v h => by simp at h)
  · rw [lg_entry_eq]
    exact b
  · have h1 := lv_entry ((as a).map (val_ cs ad)) (n := nL) (by rw [lgs_len]; exact hln a)
    refine lh_of h1 ?_ ?_
    · unfold entL_
      have := hln a
      simp only [List.length_append, List.length_replicate]
      omega
    · intro j v hj h9
      unfold entL_ at hj
      by_cases hlt : j < ((as a).flatMap fun v => bif v.1 == 1 then [v, ((9 : Nat), (0 : Int))] else [v]).length
      · rw [List.getElem?_append_left hlt] at hj
        have := ent_mem (cs := cs) (ad := ad) (as a) 0 j v hj h9
        rw [Nat.zero_add] at this
        exact this
      · rw [List.getElem?_append_right (by omega)] at hj
        have := List.eq_of_mem_replicate (List.mem_of_getElem? hj)
        subst this
        exact absurd rfl h9
end
section
set_option maxRecDepth 1000000 in
theorem oX0_init : ck_ knX0 kX0_init = true := by decide +kernel
set_option maxRecDepth 1000000 in
theorem oX0_forgetAll : ck_ knX0 kX0_forgetAll = true := by decide +kernel
set_option maxRecDepth 1000000 in
theorem oX0_forgetReasons : ck_ knX0 kX0_forgetReasons = true := by decide +kernel
set_option maxRecDepth 1000000 in
theorem oX0_bringUpToDate : ck_ knX0 kX0_bringUpToDate = true := by decide +kernel
set_option maxRecDepth 1000000 in
theorem oX0_fillDates : ck_ knX0 kX0_fillDates = true := by decide +kernel
set_option maxRecDepth 1000000 in
theorem oX0_fillReasons : ck_ knX0 kX0_fillReasons = true := by decide +kernel
set_option maxRecDepth 1000000 in
theorem oX0_markFeast : ck_ knX0 kX0_markFeast = true := by decide +kernel
set_option maxRecDepth 1000000 in
theorem oX0_markReason : ck_ knX0 kX0_markReason = true := by decide +kernel
set_option maxRecDepth 1000000 in
theorem oX0_fillFighters : ck_ knX0 kX0_fillFighters = true := by decide +kernel
set_option maxRecDepth 1000000 in
theorem oX0_reason : ck_ knX0 kX0_reason = true := by decide +kernel
set_option maxRecDepth 1000000 in
theorem oX0_part : ck_ knX0 kX0_part = true := by decide +kernel
set_option maxRecDepth 1000000 in
theorem oX0_monthDay : ck_ knX0 kX0_monthDay = true := by decide +kernel
set_option maxRecDepth 1000000 in
theorem oX0_allFight : ck_ knX0 kX0_allFight = true := by decide +kernel
set_option maxRecDepth 1000000 in
theorem oX0_fightingDays : ck_ knX0 kX0_fightingDays = true := by decide +kernel
set_option maxRecDepth 1000000 in
theorem oX0_seekWait : ck_ knX0 kX0_seekWait = true := by decide +kernel
set_option maxRecDepth 1000000 in
theorem oX0_ageBy : ck_ knX0 kX0_ageBy = true := by decide +kernel
set_option maxRecDepth 1000000 in
theorem oX0_clashDay : ck_ knX0 kX0_clashDay = true := by decide +kernel
set_option maxRecDepth 1000000 in
theorem oX0_aloneOn : ck_ knX0 kX0_aloneOn = true := by decide +kernel
set_option maxRecDepth 1000000 in
theorem oX0_daysAlone : ck_ knX0 kX0_daysAlone = true := by decide +kernel
set_option maxRecDepth 1000000 in
theorem oX0_seekBeginning : ck_ knX0 kX0_seekBeginning = true := by decide +kernel
set_option maxRecDepth 1000000 in
theorem oX1_init : ck_ knX1 kX1_init = true := by decide +kernel
set_option maxRecDepth 1000000 in
theorem oX1_clear : ck_ knX1 kX1_clear = true := by decide +kernel
set_option maxRecDepth 1000000 in
theorem oX1_copyOf : ck_ knX1 kX1_copyOf = true := by decide +kernel
set_option maxRecDepth 1000000 in
theorem oX1_appendMonth : ck_ knX1 kX1_appendMonth = true := by decide +kernel
set_option maxRecDepth 1000000 in
theorem oX1_hasWeekday : ck_ knX1 kX1_hasWeekday = true := by decide +kernel
set_option maxRecDepth 1000000 in
theorem oX1_isLeapYear : ck_ knX1 kX1_isLeapYear = true := by decide +kernel
set_option maxRecDepth 1000000 in
theorem oX1_lengthIn : ck_ knX1 kX1_lengthIn = true := by decide +kernel
set_option maxRecDepth 1000000 in
theorem oX1_leapCycle : ck_ knX1 kX1_leapCycle = true := by decide +kernel
set_option maxRecDepth 1000000 in
theorem oX1_dayOn : ck_ knX1 kX1_dayOn = true := by decide +kernel
set_option maxRecDepth 1000000 in
theorem oX2_init : ck_ knX2 kX2_init = true := by decide +kernel
set_option maxRecDepth 1000000 in
theorem oX2_read : ck_ knX2 kX2_read = true := by decide +kernel
set_option maxRecDepth 1000000 in
theorem oX2_placeOfOldest : ck_ knX2 kX2_placeOfOldest = true := by decide +kernel
set_option maxRecDepth 1000000 in
theorem oX2_earlierThan : ck_ knX2 kX2_earlierThan = true := by decide +kernel
set_option maxRecDepth 1000000 in
theorem oX2_daysApart : ck_ knX2 kX2_daysApart = true := by decide +kernel
set_option maxRecDepth 1000000 in
theorem oX2_datedAtRest : ck_ knX2 kX2_datedAtRest = true := by decide +kernel
set_option maxRecDepth 1000000 in
theorem oX3_init : ck_ knX3 kX3_init = true := by decide +kernel
set_option maxRecDepth 1000000 in
theorem oX3_read : ck_ knX3 kX3_read = true := by decide +kernel
set_option maxRecDepth 1000000 in
theorem oX3_readLine : ck_ knX3 kX3_readLine = true := by decide +kernel
set_option maxRecDepth 1000000 in
theorem oX3_startLine : ck_ knX3 kX3_startLine = true := by decide +kernel
set_option maxRecDepth 1000000 in
theorem oX3_readRain : ck_ knX3 kX3_readRain = true := by decide +kernel
set_option maxRecDepth 1000000 in
theorem oX3_readLand : ck_ knX3 kX3_readLand = true := by decide +kernel
set_option maxRecDepth 1000000 in
theorem oX3_readMonths : ck_ knX3 kX3_readMonths = true := by decide +kernel
set_option maxRecDepth 1000000 in
theorem oX3_readFeast : ck_ knX3 kX3_readFeast = true := by decide +kernel
set_option maxRecDepth 1000000 in
theorem oX3_readTruce : ck_ knX3 kX3_readTruce = true := by decide +kernel
set_option maxRecDepth 1000000 in
theorem oX3_needWord : ck_ knX3 kX3_needWord = true := by decide +kernel
set_option maxRecDepth 1000000 in
theorem oX3_needNumber : ck_ knX3 kX3_needNumber = true := by decide +kernel
set_option maxRecDepth 1000000 in
theorem oX3_refuse : ck_ knX3 kX3_refuse = true := by decide +kernel
set_option maxRecDepth 1000000 in
theorem oX3_isWord : ck_ knX3 kX3_isWord = true := by decide +kernel
set_option maxRecDepth 1000000 in
theorem oX3_step : ck_ knX3 kX3_step = true := by decide +kernel
set_option maxRecDepth 1000000 in
theorem oX4_init : ck_ knX4 kX4_init = true := by decide +kernel
set_option maxRecDepth 1000000 in
theorem oX4_renew : ck_ knX4 kX4_renew = true := by decide +kernel
set_option maxRecDepth 1000000 in
theorem oX4_cut : ck_ knX4 kX4_cut = true := by decide +kernel
set_option maxRecDepth 1000000 in
theorem oX4_hasStretch : ck_ knX4 kX4_hasStretch = true := by decide +kernel
set_option maxRecDepth 1000000 in
theorem oX4_areSmall : ck_ knX4 kX4_areSmall = true := by decide +kernel
set_option maxRecDepth 1000000 in
theorem oX5_init : ck_ knX5 kX5_init = true := by decide +kernel
set_option maxRecDepth 1000000 in
theorem oX5_seek : ck_ knX5 kX5_seek = true := by decide +kernel
set_option maxRecDepth 1000000 in
theorem oX5_openDays : ck_ knX5 kX5_openDays = true := by decide +kernel
set_option maxRecDepth 1000000 in
theorem oX5_cover : ck_ knX5 kX5_cover = true := by decide +kernel
set_option maxRecDepth 1000000 in
theorem oX6_init : ck_ knX6 kX6_init = true := by decide +kernel
set_option maxRecDepth 1000000 in
theorem oX6_isTold : ck_ knX6 kX6_isTold = true := by decide +kernel
set_option maxRecDepth 1000000 in
theorem oX6_gather : ck_ knX6 kX6_gather = true := by decide +kernel
set_option maxRecDepth 1000000 in
theorem oX6_fitsAll : ck_ knX6 kX6_fitsAll = true := by decide +kernel
set_option maxRecDepth 1000000 in
theorem oX6_fightersOnAll : ck_ knX6 kX6_fightersOnAll = true := by decide +kernel
set_option maxRecDepth 1000000 in
theorem oX6_fightersOnSome : ck_ knX6 kX6_fightersOnSome = true := by decide +kernel
set_option maxRecDepth 1000000 in
theorem oX6_seekQuestion : ck_ knX6 kX6_seekQuestion = true := by decide +kernel
set_option maxRecDepth 1000000 in
theorem oX6_tryQuestion : ck_ knX6 kX6_tryQuestion = true := by decide +kernel
set_option maxRecDepth 1000000 in
theorem oX7_init : ck_ knX7 kX7_init = true := by decide +kernel
set_option maxRecDepth 1000000 in
theorem oX7_play : ck_ knX7 kX7_play = true := by decide +kernel
set_option maxRecDepth 1000000 in
theorem oX7_listTurns : ck_ knX7 kX7_listTurns = true := by decide +kernel
set_option maxRecDepth 1000000 in
theorem oX7_bestTake : ck_ knX7 kX7_bestTake = true := by decide +kernel
set_option maxRecDepth 1000000 in
theorem oX7_worth : ck_ knX7 kX7_worth = true := by decide +kernel
set_option maxRecDepth 1000000 in
theorem oX7_winnerOf : ck_ knX7 kX7_winnerOf = true := by decide +kernel
set_option maxRecDepth 1000000 in
theorem oX8_init : ck_ knX8 kX8_init = true := by decide +kernel
set_option maxRecDepth 1000000 in
theorem oX8_append : ck_ knX8 kX8_append = true := by decide +kernel
set_option maxRecDepth 1000000 in
theorem oX9_init : ck_ knX9 kX9_init = true := by decide +kernel
set_option maxRecDepth 1000000 in
theorem oX9_clear : ck_ knX9 kX9_clear = true := by decide +kernel
set_option maxRecDepth 1000000 in
theorem oX9_copyOf : ck_ knX9 kX9_copyOf = true := by decide +kernel
set_option maxRecDepth 1000000 in
theorem oX9_hasLand : ck_ knX9 kX9_hasLand = true := by decide +kernel
set_option maxRecDepth 1000000 in
theorem oX9_hasMonth : ck_ knX9 kX9_hasMonth = true := by decide +kernel
set_option maxRecDepth 1000000 in
theorem oX9_hasPlainDate : ck_ knX9 kX9_hasPlainDate = true := by decide +kernel
set_option maxRecDepth 1000000 in
theorem oX9_dayOfDate : ck_ knX9 kX9_dayOfDate = true := by decide +kernel
set_option maxRecDepth 1000000 in
theorem oX9_insertFeast : ck_ knX9 kX9_insertFeast = true := by decide +kernel
set_option maxRecDepth 1000000 in
theorem oX9_removeFeast : ck_ knX9 kX9_removeFeast = true := by decide +kernel
set_option maxRecDepth 1000000 in
theorem oX9_latestFeastOf : ck_ knX9 kX9_latestFeastOf = true := by decide +kernel
set_option maxRecDepth 1000000 in
theorem oX9_appendTruce : ck_ knX9 kX9_appendTruce = true := by decide +kernel
set_option maxRecDepth 1000000 in
theorem oX9_trucesOn : ck_ knX9 kX9_trucesOn = true := by decide +kernel
set_option maxRecDepth 1000000 in
theorem oX9_noteFounded : ck_ knX9 kX9_noteFounded = true := by decide +kernel
set_option maxRecDepth 1000000 in
theorem oX9_noteGranted : ck_ knX9 kX9_noteGranted = true := by decide +kernel
set_option maxRecDepth 1000000 in
theorem oX9_noteEnded : ck_ knX9 kX9_noteEnded = true := by decide +kernel
set_option maxRecDepth 1000000 in
theorem oX9_noteChange : ck_ knX9 kX9_noteChange = true := by decide +kernel
set_option maxRecDepth 1000000 in
theorem oX9_takeBackLatest : ck_ knX9 kX9_takeBackLatest = true := by decide +kernel
set_option maxRecDepth 1000000 in
theorem oX10_init : ck_ knX10 kX10_init = true := by decide +kernel
set_option maxRecDepth 1000000 in
theorem oX10_feed : ck_ knX10 kX10_feed = true := by decide +kernel
set_option maxRecDepth 1000000 in
theorem oX10_end : ck_ knX10 kX10_end = true := by decide +kernel
set_option maxRecDepth 1000000 in
theorem oX10_war : ck_ knX10 kX10_war = true := by decide +kernel
set_option maxRecDepth 1000000 in
theorem oX10_fault : ck_ knX10 kX10_fault = true := by decide +kernel
set_option maxRecDepth 1000000 in
theorem oX10_land : ck_ knX10 kX10_land = true := by decide +kernel
set_option maxRecDepth 1000000 in
theorem oX10_month : ck_ knX10 kX10_month = true := by decide +kernel
set_option maxRecDepth 1000000 in
theorem oX10_feast : ck_ knX10 kX10_feast = true := by decide +kernel
set_option maxRecDepth 1000000 in
theorem oX10_truce : ck_ knX10 kX10_truce = true := by decide +kernel
set_option maxRecDepth 1000000 in
theorem oX10_date : ck_ knX10 kX10_date = true := by decide +kernel
set_option maxRecDepth 1000000 in
theorem oX10_day : ck_ knX10 kX10_day = true := by decide +kernel
set_option maxRecDepth 1000000 in
theorem oX10_may : ck_ knX10 kX10_may = true := by decide +kernel
set_option maxRecDepth 1000000 in
theorem oX10_why : ck_ knX10 kX10_why = true := by decide +kernel
set_option maxRecDepth 1000000 in
theorem oX10_who : ck_ knX10 kX10_who = true := by decide +kernel
set_option maxRecDepth 1000000 in
theorem oX10_next : ck_ knX10 kX10_next = true := by decide +kernel
set_option maxRecDepth 1000000 in
theorem oX10_many : ck_ knX10 kX10_many = true := by decide +kernel
set_option maxRecDepth 1000000 in
theorem oX10_waits : ck_ knX10 kX10_waits = true := by decide +kernel
set_option maxRecDepth 1000000 in
theorem oX10_waiting : ck_ knX10 kX10_waiting = true := by decide +kernel
set_option maxRecDepth 1000000 in
theorem oX10_share : ck_ knX10 kX10_share = true := by decide +kernel
set_option maxRecDepth 1000000 in
theorem oX10_meets : ck_ knX10 kX10_meets = true := by decide +kernel
set_option maxRecDepth 1000000 in
theorem oX10_period : ck_ knX10 kX10_period = true := by decide +kernel
set_option maxRecDepth 1000000 in
theorem oX10_alike : ck_ knX10 kX10_alike = true := by decide +kernel
set_option maxRecDepth 1000000 in
theorem oX10_years : ck_ knX10 kX10_years = true := by decide +kernel
set_option maxRecDepth 1000000 in
theorem oX10_comes : ck_ knX10 kX10_comes = true := by decide +kernel
set_option maxRecDepth 1000000 in
theorem oX10_saints : ck_ knX10 kX10_saints = true := by decide +kernel
set_option maxRecDepth 1000000 in
theorem oX10_founded : ck_ knX10 kX10_founded = true := by decide +kernel
set_option maxRecDepth 1000000 in
theorem oX10_bridge : ck_ knX10 kX10_bridge = true := by decide +kernel
set_option maxRecDepth 1000000 in
theorem oX10_bridged : ck_ knX10 kX10_bridged = true := by decide +kernel
set_option maxRecDepth 1000000 in
theorem oX10_oldest : ck_ knX10 kX10_oldest = true := by decide +kernel
set_option maxRecDepth 1000000 in
theorem oX10_older : ck_ knX10 kX10_older = true := by decide +kernel
set_option maxRecDepth 1000000 in
theorem oX10_apart : ck_ knX10 kX10_apart = true := by decide +kernel
set_option maxRecDepth 1000000 in
theorem oX10_idle : ck_ knX10 kX10_idle = true := by decide +kernel
set_option maxRecDepth 1000000 in
theorem oX10_fits : ck_ knX10 kX10_fits = true := by decide +kernel
set_option maxRecDepth 1000000 in
theorem oX10_fit : ck_ knX10 kX10_fit = true := by decide +kernel
set_option maxRecDepth 1000000 in
theorem oX10_sure : ck_ knX10 kX10_sure = true := by decide +kernel
set_option maxRecDepth 1000000 in
theorem oX10_ask : ck_ knX10 kX10_ask = true := by decide +kernel
set_option maxRecDepth 1000000 in
theorem oX10_leaves : ck_ knX10 kX10_leaves = true := by decide +kernel
set_option maxRecDepth 1000000 in
theorem oX10_holds : ck_ knX10 kX10_holds = true := by decide +kernel
set_option maxRecDepth 1000000 in
theorem oX10_overlap : ck_ knX10 kX10_overlap = true := by decide +kernel
set_option maxRecDepth 1000000 in
theorem oX10_most : ck_ knX10 kX10_most = true := by decide +kernel
set_option maxRecDepth 1000000 in
theorem oX10_age : ck_ knX10 kX10_age = true := by decide +kernel
set_option maxRecDepth 1000000 in
theorem oX10_gains : ck_ knX10 kX10_gains = true := by decide +kernel
set_option maxRecDepth 1000000 in
theorem oX10_march : ck_ knX10 kX10_march = true := by decide +kernel
set_option maxRecDepth 1000000 in
theorem oX10_clash : ck_ knX10 kX10_clash = true := by decide +kernel
set_option maxRecDepth 1000000 in
theorem oX10_place : ck_ knX10 kX10_place = true := by decide +kernel
set_option maxRecDepth 1000000 in
theorem oX10_alone : ck_ knX10 kX10_alone = true := by decide +kernel
set_option maxRecDepth 1000000 in
theorem oX10_begin : ck_ knX10 kX10_begin = true := by decide +kernel
set_option maxRecDepth 1000000 in
theorem oX10_begins : ck_ knX10 kX10_begins = true := by decide +kernel
set_option maxRecDepth 1000000 in
theorem oX10_game : ck_ knX10 kX10_game = true := by decide +kernel
set_option maxRecDepth 1000000 in
theorem oX10_takes : ck_ knX10 kX10_takes = true := by decide +kernel
set_option maxRecDepth 1000000 in
theorem oX10_found : ck_ knX10 kX10_found = true := by decide +kernel
set_option maxRecDepth 1000000 in
theorem oX10_grant : ck_ knX10 kX10_grant = true := by decide +kernel
set_option maxRecDepth 1000000 in
theorem oX10_ends : ck_ knX10 kX10_ends = true := by decide +kernel
set_option maxRecDepth 1000000 in
theorem oX10_undo : ck_ knX10 kX10_undo = true := by decide +kernel
set_option maxRecDepth 1000000 in
theorem oX10_drawn : ck_ knX10 kX10_drawn = true := by decide +kernel
set_option maxRecDepth 1000000 in
theorem oX10_luck : ck_ knX10 kX10_luck = true := by decide +kernel
set_option maxRecDepth 1000000 in
theorem oX10_count : ck_ knX10 kX10_count = true := by decide +kernel
set_option maxRecDepth 1000000 in
theorem oX10_image : ck_ knX10 kX10_image = true := by decide +kernel
set_option maxRecDepth 1000000 in
theorem oX10_back : ck_ knX10 kX10_back = true := by decide +kernel
set_option maxRecDepth 1000000 in
theorem oX10_row : ck_ knX10 kX10_row = true := by decide +kernel
set_option maxRecDepth 1000000 in
theorem oX10_write : ck_ knX10 kX10_write = true := by decide +kernel
set_option maxRecDepth 1000000 in
theorem oX10_paste : ck_ knX10 kX10_paste = true := by decide +kernel
set_option maxRecDepth 1000000 in
theorem oX10_isDay : ck_ knX10 kX10_isDay = true := by decide +kernel
set_option maxRecDepth 1000000 in
theorem oX10_isYear : ck_ knX10 kX10_isYear = true := by decide +kernel
set_option maxRecDepth 1000000 in
theorem oX10_isSpan : ck_ knX10 kX10_isSpan = true := by decide +kernel
set_option maxRecDepth 1000000 in
theorem oX10_isSlot : ck_ knX10 kX10_isSlot = true := by decide +kernel
set_option maxRecDepth 1000000 in
theorem oX10_isRain : ck_ knX10 kX10_isRain = true := by decide +kernel
set_option maxRecDepth 1000000 in
theorem oX10_isDayOfWar : ck_ knX10 kX10_isDayOfWar = true := by decide +kernel
set_option maxRecDepth 1000000 in
theorem oX10_isLandAndDay : ck_ knX10 kX10_isLandAndDay = true := by decide +kernel
set_option maxRecDepth 1000000 in
theorem oX10_isPair : ck_ knX10 kX10_isPair = true := by decide +kernel
set_option maxRecDepth 1000000 in
theorem oX10_isPairAndDay : ck_ knX10 kX10_isPairAndDay = true := by decide +kernel
set_option maxRecDepth 1000000 in
theorem oX10_isSetInSpan : ck_ knX10 kX10_isSetInSpan = true := by decide +kernel
set_option maxRecDepth 1000000 in
theorem oX10_isSaintly : ck_ knX10 kX10_isSaintly = true := by decide +kernel
set_option maxRecDepth 1000000 in
theorem oX10_commonDivisor : ck_ knX10 kX10_commonDivisor = true := by decide +kernel
set_option maxRecDepth 1000000 in
theorem oX10_nextDraw : ck_ knX10 kX10_nextDraw = true := by decide +kernel
set_option maxRecDepth 1000000 in
theorem oX10_isWet : ck_ knX10 kX10_isWet = true := by decide +kernel
set_option maxRecDepth 1000000 in
theorem oX10_fightsInRain : ck_ knX10 kX10_fightsInRain = true := by decide +kernel
set_option maxRecDepth 1000000 in
theorem oX10_told : ck_ knX10 kX10_told = true := by decide +kernel
set_option maxRecDepth 1000000 in
theorem oX10_slotsWithRow : ck_ knX10 kX10_slotsWithRow = true := by decide +kernel
set_option maxRecDepth 1000000 in
theorem oX10_readOrders : ck_ knX10 kX10_readOrders = true := by decide +kernel
set_option maxRecDepth 1000000 in
theorem oX10_readSights : ck_ knX10 kX10_readSights = true := by decide +kernel
set_option maxRecDepth 1000000 in
theorem oX11_init : ck_ knX11 kX11_init = true := by decide +kernel
set_option maxRecDepth 1000000 in
theorem oX11_in : ck_ knX11 kX11_in = true := by decide +kernel
set_option maxRecDepth 1000000 in
theorem oX11_bit : ck_ knX11 kX11_bit = true := by decide +kernel
set_option maxRecDepth 1000000 in
theorem oX11_image : ck_ knX11 kX11_image = true := by decide +kernel
set_option maxRecDepth 1000000 in
theorem oX11_back : ck_ knX11 kX11_back = true := by decide +kernel
set_option maxRecDepth 1000000 in
theorem oX11_isWar : ck_ knX11 kX11_isWar = true := by decide +kernel
set_option maxRecDepth 1000000 in
theorem oX11_isLand : ck_ knX11 kX11_isLand = true := by decide +kernel
set_option maxRecDepth 1000000 in
theorem oX11_areTwo : ck_ knX11 kX11_areTwo = true := by decide +kernel
set_option maxRecDepth 1000000 in
theorem oX11_isDay : ck_ knX11 kX11_isDay = true := by decide +kernel
set_option maxRecDepth 1000000 in
theorem oX11_isYear : ck_ knX11 kX11_isYear = true := by decide +kernel
set_option maxRecDepth 1000000 in
theorem oX11_isSpan : ck_ knX11 kX11_isSpan = true := by decide +kernel
set_option maxRecDepth 1000000 in
theorem oX11_allLands : ck_ knX11 kX11_allLands = true := by decide +kernel
set_option maxRecDepth 1000000 in
theorem oX11_isSet : ck_ knX11 kX11_isSet = true := by decide +kernel
set_option maxRecDepth 1000000 in
theorem oX11_of : ck_ knX11 kX11_of = true := by decide +kernel
set_option maxRecDepth 1000000 in
theorem oX11_isMonth : ck_ knX11 kX11_isMonth = true := by decide +kernel
set_option maxRecDepth 1000000 in
theorem oX11_lengthOf : ck_ knX11 kX11_lengthOf = true := by decide +kernel
set_option maxRecDepth 1000000 in
theorem oX11_yearLength : ck_ knX11 kX11_yearLength = true := by decide +kernel
set_option maxRecDepth 1000000 in
theorem oX11_ofFeast : ck_ knX11 kX11_ofFeast = true := by decide +kernel
set_option maxRecDepth 1000000 in
theorem oX11_ofTruce : ck_ knX11 kX11_ofTruce = true := by decide +kernel
set_option maxRecDepth 1000000 in
theorem oX11_feed : ck_ knX11 kX11_feed = true := by decide +kernel
set_option maxRecDepth 1000000 in
theorem oX11_end : ck_ knX11 kX11_end = true := by decide +kernel
set_option maxRecDepth 1000000 in
theorem oX11_see : ck_ knX11 kX11_see = true := by decide +kernel
set_option maxRecDepth 1000000 in
theorem oX11_advance : ck_ knX11 kX11_advance = true := by decide +kernel
set_option maxRecDepth 1000000 in
theorem oX11_good : ck_ knX11 kX11_good = true := by decide +kernel
set_option maxRecDepth 1000000 in
theorem oX11_errs : ck_ knX11 kX11_errs = true := by decide +kernel
set_option maxRecDepth 1000000 in
theorem oX11_is : ck_ knX11 kX11_is = true := by decide +kernel
set_option maxRecDepth 1000000 in
theorem oX11_takes : ck_ knX11 kX11_takes = true := by decide +kernel
set_option maxRecDepth 1000000 in
theorem oX11_needs : ck_ knX11 kX11_needs = true := by decide +kernel
set_option maxRecDepth 1000000 in
theorem oX11_number : ck_ knX11 kX11_number = true := by decide +kernel
set_option maxRecDepth 1000000 in
theorem oX11_told : ck_ knX11 kX11_told = true := by decide +kernel
set_option maxRecDepth 1000000 in
theorem oX11_fault : ck_ knX11 kX11_fault = true := by decide +kernel
set_option maxRecDepth 1000000 in
theorem oX11_readMonths : ck_ knX11 kX11_readMonths = true := by decide +kernel
set_option maxRecDepth 1000000 in
theorem oX11_readLand : ck_ knX11 kX11_readLand = true := by decide +kernel
set_option maxRecDepth 1000000 in
theorem oX11_freshLand : ck_ knX11 kX11_freshLand = true := by decide +kernel
set_option maxRecDepth 1000000 in
theorem oX11_readFeast : ck_ knX11 kX11_readFeast = true := by decide +kernel
set_option maxRecDepth 1000000 in
theorem oX11_readTruce : ck_ knX11 kX11_readTruce = true := by decide +kernel
set_option maxRecDepth 1000000 in
theorem oX11_readNext : ck_ knX11 kX11_readNext = true := by decide +kernel
set_option maxRecDepth 1000000 in
theorem oX11_readLine : ck_ knX11 kX11_readLine = true := by decide +kernel
set_option maxRecDepth 1000000 in
theorem oX11_war : ck_ knX11 kX11_war = true := by decide +kernel
set_option maxRecDepth 1000000 in
theorem oX11_spot : ck_ knX11 kX11_spot = true := by decide +kernel
set_option maxRecDepth 1000000 in
theorem oX11_layDates : ck_ knX11 kX11_layDates = true := by decide +kernel
set_option maxRecDepth 1000000 in
theorem oX11_weekday : ck_ knX11 kX11_weekday = true := by decide +kernel
set_option maxRecDepth 1000000 in
theorem oX11_layWhy : ck_ knX11 kX11_layWhy = true := by decide +kernel
set_option maxRecDepth 1000000 in
theorem oX11_lay : ck_ knX11 kX11_lay = true := by decide +kernel
set_option maxRecDepth 1000000 in
theorem oX11_mayOn : ck_ knX11 kX11_mayOn = true := by decide +kernel
set_option maxRecDepth 1000000 in
theorem oX11_whoOn : ck_ knX11 kX11_whoOn = true := by decide +kernel
set_option maxRecDepth 1000000 in
theorem oX11_land : ck_ knX11 kX11_land = true := by decide +kernel
set_option maxRecDepth 1000000 in
theorem oX11_month : ck_ knX11 kX11_month = true := by decide +kernel
set_option maxRecDepth 1000000 in
theorem oX11_feast : ck_ knX11 kX11_feast = true := by decide +kernel
set_option maxRecDepth 1000000 in
theorem oX11_truce : ck_ knX11 kX11_truce = true := by decide +kernel
set_option maxRecDepth 1000000 in
theorem oX11_dateOf : ck_ knX11 kX11_dateOf = true := by decide +kernel
set_option maxRecDepth 1000000 in
theorem oX11_date : ck_ knX11 kX11_date = true := by decide +kernel
set_option maxRecDepth 1000000 in
theorem oX11_isDate : ck_ knX11 kX11_isDate = true := by decide +kernel
set_option maxRecDepth 1000000 in
theorem oX11_dayBy : ck_ knX11 kX11_dayBy = true := by decide +kernel
set_option maxRecDepth 1000000 in
theorem oX11_day : ck_ knX11 kX11_day = true := by decide +kernel
set_option maxRecDepth 1000000 in
theorem oX11_may : ck_ knX11 kX11_may = true := by decide +kernel
set_option maxRecDepth 1000000 in
theorem oX11_why : ck_ knX11 kX11_why = true := by decide +kernel
set_option maxRecDepth 1000000 in
theorem oX11_who : ck_ knX11 kX11_who = true := by decide +kernel
set_option maxRecDepth 1000000 in
theorem oX11_mayAll : ck_ knX11 kX11_mayAll = true := by decide +kernel
set_option maxRecDepth 1000000 in
theorem oX11_next : ck_ knX11 kX11_next = true := by decide +kernel
set_option maxRecDepth 1000000 in
theorem oX11_manyOf : ck_ knX11 kX11_manyOf = true := by decide +kernel
set_option maxRecDepth 1000000 in
theorem oX11_many : ck_ knX11 kX11_many = true := by decide +kernel
set_option maxRecDepth 1000000 in
theorem oX11_findWait : ck_ knX11 kX11_findWait = true := by decide +kernel
set_option maxRecDepth 1000000 in
theorem oX11_waits : ck_ knX11 kX11_waits = true := by decide +kernel
set_option maxRecDepth 1000000 in
theorem oX11_waiting : ck_ knX11 kX11_waiting = true := by decide +kernel
set_option maxRecDepth 1000000 in
theorem oX11_divisor : ck_ knX11 kX11_divisor = true := by decide +kernel
set_option maxRecDepth 1000000 in
theorem oX11_share : ck_ knX11 kX11_share = true := by decide +kernel
set_option maxRecDepth 1000000 in
theorem oX11_isWeekday : ck_ knX11 kX11_isWeekday = true := by decide +kernel
set_option maxRecDepth 1000000 in
theorem oX11_meets : ck_ knX11 kX11_meets = true := by decide +kernel
set_option maxRecDepth 1000000 in
theorem oX11_period : ck_ knX11 kX11_period = true := by decide +kernel
set_option maxRecDepth 1000000 in
theorem oX11_isCounted : ck_ knX11 kX11_isCounted = true := by decide +kernel
set_option maxRecDepth 1000000 in
theorem oX11_alike : ck_ knX11 kX11_alike = true := by decide +kernel
set_option maxRecDepth 1000000 in
theorem oX11_years : ck_ knX11 kX11_years = true := by decide +kernel
set_option maxRecDepth 1000000 in
theorem oX11_comes : ck_ knX11 kX11_comes = true := by decide +kernel
set_option maxRecDepth 1000000 in
theorem oX11_findSaints : ck_ knX11 kX11_findSaints = true := by decide +kernel
set_option maxRecDepth 1000000 in
theorem oX11_areSaints : ck_ knX11 kX11_areSaints = true := by decide +kernel
set_option maxRecDepth 1000000 in
theorem oX11_saints : ck_ knX11 kX11_saints = true := by decide +kernel
set_option maxRecDepth 1000000 in
theorem oX11_founded : ck_ knX11 kX11_founded = true := by decide +kernel
set_option maxRecDepth 1000000 in
theorem oX11_findBridge : ck_ knX11 kX11_findBridge = true := by decide +kernel
set_option maxRecDepth 1000000 in
theorem oX11_bridge : ck_ knX11 kX11_bridge = true := by decide +kernel
set_option maxRecDepth 1000000 in
theorem oX11_bridged : ck_ knX11 kX11_bridged = true := by decide +kernel
set_option maxRecDepth 1000000 in
theorem oX11_numberAt : ck_ knX11 kX11_numberAt = true := by decide +kernel
set_option maxRecDepth 1000000 in
theorem oX11_intAt : ck_ knX11 kX11_intAt = true := by decide +kernel
set_option maxRecDepth 1000000 in
theorem oX11_dayAt : ck_ knX11 kX11_dayAt = true := by decide +kernel
set_option maxRecDepth 1000000 in
theorem oX11_asksOrders : ck_ knX11 kX11_asksOrders = true := by decide +kernel
set_option maxRecDepth 1000000 in
theorem oX11_oldest : ck_ knX11 kX11_oldest = true := by decide +kernel
set_option maxRecDepth 1000000 in
theorem oX11_older : ck_ knX11 kX11_older = true := by decide +kernel
set_option maxRecDepth 1000000 in
theorem oX11_apart : ck_ knX11 kX11_apart = true := by decide +kernel
set_option maxRecDepth 1000000 in
theorem oX11_idle : ck_ knX11 kX11_idle = true := by decide +kernel
set_option maxRecDepth 1000000 in
theorem oX11_asksSeen : ck_ knX11 kX11_asksSeen = true := by decide +kernel
set_option maxRecDepth 1000000 in
theorem oX11_seen : ck_ knX11 kX11_seen = true := by decide +kernel
set_option maxRecDepth 1000000 in
theorem oX11_isSeen : ck_ knX11 kX11_isSeen = true := by decide +kernel
set_option maxRecDepth 1000000 in
theorem oX11_fitsOf : ck_ knX11 kX11_fitsOf = true := by decide +kernel
set_option maxRecDepth 1000000 in
theorem oX11_fits : ck_ knX11 kX11_fits = true := by decide +kernel
set_option maxRecDepth 1000000 in
theorem oX11_fit : ck_ knX11 kX11_fit = true := by decide +kernel
set_option maxRecDepth 1000000 in
theorem oX11_sure : ck_ knX11 kX11_sure = true := by decide +kernel
set_option maxRecDepth 1000000 in
theorem oX11_worstOf : ck_ knX11 kX11_worstOf = true := by decide +kernel
set_option maxRecDepth 1000000 in
theorem oX11_askOf : ck_ knX11 kX11_askOf = true := by decide +kernel
set_option maxRecDepth 1000000 in
theorem oX11_ask : ck_ knX11 kX11_ask = true := by decide +kernel
set_option maxRecDepth 1000000 in
theorem oX11_leaves : ck_ knX11 kX11_leaves = true := by decide +kernel
set_option maxRecDepth 1000000 in
theorem oX11_holdOn : ck_ knX11 kX11_holdOn = true := by decide +kernel
set_option maxRecDepth 1000000 in
theorem oX11_holds : ck_ knX11 kX11_holds = true := by decide +kernel
set_option maxRecDepth 1000000 in
theorem oX11_overlap : ck_ knX11 kX11_overlap = true := by decide +kernel
set_option maxRecDepth 1000000 in
theorem oX11_most : ck_ knX11 kX11_most = true := by decide +kernel
set_option maxRecDepth 1000000 in
theorem oX11_ageOf : ck_ knX11 kX11_ageOf = true := by decide +kernel
set_option maxRecDepth 1000000 in
theorem oX11_age : ck_ knX11 kX11_age = true := by decide +kernel
set_option maxRecDepth 1000000 in
theorem oX11_gains : ck_ knX11 kX11_gains = true := by decide +kernel
set_option maxRecDepth 1000000 in
theorem oX11_march : ck_ knX11 kX11_march = true := by decide +kernel
set_option maxRecDepth 1000000 in
theorem oX11_findClash : ck_ knX11 kX11_findClash = true := by decide +kernel
set_option maxRecDepth 1000000 in
theorem oX11_isClash : ck_ knX11 kX11_isClash = true := by decide +kernel
set_option maxRecDepth 1000000 in
theorem oX11_clash : ck_ knX11 kX11_clash = true := by decide +kernel
set_option maxRecDepth 1000000 in
theorem oX11_place : ck_ knX11 kX11_place = true := by decide +kernel
set_option maxRecDepth 1000000 in
theorem oX11_aloneOf : ck_ knX11 kX11_aloneOf = true := by decide +kernel
set_option maxRecDepth 1000000 in
theorem oX11_alone : ck_ knX11 kX11_alone = true := by decide +kernel
set_option maxRecDepth 1000000 in
theorem oX11_beginOf : ck_ knX11 kX11_beginOf = true := by decide +kernel
set_option maxRecDepth 1000000 in
theorem oX11_isBegin : ck_ knX11 kX11_isBegin = true := by decide +kernel
set_option maxRecDepth 1000000 in
theorem oX11_begin : ck_ knX11 kX11_begin = true := by decide +kernel
set_option maxRecDepth 1000000 in
theorem oX11_begins : ck_ knX11 kX11_begins = true := by decide +kernel
set_option maxRecDepth 1000000 in
theorem oX11_rank : ck_ knX11 kX11_rank = true := by decide +kernel
set_option maxRecDepth 1000000 in
theorem oX11_behind : ck_ knX11 kX11_behind = true := by decide +kernel
set_option maxRecDepth 1000000 in
theorem oX11_bestTake : ck_ knX11 kX11_bestTake = true := by decide +kernel
set_option maxRecDepth 1000000 in
theorem oX11_turn : ck_ knX11 kX11_turn = true := by decide +kernel
set_option maxRecDepth 1000000 in
theorem oX11_copy : ck_ knX11 kX11_copy = true := by decide +kernel
set_option maxRecDepth 1000000 in
theorem oX11_play : ck_ knX11 kX11_play = true := by decide +kernel
set_option maxRecDepth 1000000 in
theorem oX11_isGame : ck_ knX11 kX11_isGame = true := by decide +kernel
set_option maxRecDepth 1000000 in
theorem oX11_game : ck_ knX11 kX11_game = true := by decide +kernel
set_option maxRecDepth 1000000 in
theorem oX11_takes_ : ck_ knX11 kX11_takes_ = true := by decide +kernel
set_option maxRecDepth 1000000 in
theorem oX11_keepChange : ck_ knX11 kX11_keepChange = true := by decide +kernel
set_option maxRecDepth 1000000 in
theorem oX11_found : ck_ knX11 kX11_found = true := by decide +kernel
set_option maxRecDepth 1000000 in
theorem oX11_grant : ck_ knX11 kX11_grant = true := by decide +kernel
set_option maxRecDepth 1000000 in
theorem oX11_ends : ck_ knX11 kX11_ends = true := by decide +kernel
set_option maxRecDepth 1000000 in
theorem oX11_undo : ck_ knX11 kX11_undo = true := by decide +kernel
set_option maxRecDepth 1000000 in
theorem oX11_goRain : ck_ knX11 kX11_goRain = true := by decide +kernel
set_option maxRecDepth 1000000 in
theorem oX11_isSeed : ck_ knX11 kX11_isSeed = true := by decide +kernel
set_option maxRecDepth 1000000 in
theorem oX11_drawn : ck_ knX11 kX11_drawn = true := by decide +kernel
set_option maxRecDepth 1000000 in
theorem oX11_luck : ck_ knX11 kX11_luck = true := by decide +kernel
set_option maxRecDepth 1000000 in
theorem oX11_count : ck_ knX11 kX11_count = true := by decide +kernel
set_option maxRecDepth 1000000 in
theorem oX11_isSlot : ck_ knX11 kX11_isSlot = true := by decide +kernel
set_option maxRecDepth 1000000 in
theorem oX11_cut : ck_ knX11 kX11_cut = true := by decide +kernel
set_option maxRecDepth 1000000 in
theorem oX11_row : ck_ knX11 kX11_row = true := by decide +kernel
set_option maxRecDepth 1000000 in
theorem oX11_write : ck_ knX11 kX11_write = true := by decide +kernel
set_option maxRecDepth 1000000 in
theorem oX11_paste : ck_ knX11 kX11_paste = true := by decide +kernel
set_option maxRecDepth 1000000 in
theorem oL_0 : ck_ knL kL_0 = true := by decide +kernel
set_option maxRecDepth 1000000 in
theorem oL_1 : ck_ knL kL_1 = true := by decide +kernel
set_option maxRecDepth 1000000 in
theorem oL_2 : ck_ knL kL_2 = true := by decide +kernel
set_option maxRecDepth 1000000 in
theorem oL_3 : ck_ knL kL_3 = true := by decide +kernel
set_option maxRecDepth 1000000 in
theorem oL_4 : ck_ knL kL_4 = true := by decide +kernel
set_option maxRecDepth 1000000 in
theorem oL_5 : ck_ knL kL_5 = true := by decide +kernel
set_option maxRecDepth 1000000 in
theorem oL_6 : ck_ knL kL_6 = true := by decide +kernel
set_option maxRecDepth 1000000 in
theorem oL_7 : ck_ knL kL_7 = true := by decide +kernel
set_option maxRecDepth 1000000 in
theorem oL_8 : ck_ knL kL_8 = true := by decide +kernel
set_option maxRecDepth 1000000 in
theorem oL_9 : ck_ knL kL_9 = true := by decide +kernel
set_option maxRecDepth 1000000 in
theorem oL_10 : ck_ knL kL_10 = true := by decide +kernel
set_option maxRecDepth 1000000 in
theorem oL_11 : ck_ knL kL_11 = true := by decide +kernel
set_option maxRecDepth 1000000 in
theorem oL_12 : ck_ knL kL_12 = true := by decide +kernel
set_option maxRecDepth 1000000 in
theorem oL_13 : ck_ knL kL_13 = true := by decide +kernel
set_option maxRecDepth 1000000 in
theorem oL_14 : ck_ knL kL_14 = true := by decide +kernel
set_option maxRecDepth 1000000 in
theorem oL_15 : ck_ knL kL_15 = true := by decide +kernel
set_option maxRecDepth 1000000 in
theorem oL_16 : ck_ knL kL_16 = true := by decide +kernel
set_option maxRecDepth 1000000 in
theorem oL_17 : ck_ knL kL_17 = true := by decide +kernel
set_option maxRecDepth 1000000 in
theorem oL_18 : ck_ knL kL_18 = true := by decide +kernel
set_option maxRecDepth 1000000 in
theorem oL_19 : ck_ knL kL_19 = true := by decide +kernel
set_option maxRecDepth 1000000 in
theorem oL_20 : ck_ knL kL_20 = true := by decide +kernel
set_option maxRecDepth 1000000 in
theorem oL_21 : ck_ knL kL_21 = true := by decide +kernel
set_option maxRecDepth 1000000 in
theorem oL_22 : ck_ knL kL_22 = true := by decide +kernel
set_option maxRecDepth 1000000 in
theorem oL_23 : ck_ knL kL_23 = true := by decide +kernel
set_option maxRecDepth 1000000 in
theorem oL_24 : ck_ knL kL_24 = true := by decide +kernel
set_option maxRecDepth 1000000 in
theorem oL_25 : ck_ knL kL_25 = true := by decide +kernel
set_option maxRecDepth 1000000 in
theorem oL_26 : ck_ knL kL_26 = true := by decide +kernel
set_option maxRecDepth 1000000 in
theorem oL_27 : ck_ knL kL_27 = true := by decide +kernel
set_option maxRecDepth 1000000 in
theorem oL_28 : ck_ knL kL_28 = true := by decide +kernel
set_option maxRecDepth 1000000 in
theorem oL_29 : ck_ knL kL_29 = true := by decide +kernel
set_option maxRecDepth 1000000 in
theorem oL_30 : ck_ knL kL_30 = true := by decide +kernel
set_option maxRecDepth 1000000 in
theorem oL_31 : ck_ knL kL_31 = true := by decide +kernel
set_option maxRecDepth 1000000 in
theorem oL_32 : ck_ knL kL_32 = true := by decide +kernel
set_option maxRecDepth 1000000 in
theorem oL_33 : ck_ knL kL_33 = true := by decide +kernel
set_option maxRecDepth 1000000 in
theorem oL_34 : ck_ knL kL_34 = true := by decide +kernel
set_option maxRecDepth 1000000 in
theorem oL_35 : ck_ knL kL_35 = true := by decide +kernel
set_option maxRecDepth 1000000 in
theorem oL_36 : ck_ knL kL_36 = true := by decide +kernel
set_option maxRecDepth 1000000 in
theorem oL_37 : ck_ knL kL_37 = true := by decide +kernel
set_option maxRecDepth 1000000 in
theorem oL_38 : ck_ knL kL_38 = true := by decide +kernel
set_option maxRecDepth 1000000 in
theorem oL_39 : ck_ knL kL_39 = true := by decide +kernel
set_option maxRecDepth 1000000 in
theorem oL_40 : ck_ knL kL_40 = true := by decide +kernel
set_option maxRecDepth 1000000 in
theorem oL_41 : ck_ knL kL_41 = true := by decide +kernel
set_option maxRecDepth 1000000 in
theorem oL_42 : ck_ knL kL_42 = true := by decide +kernel
set_option maxRecDepth 1000000 in
theorem oL_43 : ck_ knL kL_43 = true := by decide +kernel
set_option maxRecDepth 1000000 in
theorem oL_44 : ck_ knL kL_44 = true := by decide +kernel
set_option maxRecDepth 1000000 in
theorem oL_45 : ck_ knL kL_45 = true := by decide +kernel
set_option maxRecDepth 1000000 in
theorem oL_46 : ck_ knL kL_46 = true := by decide +kernel
set_option maxRecDepth 1000000 in
theorem oL_47 : ck_ knL kL_47 = true := by decide +kernel
set_option maxRecDepth 1000000 in
theorem oL_48 : ck_ knL kL_48 = true := by decide +kernel
set_option maxRecDepth 1000000 in
theorem oL_49 : ck_ knL kL_49 = true := by decide +kernel
set_option maxRecDepth 1000000 in
theorem oL_50 : ck_ knL kL_50 = true := by decide +kernel
set_option maxRecDepth 1000000 in
theorem oL_51 : ck_ knL kL_51 = true := by decide +kernel
set_option maxRecDepth 1000000 in
theorem oL_52 : ck_ knL kL_52 = true := by decide +kernel
set_option maxRecDepth 1000000 in
theorem oL_53 : ck_ knL kL_53 = true := by decide +kernel
set_option maxRecDepth 1000000 in
theorem oL_54 : ck_ knL kL_54 = true := by decide +kernel
set_option maxRecDepth 1000000 in
theorem oL_55 : ck_ knL kL_55 = true := by decide +kernel
set_option maxRecDepth 1000000 in
theorem oL_56 : ck_ knL kL_56 = true := by decide +kernel
set_option maxRecDepth 1000000 in
theorem oL_57 : ck_ knL kL_57 = true := by decide +kernel
set_option maxRecDepth 1000000 in
theorem oL_58 : ck_ knL kL_58 = true := by decide +kernel
set_option maxRecDepth 1000000 in
theorem oL_59 : ck_ knL kL_59 = true := by decide +kernel
set_option maxRecDepth 1000000 in
theorem oL_60 : ck_ knL kL_60 = true := by decide +kernel
set_option maxRecDepth 1000000 in
theorem oL_61 : ck_ knL kL_61 = true := by decide +kernel
set_option maxRecDepth 1000000 in
theorem oL_62 : ck_ knL kL_62 = true := by decide +kernel
end
section
/-- the row from a place on -/
def suf_ (cs : Ci_t) (pc : Nat) : Ci_t := match cs with
  | [] => []
  | q :: r => bif q.1 == pc then q :: r else suf_ r pc
theorem suf_mem {cs : Ci_t} {pc : Nat} : ∀ q ∈ suf_ cs pc, q ∈ cs := by
  induction cs with
  | nil => intro q h; exact h
  | cons a r ih =>
    intro q h
    unfold suf_ at h
    cases hb : (a.1 == pc) with
    | true => rw [hb] at h; exact h
    | false => rw [hb] at h; exact List.mem_cons_of_mem _ (ih q h)
theorem suf_ck {kn : List (Nat × Sv_t)} {cs : Ci_t} {pc : Nat} (h : ck_ kn cs = true) : ck_ kn (suf_ cs pc) = true := by
  induction cs with
  | nil => exact h
  | cons a r ih =>
    unfold suf_
    cases hb : (a.1 == pc) with
    | true => exact h
    | false =>
      simp only [ck_, Bool.and_eq_true] at h
      exact ih h.2
theorem suf_hd {cs : Ci_t} {pc : Nat} : suf_ cs pc = [] ∨ ((suf_ cs pc).head?.map (fun q => q.1)) = some pc := by
  induction cs with
  | nil => exact Or.inl rfl
  | cons a r ih =>
    unfold suf_
    cases hb : (a.1 == pc) with
    | true =>
      have : a.1 = pc := by simpa using hb
      right
      simp [this]
    | false => exact ih
theorem bk_ {X : Cx_t} {G : Gx_t} {Q : State → Prop} {cl sl : Nat} {ad shs : List Nat} {own : String} {cc : ByteArray} {nL : Nat} {rty : Option FieldType} {fl pl : List (Nat × Nat × Nat × Int)} {kn : List (Nat × Sv_t)} {cal : List (Nat × Nat × Tr_t)} {rk : Nat} {Ret : List Sv_t → Me_t → Prop} {scr : Option (Nat × (Int → Int))} {cs : Ci_t} (ct : List Nat)
    (hF : FT_ own fl) (hP : PT_ own pl) (hK : KN_ own kn) (he : ∀ q ∈ cs, decode cc q.1 = .ok q.2) (ho : ck_ kn cs = true) (hC : ∀ q ∈ cal, COK_ X G Q cl sl ad shs cc nL q.1 q.2.1 q.2.2) (hR : ROK_ X G Q cl sl ad shs cc rk Ret) (hS : SOK_ X G Q cl sl ad shs cc scr)
    (E : EN_ X G own cc nL rty) {pc : Nat} {L S : List Sv_t} {σ : Me_t} (hL : L.length = nL) (h : wpb_ fl pl kn cal rk Ret (fun tg L' S' σ' => WP_ X G Q cl sl ad shs σ' tg L' S') scr ct (suf_ cs pc) L S σ) : WP_ X G Q cl sl ad shs σ pc L S := by
  rcases suf_hd (cs := cs) (pc := pc) with e | e
  · rw [e] at h; exact h.elim
  · exact blk_ CL_ok SH_ok SA_ok hF hP hK (fun n na T q => hC _ (lk_mem q)) hR hS E (suf_ cs pc) (fun q hq => he q (suf_mem q hq)) (suf_ck ho) pc L S σ hL e h
theorem lcmp_lt0 {a b : Int} : lcmp_ a b < 0 ↔ a < b := by unfold lcmp_; split <;> (try split) <;> omega
theorem lcmp_ge0 {a b : Int} : 0 ≤ lcmp_ a b ↔ b ≤ a := by unfold lcmp_; split <;> (try split) <;> omega
theorem lcmp_gt0 {a b : Int} : 0 < lcmp_ a b ↔ b < a := by unfold lcmp_; split <;> (try split) <;> omega
theorem lcmp_le0 {a b : Int} : lcmp_ a b ≤ 0 ↔ a ≤ b := by unfold lcmp_; split <;> (try split) <;> omega
theorem lcmp_eq0 {a b : Int} : lcmp_ a b = 0 ↔ a = b := by unfold lcmp_; split <;> (try split) <;> omega
def rmI_ : Int → List Sv_t := fun z => [(0, z)]
def rmL_ : Int → List Sv_t := fun z => [(1, z)]
def rmV_ : Int → List Sv_t := fun _ => []
def rmR_ (t : Nat) : Int → List Sv_t := fun z => [(t, z)]
/-- the fresh objects: what a first call sees -/
def FX_ (σ : Me_t) : Prop := σ 0 2 = 5 ∧ σ 0 3 = 16 ∧ σ (σ 0 2) 0 = 0 ∧ σ (σ 0 2) 1 = 0 ∧ σ (σ 0 2) 2 = 0 ∧ σ (σ 0 2) 3 = 0 ∧ σ (σ 0 2) 4 = 0 ∧ σ (σ 0 2) 5 = 0 ∧ σ 0 12 = 0 ∧ σ 0 13 = -1 ∧ σ 1 1 = 0 ∧ (∀ k, 0 ≤ k → k < 3 → σ 28 k = 0) ∧ (∀ k, 0 ≤ k → k < 4 → σ (78 + 2 * k) 1 = 0)
def FM_ (σ : Me_t) : Prop := σ 87 0 = 0 ∧ σ 87 1 = 0 ∧ σ 87 2 = 0 ∧ σ 87 3 = 0 ∧ σ 87 4 = 0 ∧ σ 87 5 = 0 ∧ σ 86 5 = 0 ∧ σ 86 12 = 0 ∧ σ 86 13 = -1 ∧ (∀ k, 0 ≤ k → k < 3 → σ 89 k = 0) ∧ (∀ k, 0 ≤ k → k < 4 → σ 102 k = -1) ∧ σ 86 7 = 0 ∧ σ 86 8 = 0 ∧ σ 92 4 = 0
end
section
theorem i2b_r (a : Int) : -128 ≤ i2b_ a ∧ i2b_ a ≤ 127 := by
  unfold i2b_
  rw [Int8.toInt_toInt32]
  have h1 := Int8.le_toInt (Int32.ofInt a).toInt8
  have h2 := Int8.toInt_lt (Int32.ofInt a).toInt8
  omega
/-- System.arraycopy of int and of long arrays -/
def TAC_ : Tr_t := fun args σ k => ∃ (t u a c c' N N' : Nat) (o q sp dp n : Int), args = [(t + 10, o), (0, sp), (u + 10, q), (0, dp), (0, n)] ∧ KT_ t = (a, c, N) ∧ KT_ u = (a, c', N') ∧ ty_ t 0 = ty_ u 0 ∧ (a = 1 ∨ a = 4) ∧ (0 ≤ sp ∧ 0 ≤ dp ∧ 0 ≤ n ∧ sp + n ≤ (N : Int) ∧ dp + n ≤ (N' : Int)) ∧ ∀ σ' : Me_t, σ' = (fun a b => if a = q ∧ dp ≤ b ∧ b < dp + n then σ o (b - dp + sp) else σ a b) → k [] σ'
theorem tac_i {args : List Sv_t} {σ : Me_t} {k : List Sv_t → Me_t → Prop} (t u a c c' N N' : Nat) (o q sp dp n : Int) (h1 : args = [(t + 10, o), (0, sp), (u + 10, q), (0, dp), (0, n)]) (h2 : KT_ t = (a, c, N)) (h3 : KT_ u = (a, c', N')) (h4 : ty_ t 0 = ty_ u 0) (h5 : a = 1 ∨ a = 4) (h6 : 0 ≤ sp ∧ 0 ≤ dp ∧ 0 ≤ n ∧ sp + n ≤ (N : Int) ∧ dp + n ≤ (N' : Int)) (h7 : ∀ σ' : Me_t, σ' = (fun a b => if a = q ∧ dp ≤ b ∧ b < dp + n then σ o (b - dp + sp) else σ a b) → k [] σ') : TAC_ args σ k := ⟨t, u, a, c, c', N, N', o, q, sp, dp, n, h1, h2, h3, h4, h5, h6, h7⟩
theorem cpy_fn {σ : Me_t} {o q sp dp n : Int} (h1 : 0 ≤ sp) (h2 : 0 ≤ dp) (h3 : 0 ≤ n) {α : Type} (F : Int → α) : (fun j : Nat => F ((fun a b => if a = q ∧ dp ≤ b ∧ b < dp + n then σ o (b - dp + sp) else σ a b : Me_t) q (j : Int))) = va_cpy (fun j : Nat => F (σ o (j : Int))) (fun j : Nat => F (σ q (j : Int))) sp.toNat dp.toNat n.toNat := by
  funext j
  by_cases h : dp ≤ (j : Int) ∧ (j : Int) < dp + n
  · rw [pk_cpy_in (by omega) (by omega)]
    simp only [true_and, h, and_self, if_true]
    congr 2
    omega
  · rw [pk_cpy_out (by omega)]
    simp only [true_and, h, if_false]
theorem ac_mt {shs : List Nat} {σ : Me_t} {t u a c c' N N' : Nat} {o q sp dp n : Int} (hM : MT_ shs σ) (ho : tv_ shs (t + 10, o)) (hq : tv_ shs (u + 10, q)) (kt : KT_ t = (a, c, N)) (ku : KT_ u = (a, c', N')) (he : ty_ t 0 = ty_ u 0) (hk : a = 1 ∨ a = 4) (hb : 0 ≤ sp ∧ 0 ≤ dp ∧ 0 ≤ n ∧ sp + n ≤ (N : Int) ∧ dp + n ≤ (N' : Int)) : MT_ shs (fun a b => if a = q ∧ dp ≤ b ∧ b < dp + n then σ o (b - dp + sp) else σ a b) := by
  have ha1 : 1 ≤ a := by rcases hk with rfl | rfl <;> decide
  have ha4 : a ≤ 4 := by rcases hk with rfl | rfl <;> decide
  intro k sh hsh j hj
  by_cases e : (k : Int) = q ∧ dp ≤ (j : Int) ∧ (j : Int) < dp + n
  · obtain ⟨e1, e2, e3⟩ := e
    have e4 : q.toNat = k := by omega
    have hq2 := rs_ hq
    rw [e4] at hq2
    have e5 : sh = u := Option.some.inj (hsh.symm.trans hq2.2)
    subst e5
    show ok_ shs sh (k : Int) j (if (k : Int) = q ∧ dp ≤ (j : Int) ∧ (j : Int) < dp + n then _ else _)
    rw [if_pos ⟨e1, e2, e3⟩]
    have h1 := mt_at hM ho (j := ((j : Int) - dp + sp).toNat) (by unfold sz_; rw [kt]; simp only; omega)
    rw [tn_ (by omega)] at h1
    have st := SA_ok t a c N kt
    have su := SA_ok sh a c' N' ku
    have tt : ∀ i, ty_ t i = ty_ t 0 := fun i => by
      rcases hk with h | h
      · exact (st.1 h i).1
      · exact (st.2.2.2.1 h i).1
    have tu : ∀ i, ty_ sh i = ty_ sh 0 := fun i => by
      rcases hk with h | h
      · exact (su.1 h i).1
      · exact (su.2.2.2.1 h i).1
    refine ⟨?_, ?_, fun r hr => ?_⟩
    · rw [tu, ← he, ← tt (((j : Int) - dp + sp).toNat)]; exact h1.1
    · rw [tu, ← he, ← tt (((j : Int) - dp + sp).toNat)]; exact h1.2.1
    · have := su.2.2.2.2.2.2.1 ha1 ha4 (k : Int) (j : Int) j
      rw [this] at hr
      cases hr
  · show ok_ shs sh (k : Int) j (if (k : Int) = q ∧ dp ≤ (j : Int) ∧ (j : Int) < dp + n then _ else _)
    rw [if_neg e]
    exact hM k sh hsh j hj
theorem ac_row {σ : Me_t} {o q sp dp n : Int} {a : Nat} (h : (a : Int) ≠ q) : (fun a b => if a = q ∧ dp ≤ b ∧ b < dp + n then σ o (b - dp + sp) else σ a b : Me_t) (a : Int) = σ (a : Int) := by
  funext b
  show (if (a : Int) = q ∧ dp ≤ b ∧ b < dp + n then _ else _) = _
  rw [if_neg (fun e => h e.1)]
theorem cok_ac {X : Cx_t} {G : Gx_t} {Q : State → Prop} {cl sl idx : Nat} {ad shs : List Nat} {own : String} {cc : ByteArray} {nL : Nat} {rty : Option FieldType} (E : EN_ X G own cc nL rty) (hRm : 1 ≤ X.2.2.2.1.frames ∧ 8 + (nativeFrameWords "java/lang/System" "arraycopy" 5 + 11) ≤ X.2.2.2.1.locals)
    (w1 : Cond.methodLink own idx arraycopyName ∈ gl_ ∧ Cond.native arraycopyName ∈ gl_ ∧ Cond.static arraycopyName ∈ gl_ ∧ Cond.initialized "java/lang/System" ∈ gl_) : COK_ X G Q cl sl ad shs cc nL (2 * idx + 1) 5 TAC_ := by
  obtain ⟨p, l, e, R, s, m, args, below, meth, code⟩ := X
  obtain ⟨D, tc, cs, A⟩ := G
  intro pc i σ L as0 S k hi hd hlen hcs hL hT hk
  have hi : i = .invokestatic idx := by
    rcases hi with ⟨-, h⟩ | ⟨h, -⟩
    · omega
    · rw [show (2 * idx + 1) / 2 = idx by omega] at h; exact h
  subst hi
  obtain ⟨t, u, a, c, c', N, N', o, q, sp, dp, n, rfl, kt, ku, he, hkk, hb, hpost⟩ := hT
  intro hM hA H locs ls hP hD hS hlh vL vS
  have vq : tv_ shs (u + 10, q) := vS (u + 10, q) (by simp)
  have vo : tv_ shs (t + 10, o) := vS (t + 10, o) (by simp)
  have hvq := rs_ vq
  have hvo := rs_ vo
  have hn1 := (SA_ok t a c N kt).2.2.2.2.2.2.2
  have hn2 := (SA_ok u a c' N' ku).2.2.2.2.2.2.2
  have c1 : (Int32.ofInt sp).toNatClampNeg = sp.toNat := cl_ (by omega) (by omega)
  have c2 : (Int32.ofInt dp).toNatClampNeg = dp.toNat := cl_ (by omega) (by omega)
  have c3 : (Int32.ofInt n).toNatClampNeg = n.toNat := cl_ (by omega) (by omega)
  have ng : ∀ z : Int, 0 ≤ z → z ≤ 2147483647 → ¬ Int32.ofInt z < 0 := fun z h1 h2 q => by
    rw [i3_z, i3_lt (by omega) (by omega)] at q; omega
  have heo := wl_get (cs := cs) (tc := tc) (ad := ad) (σ := σ) hvo.2
  have heq := wl_get (cs := cs) (tc := tc) (ad := ad) (σ := σ) hvq.2
  have key := hk [] _ (hpost _ rfl) (ac_mt hM vo vq kt ku he hkk hb) hA
  have hst : List.map (val_ cs ad) ([(t + 10, o), (0, sp), (u + 10, q), (0, dp), (0, n)].reverse ++ S) = .int (Int32.ofInt n) :: .int (Int32.ofInt dp) :: .ref (ad.getD q.toNat 0) :: .int (Int32.ofInt sp) :: .ref (ad.getD o.toNat 0) :: S.map (val_ cs ad) := by
    simp only [List.reverse_cons, List.reverse_nil, List.nil_append, List.cons_append, List.map_cons, val_r hvq.1, val_r hvo.1, val_0]
  show W _ _ _ _ _ _ _ _ _ _ _ _ _ _ _ (F0 m pc ls (List.map (val_ cs ad) ([(t + 10, o), (0, sp), (u + 10, q), (0, dp), (0, n)].reverse ++ S)))
  rw [hst]
  have hml : code.maxLocals = ls.size := by rw [hlh.1, hL]; exact E.2.2.1
  have hlo : (List.map (fun v => v.category) (List.map (val_ cs ad) S)).sum + (nativeFrameWords "java/lang/System" "arraycopy" 5 + 11) ≤ R.locals := by
    rw [map_cat]
    have := hRm.2
    simp only at this
    omega
  rcases hkk with rfl | rfl
  · rw [ent_1 kt] at heo
    rw [ent_1 ku] at heq
    refine va_copyi (cc := cc) (rest := S.map (val_ cs ad)) E.1 E.2.1 hml E.2.2.2.1 (E.2.2.2.2.1 _ w1.1) (E.2.2.2.2.1 _ w1.2.1) (E.2.2.2.2.1 _ w1.2.2.1) (E.2.2.2.2.1 _ w1.2.2.2) E.2.2.2.2.2.1 hP hD hS o.toNat q.toNat 0 0 heo heq rfl rfl rfl (ng _ (by omega) (by omega)) (ng _ (by omega) (by omega)) (ng _ (by omega) (by omega)) (by rw [c1, c3]; omega) (by rw [c2, c3]; omega) (fun _ _ => rfl) hRm.1 hlo hd ?_
    intro H1 locs1 hP1 hD1 hS1
    have eq : (wl_ cs tc ad shs σ).set q.toNat (ad.getD q.toNat 0, .inl (tc 1, N', .inl (va_cpy (fun j : Nat => Int32.ofInt (σ (o.toNat : Int) (j : Int))) (fun j : Nat => Int32.ofInt (σ (q.toNat : Int) (j : Int))) (Int32.ofInt sp).toNatClampNeg (Int32.ofInt dp).toNatClampNeg (Int32.ofInt n).toNatClampNeg))) = wl_ cs tc ad shs (fun a b => if a = q ∧ dp ≤ b ∧ b < dp + n then σ o (b - dp + sp) else σ a b) := by
      refine wl_set hvq.2 ?_ (fun a ha => ac_row (by omega))
      rw [ent_1 ku, tn_ hvq.1, tn_ hvo.1, c1, c2, c3, ← cpy_fn (by omega) (by omega) (by omega) Int32.ofInt]
    rw [eq] at hP1 hD1
    exact key H1 locs1 ls hP1 hD1 hS1 hlh vL (fun v hv => vS v (List.mem_append_right _ hv))
  · rw [ent_4 kt] at heo
    rw [ent_4 ku] at heq
    refine va_copyl (cc := cc) (rest := S.map (val_ cs ad)) E.1 E.2.1 hml E.2.2.2.1 (E.2.2.2.2.1 _ w1.1) (E.2.2.2.2.1 _ w1.2.1) (E.2.2.2.2.1 _ w1.2.2.1) (E.2.2.2.2.1 _ w1.2.2.2) E.2.2.2.2.2.1 hP hD hS o.toNat q.toNat 3 3 heo heq rfl rfl rfl (ng _ (by omega) (by omega)) (ng _ (by omega) (by omega)) (ng _ (by omega) (by omega)) (by rw [c1, c3]; omega) (by rw [c2, c3]; omega) (fun _ _ => rfl) hRm.1 hlo hd ?_
    intro H1 locs1 hP1 hD1 hS1
    have eq : (wl_ cs tc ad shs σ).set q.toNat (ad.getD q.toNat 0, .inl (tc 4, N', .inr (.inl (va_cpy (fun j : Nat => Int64.ofInt (σ (o.toNat : Int) (j : Int))) (fun j : Nat => Int64.ofInt (σ (q.toNat : Int) (j : Int))) (Int32.ofInt sp).toNatClampNeg (Int32.ofInt dp).toNatClampNeg (Int32.ofInt n).toNatClampNeg)))) = wl_ cs tc ad shs (fun a b => if a = q ∧ dp ≤ b ∧ b < dp + n then σ o (b - dp + sp) else σ a b) := by
      refine wl_set hvq.2 ?_ (fun a ha => ac_row (by omega))
      rw [ent_4 ku, tn_ hvq.1, tn_ hvo.1, c1, c2, c3, ← cpy_fn (by omega) (by omega) (by omega) Int64.ofInt]
    rw [eq] at hP1 hD1
    exact key H1 locs1 ls hP1 hD1 hS1 hlh vL (fun v hv => vS v (List.mem_append_right _ hv))
end
section
theorem st_n {σ σ' : Me_t} {o j z k i : Int} (e : σ' = ups_ σ o j z) (h : k ≠ o) : σ' k i = σ k i := by rw [e, ups_n (Or.inl h)]
theorem ac_n {σ σ' : Me_t} {o q sp dp n k i : Int} (e : σ' = (fun a b => if a = q ∧ dp ≤ b ∧ b < dp + n then σ o (b - dp + sp) else σ a b)) (h : k ≠ q) : σ' k i = σ k i := by
  subst e
  show (if k = q ∧ dp ≤ i ∧ i < dp + n then _ else _) = _
  rw [if_neg (fun q => h q.1)]
def flJ7 : List (Nat × Nat × Nat × Int) := []
def plJ7 : List (Nat × Nat × Nat × Int) := []
def knJ7 : List (Nat × Sv_t) := []
theorem flJ7_ok : FT_ RJ7 flJ7 := fun _ h => absurd h List.not_mem_nil
theorem plJ7_ok : PT_ RJ7 plJ7 := ⟨fun _ h => absurd h List.not_mem_nil, fun _ h => absurd h List.not_mem_nil⟩
theorem knJ7_ok : KN_ RJ7 knJ7 := fun _ h => absurd h List.not_mem_nil
def kJ7_fill_d0a16 : Ci_t := [(0, .iconst 0, 1), (1, .istore_n 3, 1), (2, .aload_n 0, 1), (3, .arraylength, 1), (4, .istore 4, 2), (6, .iload_n 3, 1), (7, .iload 4, 2), (9, .if_icmp .ge 13, 3), (12, .aload_n 0, 1), (13, .iload_n 3, 1), (14, .lload_n 1, 1), (15, .lastore, 1), (16, .iinc 3 1, 3), (19, .goto (-13), 3), (22, .return_, 1)]
set_option maxRecDepth 100000 in
theorem eJ7_fill_d0a16 : ∀ q ∈ kJ7_fill_d0a16, decode cJ7_fill_d0a16 q.1 = .ok q.2 := by decide +kernel
theorem oJ7_fill_d0a16 : ck_ knJ7 kJ7_fill_d0a16 = true := by decide +kernel
def kJ7_fill_53178 : Ci_t := [(0, .iconst 0, 1), (1, .istore_n 2, 1), (2, .aload_n 0, 1), (3, .arraylength, 1), (4, .istore_n 3, 1), (5, .iload_n 2, 1), (6, .iload_n 3, 1), (7, .if_icmp .ge 13, 3), (10, .aload_n 0, 1), (11, .iload_n 2, 1), (12, .iload_n 1, 1), (13, .iastore, 1), (14, .iinc 2 1, 3), (17, .goto (-12), 3), (20, .return_, 1)]
set_option maxRecDepth 100000 in
theorem eJ7_fill_53178 : ∀ q ∈ kJ7_fill_53178, decode cJ7_fill_53178 q.1 = .ok q.2 := by decide +kernel
theorem oJ7_fill_53178 : ck_ knJ7 kJ7_fill_53178 = true := by decide +kernel
def kJ7_fill_031fb : Ci_t := [(0, .iconst 0, 1), (1, .istore_n 2, 1), (2, .aload_n 0, 1), (3, .arraylength, 1), (4, .istore_n 3, 1), (5, .iload_n 2, 1), (6, .iload_n 3, 1), (7, .if_icmp .ge 13, 3), (10, .aload_n 0, 1), (11, .iload_n 2, 1), (12, .iload_n 1, 1), (13, .bastore, 1), (14, .iinc 2 1, 3), (17, .goto (-12), 3), (20, .return_, 1)]
set_option maxRecDepth 100000 in
theorem eJ7_fill_031fb : ∀ q ∈ kJ7_fill_031fb, decode cJ7_fill_031fb q.1 = .ok q.2 := by decide +kernel
theorem oJ7_fill_031fb : ck_ knJ7 kJ7_fill_031fb = true := by decide +kernel
end
section
/-! lemmas for the walks in any state -/
def isWar_ (w : Int) : Prop := w = 5 ∨ w = 16 ∨ w = 45 ∨ w = 56 ∨ w = 67
def isLand_ (o : Int) : Prop := (o = 10 ∨ o = 12 ∨ o = 14) ∨ (o = 21 ∨ o = 23 ∨ o = 25) ∨ (o = 50 ∨ o = 52 ∨ o = 54) ∨ (o = 61 ∨ o = 63 ∨ o = 65) ∨ (o = 72 ∨ o = 74 ∨ o = 76)
def isRow_ (o : Int) : Prop := o = 78 ∨ o = 80 ∨ o = 82 ∨ o = 84
theorem shs_at {t : Nat} {z : Int} (h : tv_ SHS_ (t + 10, z)) : ∃ k : Nat, z = (k : Int) ∧ k < 106 ∧ SHS_[k]? = some t := by
  obtain ⟨h1, h2⟩ := h
  exact ⟨z.toNat, by omega, (List.getElem?_eq_some_iff.mp h2).1, h2⟩
theorem tvWar_ {z : Int} (h : tv_ SHS_ (15, z)) : isWar_ z := by
  obtain ⟨k, rfl, hk, h2⟩ := shs_at (t := 5) h
  have key : ∀ k, k < 106 → SHS_[k]? = some 5 → k = 5 ∨ k = 16 ∨ k = 45 ∨ k = 56 ∨ k = 67 := by decide +kernel
  have := key k hk h2
  unfold isWar_
  omega
theorem tvLand_ {z : Int} (h : tv_ SHS_ (20, z)) : isLand_ z := by
  obtain ⟨k, rfl, hk, h2⟩ := shs_at (t := 10) h
  have key : ∀ k, k < 106 → SHS_[k]? = some 10 → (k = 10 ∨ k = 12 ∨ k = 14) ∨ (k = 21 ∨ k = 23 ∨ k = 25) ∨ (k = 50 ∨ k = 52 ∨ k = 54) ∨ (k = 61 ∨ k = 63 ∨ k = 65) ∨ (k = 72 ∨ k = 74 ∨ k = 76) := by decide +kernel
  have := key k hk h2
  unfold isLand_
  omega
theorem tvRow_ {z : Int} (h : tv_ SHS_ (40, z)) : isRow_ z := by
  obtain ⟨k, rfl, hk, h2⟩ := shs_at (t := 30) h
  have key : ∀ k, k < 106 → SHS_[k]? = some 30 → k = 78 ∨ k = 80 ∨ k = 82 ∨ k = 84 := by decide +kernel
  have := key k hk h2
  unfold isRow_
  omega
theorem mul_r {a b A B : Int} (h1 : 0 ≤ a) (h2 : a ≤ A) (h3 : 0 ≤ b) (h4 : b ≤ B) : 0 ≤ a * b ∧ a * b ≤ A * B := ⟨Int.mul_nonneg h1 h3, Int.mul_le_mul h2 h4 h3 (Int.le_trans h1 h2)⟩
theorem tdiv_r {x y : Int} (h1 : 0 ≤ x) (h2 : 0 < y) : 0 ≤ Int.tdiv x y ∧ Int.tdiv x y ≤ x := by
  rw [Int.tdiv_eq_ediv_of_nonneg h1]
  exact ⟨Int.ediv_nonneg h1 (by omega), Int.ediv_le_self y h1⟩
theorem tmod_r {x y : Int} (h1 : 0 ≤ x) (h2 : 0 < y) : 0 ≤ Int.tmod x y ∧ Int.tmod x y < y := by
  rw [Int.tmod_eq_emod_of_nonneg h1]
  exact ⟨Int.emod_nonneg x (by omega), Int.emod_lt_of_pos x h2⟩
theorem ups_r {σ σ' : Me_t} {o j z k i : Int} (e : σ' = ups_ σ o j z) (h : k ≠ o ∨ i ≠ j) : σ' k i = σ k i := by rw [e, ups_n h]
theorem ups_v {σ σ' : Me_t} {o j z : Int} (e : σ' = ups_ σ o j z) : σ' o j = z := by rw [e, ups_s]
theorem ac_r {σ σ' : Me_t} {o q sp dp n k i : Int} (e : σ' = (fun a b => if a = q ∧ dp ≤ b ∧ b < dp + n then σ o (b - dp + sp) else σ a b)) (h : k ≠ q ∨ i < dp ∨ dp + n ≤ i) : σ' k i = σ k i := by
  subst e
  show (if k = q ∧ dp ≤ i ∧ i < dp + n then _ else _) = _
  rw [if_neg (fun q => by omega)]
theorem ac_v {σ σ' : Me_t} {o q sp dp n i : Int} (e : σ' = (fun a b => if a = q ∧ dp ≤ b ∧ b < dp + n then σ o (b - dp + sp) else σ a b)) (h : dp ≤ i ∧ i < dp + n) : σ' q i = σ o (i - dp + sp) := by
  subst e
  show (if q = q ∧ dp ≤ i ∧ i < dp + n then _ else _) = _
  rw [if_pos ⟨rfl, h⟩]
/-- a slot's range, of any object -/
theorem rgf_ {shs : List Nat} {σ : Me_t} {t j : Nat} {o : Int} (hM : MT_ shs σ) (h : tv_ shs (t + 10, o)) (hj : j < sz_ t) : rgo_ (ty_ t j) (σ o (j : Int)) := rgo_of (mt_at hM h hj)
/-- numbers that are not below 0 -/
theorem n32_ {a : Int} (h0 : 0 ≤ a) (h1 : a ≤ 2147483647) : (Int32.ofInt a).toBitVec = BitVec.ofNat 32 a.toNat := by
  obtain ⟨n, rfl⟩ : ∃ n : Nat, a = n := ⟨a.toNat, by omega⟩
  show BitVec.ofInt 32 (n : Int) = _
  rw [BitVec.ofInt_natCast, Int.toNat_natCast]
theorem t32_ {v : Int32} {n : Nat} (h : v.toBitVec.toNat = n) (hn : n < 2147483648) : v.toInt = (n : Int) := by
  show v.toBitVec.toInt = _
  rw [BitVec.toInt_eq_toNat_of_lt (by omega), h]
theorem or3_n {a b : Int} (h0 : 0 ≤ a) (h1 : a ≤ 2147483647) (h2 : 0 ≤ b) (h3 : b ≤ 2147483647) : or3_ a b = ((a.toNat ||| b.toNat : Nat) : Int) := by
  have hl : a.toNat ||| b.toNat < 2 ^ 31 := Nat.or_lt_two_pow (by omega) (by omega)
  refine t32_ ?_ (by omega)
  show ((Int32.ofInt a).toBitVec ||| (Int32.ofInt b).toBitVec).toNat = _
  rw [n32_ h0 h1, n32_ h2 h3, BitVec.toNat_or, BitVec.toNat_ofNat, BitVec.toNat_ofNat, Nat.mod_eq_of_lt (by omega), Nat.mod_eq_of_lt (by omega)]
theorem and3_n {a b : Int} (h2 : 0 ≤ b) (h3 : b ≤ 2147483647) : ∃ n : Nat, and3_ a b = (((n &&& b.toNat : Nat)) : Int) ∧ (0 ≤ a → a ≤ 2147483647 → n = a.toNat) := by
  refine ⟨(Int32.ofInt a).toBitVec.toNat, ?_, fun g0 g1 => ?_⟩
  · have hb : b.toNat < 2147483648 := by omega
    refine t32_ ?_ (Nat.lt_of_le_of_lt Nat.and_le_right hb)
    show ((Int32.ofInt a).toBitVec &&& (Int32.ofInt b).toBitVec).toNat = _
    rw [n32_ h2 h3, BitVec.toNat_and, BitVec.toNat_ofNat, Nat.mod_eq_of_lt (by omega)]
  · rw [n32_ g0 g1, BitVec.toNat_ofNat, Nat.mod_eq_of_lt (by omega)]
theorem and3_r {x c : Int} (h2 : 0 ≤ c) (h3 : c ≤ 2147483647) : 0 ≤ and3_ x c ∧ and3_ x c ≤ c := by
  obtain ⟨n, e, -⟩ := and3_n (a := x) h2 h3
  rw [e]
  have := Nat.and_le_right (n := n) (m := c.toNat)
  omega
theorem and3_c (a b : Int) : and3_ a b = and3_ b a := by
  show (Int32.ofInt a &&& Int32.ofInt b).toInt = _
  rw [Int32.and_comm]
  rfl
theorem and3_l {x y : Int} (h2 : 0 ≤ x) (h3 : x ≤ 2147483647) : 0 ≤ and3_ x y ∧ and3_ x y ≤ x := by
  rw [and3_c]
  exact and3_r h2 h3
theorem and3_15 {x : Int} (h0 : 0 ≤ x) (h1 : x ≤ 2147483647) : and3_ x 15 = x % 16 := by
  obtain ⟨n, e, hn⟩ := and3_n (a := x) (b := 15) (by omega) (by omega)
  rw [e, hn h0 h1]
  have : x.toNat &&& (15 : Int).toNat = x.toNat % 2 ^ 4 := Nat.and_two_pow_sub_one_eq_mod x.toNat 4
  rw [this]
  omega
theorem and3_1 {x : Int} : and3_ x 1 = 0 ∨ and3_ x 1 = 1 := by
  have := and3_r (x := x) (c := 1) (by omega) (by omega)
  omega
theorem shl3_n {a : Int} (c : Nat) (hc : c < 32) (h0 : 0 ≤ a) (h1 : a * 2 ^ c ≤ 2147483647) : shl3_ a (c : Int) = a * 2 ^ c := by
  obtain ⟨n, rfl⟩ : ∃ n : Nat, a = n := ⟨a.toNat, by omega⟩
  have hp : (0 : Int) < 2 ^ c := Int.pow_pos (by omega)
  have e1 : ((n : Int) * 2 ^ c) = ((n * 2 ^ c : Nat) : Int) := by
    rw [Int.natCast_mul, Int.natCast_pow]
    rfl
  rw [e1] at h1 ⊢
  have hn : n ≤ n * 2 ^ c := Nat.le_mul_of_pos_right n (Nat.two_pow_pos c)
  refine t32_ ?_ (by omega)
  have ec : (Int32.ofInt (c : Int) &&& 31).toBitVec = BitVec.ofNat 32 c := by
    show (Int32.ofInt (c : Int)).toBitVec &&& _ = _
    rw [n32_ (by omega) (by omega), Int.toNat_natCast]
    apply BitVec.eq_of_toNat_eq
    rw [BitVec.toNat_and, BitVec.toNat_ofNat, Nat.mod_eq_of_lt (by omega)]
    show c &&& 31 = c
    have : c &&& 31 = c % 2 ^ 5 := Nat.and_two_pow_sub_one_eq_mod c 5
    rw [this]
    omega
  show ((Int32.ofInt (n : Int)).toBitVec <<< ((Int32.ofInt (c : Int) &&& 31).toBitVec.smod 32)).toNat = _
  rw [ec]
  have es : (BitVec.ofNat 32 c).smod 32 = BitVec.ofNat 32 c := by
    have key : ∀ c : Nat, c < 32 → (BitVec.ofNat 32 c).smod 32 = BitVec.ofNat 32 c := by decide +kernel
    exact key c hc
  rw [es, n32_ (by omega) (by omega), Int.toNat_natCast]
  show (BitVec.ofNat 32 n <<< (BitVec.ofNat 32 c).toNat).toNat = _
  rw [BitVec.toNat_shiftLeft, BitVec.toNat_ofNat, BitVec.toNat_ofNat, Nat.mod_eq_of_lt (by omega), Nat.mod_eq_of_lt (by omega), Nat.shiftLeft_eq, Nat.mod_eq_of_lt (by omega)]
theorem shl3_1 {b : Int} (h0 : 0 ≤ b) (h1 : b ≤ 3) : (b = 0 → shl3_ 1 b = 1) ∧ (b = 1 → shl3_ 1 b = 2) ∧ (b = 2 → shl3_ 1 b = 4) ∧ (b = 3 → shl3_ 1 b = 8) := by
  refine ⟨?_, ?_, ?_, ?_⟩ <;> (rintro rfl; decide)
theorem shr3_n {a : Int} (c : Nat) (h0 : 0 ≤ a) (h1 : a ≤ 2147483647) (hc : c < 32 := by omega) : shr3_ a (c : Int) = a / 2 ^ c := by
  obtain ⟨n, rfl⟩ : ∃ n : Nat, a = n := ⟨a.toNat, by omega⟩
  have e1 : ((n : Int) / 2 ^ c) = ((n / 2 ^ c : Nat) : Int) := by
    rw [Int.natCast_ediv, Int.natCast_pow]
    rfl
  rw [e1]
  have hn : n / 2 ^ c ≤ n := Nat.div_le_self n _
  refine t32_ ?_ (by omega)
  have ec : (Int32.ofInt (c : Int) &&& 31).toBitVec = BitVec.ofNat 32 c := by
    show (Int32.ofInt (c : Int)).toBitVec &&& _ = _
    rw [n32_ (by omega) (by omega), Int.toNat_natCast]
    apply BitVec.eq_of_toNat_eq
    rw [BitVec.toNat_and, BitVec.toNat_ofNat, Nat.mod_eq_of_lt (by omega)]
    show c &&& 31 = c
    have : c &&& 31 = c % 2 ^ 5 := Nat.and_two_pow_sub_one_eq_mod c 5
    rw [this]
    omega
  show ((Int32.ofInt (n : Int)).toBitVec.sshiftRight' ((Int32.ofInt (c : Int) &&& 31).toBitVec.smod 32)).toNat = _
  rw [ec]
  have es : (BitVec.ofNat 32 c).smod 32 = BitVec.ofNat 32 c := by
    have key : ∀ c : Nat, c < 32 → (BitVec.ofNat 32 c).smod 32 = BitVec.ofNat 32 c := by decide +kernel
    exact key c hc
  rw [es, n32_ (by omega) (by omega), Int.toNat_natCast]
  show ((BitVec.ofNat 32 n).sshiftRight (BitVec.ofNat 32 c).toNat).toNat = _
  have hm : (BitVec.ofNat 32 n).msb = false := by
    rw [BitVec.msb_eq_false_iff_two_mul_lt, BitVec.toNat_ofNat, Nat.mod_eq_of_lt (by omega)]
    omega
  rw [BitVec.sshiftRight_eq_of_msb_false hm, BitVec.toNat_ushiftRight, BitVec.toNat_ofNat, BitVec.toNat_ofNat, Nat.mod_eq_of_lt (by omega), Nat.mod_eq_of_lt (by omega), Nat.shiftRight_eq_div_pow]
theorem l2i_t {x : Int} : (-2147483648 ≤ x ∧ x ≤ 2147483647 → l2i_ x = x) ∧ -2147483648 ≤ l2i_ x ∧ l2i_ x ≤ 2147483647 := by
  refine ⟨fun h => ?_, Int32.le_toInt _, by have := Int32.toInt_lt ((Int64.ofInt x).toInt32); show (Int64.ofInt x).toInt32.toInt ≤ _; omega⟩
  show ((Int64.ofInt x).toInt32).toInt = x
  rw [Int64.toInt_toInt32, Int64.toInt_ofInt_of_le (by omega) (by omega)]
  exact Int.bmod_eq_of_le (by omega) (by omega)
/-- the packed date -/
theorem pack_r {y m d w : Int} (y0 : 0 ≤ y) (y1 : y ≤ 2000) (m0 : 0 ≤ m) (m1 : m ≤ 7) (d0 : 0 ≤ d) (d1 : d ≤ 2000) (w0 : 0 ≤ w) (w1 : w ≤ 15) : (0 ≤ or3_ (or3_ (or3_ (shl3_ y 14) (shl3_ m 11)) (shl3_ d 4)) w ∧ or3_ (or3_ (or3_ (shl3_ y 14) (shl3_ m 11)) (shl3_ d 4)) w ≤ 2147483647) ∧ or3_ (or3_ (or3_ (shl3_ y 14) (shl3_ m 11)) (shl3_ d 4)) w % 16 = w := by
  rw [show shl3_ y 14 = y * 16384 from shl3_n 14 (by omega) y0 (by omega), show shl3_ m 11 = m * 2048 from shl3_n 11 (by omega) m0 (by omega), show shl3_ d 4 = d * 16 from shl3_n 4 (by omega) d0 (by omega)]
  obtain ⟨p, hp⟩ : ∃ p : Nat, p = (y * 16384).toNat ||| (m * 2048).toNat := ⟨_, rfl⟩
  have l1 : (y * 16384).toNat ||| (m * 2048).toNat < 2 ^ 26 := Nat.or_lt_two_pow (by omega) (by omega)
  rw [or3_n (a := y * 16384) (by omega) (by omega) (by omega) (by omega), ← hp]
  rw [← hp] at l1
  have m1' : p % 2 ^ 4 = 0 := by
    rw [hp, Nat.or_mod_two_pow, show (y * 16384).toNat % 2 ^ 4 = 0 by omega, show (m * 2048).toNat % 2 ^ 4 = 0 by omega]
    rfl
  obtain ⟨q, hq⟩ : ∃ q : Nat, q = p ||| (d * 16).toNat := ⟨_, rfl⟩
  have l2 : p ||| (d * 16).toNat < 2 ^ 26 := Nat.or_lt_two_pow (by omega) (by omega)
  rw [or3_n (a := (p : Int)) (by omega) (by omega) (by omega) (by omega), Int.toNat_natCast, ← hq]
  rw [← hq] at l2
  have m2' : q % 2 ^ 4 = 0 := by
    rw [hq, Nat.or_mod_two_pow, m1', show (d * 16).toNat % 2 ^ 4 = 0 by omega]
    rfl
  have l3 : q ||| w.toNat < 2 ^ 26 := Nat.or_lt_two_pow (by omega) (by omega)
  rw [or3_n (a := (q : Int)) (by omega) (by omega) (by omega) (by omega), Int.toNat_natCast]
  have m3 : (q ||| w.toNat) % 2 ^ 4 = w.toNat := by
    rw [Nat.or_mod_two_pow, m2', Nat.zero_or]
    omega
  omega
/-- fewer locals -/
def wd_ : List Sv_t → List Sv_t → Prop
  | [], [] => True
  | v :: L, w :: L' => (w = (9, 0) ∨ v = w) ∧ wd_ L L'
  | _, _ => False
theorem wd_at : ∀ {L L' : List Sv_t}, wd_ L L' → L.length = L'.length ∧ ∀ (j : Nat) (v : Sv_t), L'[j]? = some v → v = (9, 0) ∨ L[j]? = some v
  | [], [], _ => ⟨rfl, fun j v h => by simp at h⟩
  | v :: L, w :: L', h => by
    obtain ⟨h1, h2⟩ := h
    obtain ⟨i1, i2⟩ := wd_at h2
    refine ⟨by simp [i1], fun j u hu => ?_⟩
    match j, hu with
    | 0, hu =>
      simp at hu
      subst hu
      rcases h1 with h1 | h1
      · exact Or.inl h1
      · exact Or.inr (by simp [h1])
    | j + 1, hu =>
      rw [List.getElem?_cons_succ] at hu ⊢
      exact i2 j u hu
  | [], _ :: _, h => h.elim
  | _ :: _, [], h => h.elim
theorem wdrop_ {X : Cx_t} {G : Gx_t} {Q : State → Prop} {cl sl pc : Nat} {ad shs : List Nat} {σ : Me_t} {L L' S : List Sv_t} (h : wd_ L L') (k : WP_ X G Q cl sl ad shs σ pc L' S) : WP_ X G Q cl sl ad shs σ pc L S := by
  obtain ⟨h1, h2⟩ := wd_at h
  intro hM hA H locs ls hP hD hS hlh vL vS
  refine k hM hA H locs ls hP hD hS ⟨hlh.1.trans h1, hlh.2.1, fun j v hj h9 => ?_⟩ (fun v hv => ?_) vS
  · rcases h2 j v hj with rfl | h
    · exact absurd rfl h9
    · exact hlh.2.2 j v h h9
  · obtain ⟨j, hj⟩ := List.getElem?_of_mem hv
    rcases h2 j v hj with rfl | h
    · trivial
    · exact vL v (List.mem_of_getElem? h)
/-- the reader's bytes -/
theorem retag_ {X : Cx_t} {G : Gx_t} {Q : State → Prop} {cl sl pc : Nat} {ad : List Nat} {σ : Me_t} {L S : List Sv_t} {v : Sv_t} {z : Int} (h : z = 2) (k : WP_ X G Q cl sl ad SHS_ σ pc L (v :: (12, 2) :: S)) : WP_ X G Q cl sl ad SHS_ σ pc L (v :: (2, z) :: S) := by
  subst h
  intro hM hA H locs ls hP hD hS hlh vL vS
  have := k hM hA H locs ls hP hD hS hlh vL (vc_ (vt_ vS).1 (vc_ ⟨by decide, rfl⟩ (vt_ (vt_ vS).2).2))
  exact this
/-- the dates' low bits -/
def DT (σ : Me_t) : Prop := ∀ j : Int, 0 ≤ j → j < 6000 → σ 31 j = -1 ∨ (0 ≤ σ 31 j ∧ σ 31 j % 16 ≤ 10)
theorem DT_fr {σ σ' : Me_t} (h : DT σ) (f : ∀ k j : Int, k = 31 → σ' k j = σ k j) : DT σ' := fun j h0 h1 => by rw [f 31 j rfl]; exact h j h0 h1
theorem DT_st {σ σ' : Me_t} {x z : Int} (h : DT σ) (e : σ' = ups_ σ 31 x z) (hz : z = -1 ∨ (0 ≤ z ∧ z % 16 ≤ 10)) : DT σ' := fun j h0 h1 => by
  by_cases hj : j = x
  · subst hj
    rw [ups_v e]
    exact hz
  · rw [ups_r e (Or.inr hj)]
    exact h j h0 h1
/-- a row that tells what was seen -/
def TD (σ : Me_t) (r : Int) : Prop := ∀ j : Int, 0 ≤ j → j + 3 ≤ σ r 3 → j % 3 = 0 → (0 ≤ σ (r + 1) j ∧ σ (r + 1) j ≤ 2) ∧ 0 ≤ σ (r + 1) (j + 1) ∧ σ (r + 1) (j + 1) ≤ 4
theorem TD_fr {σ σ' : Me_t} {r : Int} (h : TD σ r) (f : ∀ k j : Int, k = r ∨ k = r + 1 → σ' k j = σ k j) : TD σ' r := fun j h0 h1 h2 => by
  rw [f r 3 (Or.inl rfl)] at h1
  rw [f (r + 1) j (Or.inr rfl), f (r + 1) (j + 1) (Or.inr rfl)]
  exact h j h0 h1 h2
/-- the stack of what may be taken back: the i-th change's kind f, number g -/
def UN_ (f g : Int → Int) : Nat → Int → Int → Prop
  | 0, fc, tc => 0 ≤ fc ∧ fc ≤ 12 ∧ 0 ≤ tc ∧ tc ≤ 12
  | n + 1, fc, tc => (0 ≤ fc ∧ fc ≤ 12 ∧ 0 ≤ tc ∧ tc ≤ 12) ∧ ((f n = 1 ∧ g n = fc - 1 ∧ UN_ f g n (fc - 1) tc) ∨ (f n = 2 ∧ g n = tc - 1 ∧ UN_ f g n fc (tc - 1)) ∨ (f n ≠ 1 ∧ f n ≠ 2 ∧ 0 ≤ g n ∧ g n ≤ fc ∧ fc ≤ 11 ∧ UN_ f g n (fc + 1) tc))
theorem UN_bd {f g : Int → Int} : ∀ {n : Nat} {fc tc : Int}, UN_ f g n fc tc → 0 ≤ fc ∧ fc ≤ 12 ∧ 0 ≤ tc ∧ tc ≤ 12
  | 0, _, _, h => h
  | _ + 1, _, _, h => h.1
theorem UN_cg {f g f' g' : Int → Int} : ∀ {n : Nat} {fc tc : Int}, (∀ i : Nat, i < n → f' i = f i ∧ g' i = g i) → UN_ f g n fc tc → UN_ f' g' n fc tc
  | 0, _, _, _, h => h
  | n + 1, fc, tc, e, h => by
    obtain ⟨h1, h2⟩ := h
    have ei := e n (Nat.lt_succ_self n)
    have ih := fun (fc tc : Int) => UN_cg (n := n) (fc := fc) (tc := tc) (fun i hi => e i (Nat.lt_succ_of_lt hi))
    refine ⟨h1, ?_⟩
    rw [ei.1, ei.2]
    rcases h2 with ⟨a, b, c⟩ | ⟨a, b, c⟩ | ⟨a, b, c, d, e', x⟩
    · exact Or.inl ⟨a, b, ih _ _ c⟩
    · exact Or.inr (Or.inl ⟨a, b, ih _ _ c⟩)
    · exact Or.inr (Or.inr ⟨a, b, c, d, e', ih _ _ x⟩)
def UW (σ : Me_t) (w : Int) : Prop := UN_ (fun i => σ (w + 4) (i * 6)) (fun i => σ (w + 4) (i * 6 + 1)) (σ w 5).toNat (σ w 3) (σ w 4)
def LG (σ : Me_t) (w : Int) : Prop := ∀ i : Int, 0 ≤ i → i ≤ 2 → i < σ w 2 → 1 ≤ σ (w + 1 + 4 + 2 * i) 3 ∧ 2 ≤ σ (w + 1 + 4 + 2 * i) 1
theorem UW_fr {σ σ' : Me_t} {w : Int} (h : UW σ w) (f : ∀ k j : Int, (k = w ∧ (j = 3 ∨ j = 4 ∨ j = 5)) ∨ k = w + 4 → σ' k j = σ k j) : UW σ' w := by
  unfold UW
  rw [f w 5 (by omega), f w 3 (by omega), f w 4 (by omega)]
  exact UN_cg (fun i _ => ⟨f _ _ (Or.inr rfl), f _ _ (Or.inr rfl)⟩) h
theorem LG_fr {σ σ' : Me_t} {w : Int} (h : LG σ w) (f : ∀ k j : Int, (k = w ∧ j = 2) ∨ (w + 5 ≤ k ∧ k ≤ w + 10) → σ' k j = σ k j) : LG σ' w := by
  intro i h0 h2 h1
  rw [f w 2 (by omega)] at h1
  rw [f _ 3 (by omega), f _ 1 (by omega)]
  exact h i h0 h2 h1
/-- the stack grows, or is cut -/
theorem UW_n {σ σ' : Me_t} {w : Int} (h : UW σ w) (h0 : 0 ≤ σ w 5) (h5 : σ' w 5 = σ w 5 + 1) (hj : ∀ j : Int, j < σ w 5 * 6 → σ' (w + 4) j = σ (w + 4) j)
    (hb : 0 ≤ σ' w 3 ∧ σ' w 3 ≤ 12 ∧ 0 ≤ σ' w 4 ∧ σ' w 4 ≤ 12)
    (hc : (σ' (w + 4) (σ w 5 * 6) = 1 ∧ σ' (w + 4) (σ w 5 * 6 + 1) = σ' w 3 - 1 ∧ σ' w 3 = σ w 3 + 1 ∧ σ' w 4 = σ w 4) ∨ (σ' (w + 4) (σ w 5 * 6) = 2 ∧ σ' (w + 4) (σ w 5 * 6 + 1) = σ' w 4 - 1 ∧ σ' w 3 = σ w 3 ∧ σ' w 4 = σ w 4 + 1) ∨ (σ' (w + 4) (σ w 5 * 6) = 3 ∧ 0 ≤ σ' (w + 4) (σ w 5 * 6 + 1) ∧ σ' (w + 4) (σ w 5 * 6 + 1) ≤ σ' w 3 ∧ σ' w 3 = σ w 3 - 1 ∧ σ' w 4 = σ w 4)) : UW σ' w := by
  obtain ⟨n, hn⟩ : ∃ n : Nat, σ w 5 = n := ⟨(σ w 5).toNat, by omega⟩
  unfold UW at h ⊢
  rw [hn] at h hj hc h5
  rw [h5, show ((n : Int) + 1).toNat = n + 1 by omega]
  rw [Int.toNat_natCast] at h
  have h' := fun (fc tc : Int) => UN_cg (f := fun i => σ (w + 4) (i * 6)) (g := fun i => σ (w + 4) (i * 6 + 1)) (f' := fun i => σ' (w + 4) (i * 6)) (g' := fun i => σ' (w + 4) (i * 6 + 1)) (n := n) (fc := fc) (tc := tc) (fun i hi => ⟨hj _ (by omega), hj _ (by omega)⟩)
  refine ⟨hb, ?_⟩
  rcases hc with ⟨a, b, c, d⟩ | ⟨a, b, c, d⟩ | ⟨a, b, c, d, e⟩
  · refine Or.inl ⟨a, b, ?_⟩
    rw [show σ' w 3 - 1 = σ w 3 by omega, d]
    exact h' _ _ h
  · refine Or.inr (Or.inl ⟨a, b, ?_⟩)
    rw [show σ' w 4 - 1 = σ w 4 by omega, c]
    exact h' _ _ h
  · refine Or.inr (Or.inr ⟨by show σ' (w + 4) ((n : Int) * 6) ≠ 1; omega, by show σ' (w + 4) ((n : Int) * 6) ≠ 2; omega, b, c, by omega, ?_⟩)
    rw [show σ' w 3 + 1 = σ w 3 by omega, e]
    exact h' _ _ h
theorem UW_t {σ : Me_t} {w : Int} (h : UW σ w) (h0 : 1 ≤ σ w 5) : (σ (w + 4) ((σ w 5 - 1) * 6) = 1 ∧ σ (w + 4) ((σ w 5 - 1) * 6 + 1) = σ w 3 - 1 ∧ 1 ≤ σ w 3) ∨ (σ (w + 4) ((σ w 5 - 1) * 6) = 2 ∧ σ (w + 4) ((σ w 5 - 1) * 6 + 1) = σ w 4 - 1 ∧ 1 ≤ σ w 4) ∨ (σ (w + 4) ((σ w 5 - 1) * 6) ≠ 1 ∧ σ (w + 4) ((σ w 5 - 1) * 6) ≠ 2 ∧ 0 ≤ σ (w + 4) ((σ w 5 - 1) * 6 + 1) ∧ σ (w + 4) ((σ w 5 - 1) * 6 + 1) ≤ σ w 3 ∧ σ w 3 ≤ 11) := by
  obtain ⟨n, hn⟩ : ∃ n : Nat, σ w 5 = (n : Int) + 1 := ⟨(σ w 5 - 1).toNat, by omega⟩
  unfold UW at h
  rw [hn, show ((n : Int) + 1).toNat = n + 1 by omega] at h
  rw [hn, show (n : Int) + 1 - 1 = n by omega]
  obtain ⟨h1, h2⟩ := h
  rcases h2 with ⟨a, b, c⟩ | ⟨a, b, c⟩ | ⟨a, b, c, d, e, x⟩
  · exact Or.inl ⟨a, b, by have := UN_bd c; omega⟩
  · exact Or.inr (Or.inl ⟨a, b, by have := UN_bd c; omega⟩)
  · exact Or.inr (Or.inr ⟨a, b, c, d, e⟩)
theorem UW_c {σ σ' : Me_t} {w : Int} (h : UW σ w) (h0 : 1 ≤ σ w 5) (h5 : σ' w 5 = σ w 5 - 1) (hj : ∀ j : Int, σ' (w + 4) j = σ (w + 4) j)
    (hc : (σ (w + 4) ((σ w 5 - 1) * 6) = 1 ∧ σ' w 3 = σ w 3 - 1 ∧ σ' w 4 = σ w 4) ∨ (σ (w + 4) ((σ w 5 - 1) * 6) ≠ 1 ∧ σ (w + 4) ((σ w 5 - 1) * 6) = 2 ∧ σ' w 3 = σ w 3 ∧ σ' w 4 = σ w 4 - 1) ∨ (σ (w + 4) ((σ w 5 - 1) * 6) ≠ 1 ∧ σ (w + 4) ((σ w 5 - 1) * 6) ≠ 2 ∧ σ' w 3 = σ w 3 + 1 ∧ σ' w 4 = σ w 4)) : UW σ' w := by
  obtain ⟨n, hn⟩ : ∃ n : Nat, σ w 5 = (n : Int) + 1 := ⟨(σ w 5 - 1).toNat, by omega⟩
  unfold UW at h ⊢
  rw [hn, show ((n : Int) + 1).toNat = n + 1 by omega] at h
  rw [hn, show (n : Int) + 1 - 1 = n by omega] at hc
  rw [h5, hn, show ((n : Int) + 1 - 1).toNat = n by omega]
  have h' := fun (fc tc : Int) => UN_cg (f := fun i => σ (w + 4) (i * 6)) (g := fun i => σ (w + 4) (i * 6 + 1)) (f' := fun i => σ' (w + 4) (i * 6)) (g' := fun i => σ' (w + 4) (i * 6 + 1)) (n := n) (fc := fc) (tc := tc) (fun i hi => ⟨hj _, hj _⟩)
  obtain ⟨h1, h2⟩ := h
  rcases h2 with ⟨a, b, c⟩ | ⟨a, b, c⟩ | ⟨a, b, c, d, e, x⟩
  · rcases hc with q | q | q
    · rw [q.2.1, q.2.2]; exact h' _ _ c
    · exact absurd a q.1
    · exact absurd a q.1
  · rcases hc with q | q | q
    · have := q.1.symm.trans a; omega
    · rw [q.2.2.1, q.2.2.2]; exact h' _ _ c
    · exact absurd a q.2.1
  · rcases hc with q | q | q
    · exact absurd q.1 a
    · exact absurd q.2.1 b
    · rw [q.2.2.1, q.2.2.2]; exact h' _ _ x
/-- the class between calls -/
def CI (σ : Me_t) : Prop := ((σ 0 2 = 5 ∧ σ 0 3 = 16) ∨ (σ 0 2 = 16 ∧ σ 0 3 = 5)) ∧ (LG σ (σ 0 2) ∧ UW σ (σ 0 2)) ∧ (∀ w : Int, w = 45 ∨ w = 56 ∨ w = 67 → LG σ w ∧ UW σ w) ∧ DT σ
theorem CI_fr {σ σ' : Me_t} (h : CI σ) (f : ∀ k j : Int, (k = 0 ∧ (j = 2 ∨ j = 3)) ∨ (5 ≤ k ∧ k ≤ 26) ∨ k = 31 ∨ (45 ≤ k ∧ k ≤ 77) → σ' k j = σ k j) : CI σ' := by
  obtain ⟨h1, ⟨h2, h3⟩, h4, h5⟩ := h
  have e2 := f 0 2 (by omega)
  have e3 := f 0 3 (by omega)
  refine ⟨by rw [e2, e3]; exact h1, ?_, fun w hw => ?_, DT_fr h5 (fun k j hk => f k j (by omega))⟩
  · rw [e2]
    exact ⟨LG_fr h2 (fun k j hk => f k j (by omega)), UW_fr h3 (fun k j hk => f k j (by omega))⟩
  · exact ⟨LG_fr (h4 w hw).1 (fun k j hk => f k j (by omega)), UW_fr (h4 w hw).2 (fun k j hk => f k j (by omega))⟩
theorem CI_told {σ σ' : Me_t} (h : CI σ) (hd : DT σ') (f : ∀ k j : Int, ¬ (30 ≤ k ∧ k ≤ 33) → σ' k j = σ k j) : CI σ' := by
  obtain ⟨h1, ⟨h2, h3⟩, h4, h5⟩ := h
  have e2 := f 0 2 (by omega)
  have e3 := f 0 3 (by omega)
  refine ⟨by rw [e2, e3]; exact h1, ?_, fun w hw => ?_, hd⟩
  · rw [e2]
    exact ⟨LG_fr h2 (fun k j hk => f k j (by omega)), UW_fr h3 (fun k j hk => f k j (by omega))⟩
  · exact ⟨LG_fr (h4 w hw).1 (fun k j hk => f k j (by omega)), UW_fr (h4 w hw).2 (fun k j hk => f k j (by omega))⟩
theorem LG_eq {σ σ' : Me_t} {w : Int} (h : LG σ w) (e : σ' w 2 = σ w 2) (f : ∀ k j : Int, w + 5 ≤ k ∧ k ≤ w + 10 → σ' k j = σ k j) : LG σ' w := by
  intro i h0 h2 h1
  rw [e] at h1
  rw [f _ 3 (by omega), f _ 1 (by omega)]
  exact h i h0 h2 h1
theorem CI_cur {σ σ' : Me_t} {w : Int} (h : CI σ) (hw : w = σ 0 2) (e2 : σ' 0 2 = σ 0 2) (e3 : σ' 0 3 = σ 0 3) (hl : LG σ' w) (hu : UW σ' w) (f : ∀ k j : Int, k = 31 ∨ (45 ≤ k ∧ k ≤ 77) → σ' k j = σ k j) : CI σ' := by
  obtain ⟨h1, -, h4, h5⟩ := h
  refine ⟨by rw [e2, e3]; exact h1, ?_, fun x hx => ?_, DT_fr h5 (fun k j hk => f k j (by omega))⟩
  · rw [e2, ← hw]
    exact ⟨hl, hu⟩
  · exact ⟨LG_fr (h4 x hx).1 (fun k j hk => f k j (by omega)), UW_fr (h4 x hx).2 (fun k j hk => f k j (by omega))⟩
theorem CI_img {σ σ' : Me_t} {x : Int} (h : CI σ) (hx : x = 45 ∨ x = 56 ∨ x = 67) (hl : LG σ' x) (hu : UW σ' x) (f : ∀ k j : Int, ¬ (x ≤ k ∧ k ≤ x + 10) → σ' k j = σ k j) : CI σ' := by
  obtain ⟨h1, ⟨h2, h3⟩, h4, h5⟩ := h
  have e2 := f 0 2 (by omega)
  have e3 := f 0 3 (by omega)
  have hc : σ 0 2 = 5 ∨ σ 0 2 = 16 := by omega
  refine ⟨by rw [e2, e3]; exact h1, ?_, fun w hw => ?_, DT_fr h5 (fun k j hk => f k j (by omega))⟩
  · rw [e2]
    exact ⟨LG_fr h2 (fun k j hk => f k j (by omega)), UW_fr h3 (fun k j hk => f k j (by omega))⟩
  · by_cases e : w = x
    · rw [e]
      exact ⟨hl, hu⟩
    · exact ⟨LG_fr (h4 w hw).1 (fun k j hk => f k j (by omega)), UW_fr (h4 w hw).2 (fun k j hk => f k j (by omega))⟩
set_option maxRecDepth 100000 in
theorem wnl_X9_71 : Cond.methodLinkNest RX9 71 yX10_isYear RX10 ∈ lw_tbl := List.mem_of_getElem? (i := 728) (by decide +kernel)
set_option maxRecDepth 100000 in
theorem wnl_X9_82 : Cond.methodLinkNest RX9 82 yX10_isDay RX10 ∈ lw_tbl := List.mem_of_getElem? (i := 731) (by decide +kernel)
end
section
def as_G_X1_clear : Int → List Sv_t := fun a => [(20, a)]
def pre_G_X1_clear : Int → Me_t → Prop := fun a σ => True
def post_G_X1_clear : Int → Me_t → Int → Me_t → Prop := fun a σ z σ' => (σ' a 3 = 0) ∧ (σ' a 4 = 0) ∧ (σ' a 5 = -1) ∧ (σ' a 6 = 0) ∧ (σ' a 7 = 0) ∧ (∀ k j : Int, ¬ (k = a) → σ' k j = σ k j)
set_option maxHeartbeats 8000000 in
set_option maxRecDepth 100000 in
theorem ct_G_X1_clear (l : Launch) : CT_ l yX1_clear cX1_clear 1 none 0 0 as_G_X1_clear (rmV_) pre_G_X1_clear post_G_X1_clear := by
  refine ct_of (by decide) (fun _ => Nat.le_of_ble_eq_true rfl) ?_
  intro X G Q ad σ a hl hR E hG R hM hv hp
  obtain ⟨a0, rfl⟩ : ∃ q : Int, q = a := ⟨_, rfl⟩
  have k_a0 : isLand_ a0 := tvLand_ (hv (20, a0) (List.mem_of_getElem? (i := 0) rfl))
  have r_a0 : 10 ≤ a0 ∧ a0 ≤ 76 := by unfold isLand_ at k_a0; omega
  have B := @bk_ X G Q 0 0 ad SHS_ RX1 cX1_clear 1 none flX1 plX1 knX1 [] _ _ none kX1_clear [] flX1_ok plX1_ok knX1_ok eX1_clear oX1_clear
    (fun _ h => absurd h List.not_mem_nil) R sok_no E
  show WP_ X G Q 0 0 ad SHS_ σ 0 [(20, a0)] []
  refine B rfl ?_
  refine And.intro (by omega) ?_
  intro σ1 e2
  refine And.intro (by omega) ?_
  intro σ3 e4
  refine And.intro (by omega) ?_
  intro σ5 e6
  refine And.intro (by omega) ?_
  intro σ7 e8
  refine And.intro (by omega) ?_
  intro σ9 e10
  refine Exists.intro 0 (And.intro rfl ?_)
  have t11 : σ9 a0 3 = 0 := (((ups_r e10 (by omega)).trans ((ups_r e8 (by omega)).trans ((ups_r e6 (by omega)).trans (ups_r e4 (by omega)))))).trans (ups_v e2)
  have t12 : σ9 a0 4 = 0 := (((ups_r e10 (by omega)).trans (ups_r e8 (by omega)))).trans (ups_v e6)
  have t13 : σ9 a0 5 = (-1) := ((ups_r e10 (by omega))).trans (ups_v e8)
  have t14 : σ9 a0 6 = 0 := ups_v e10
  have t15 : σ9 a0 7 = 0 := (((ups_r e10 (by omega)).trans ((ups_r e8 (by omega)).trans (ups_r e6 (by omega))))).trans (ups_v e4)
  exact (And.intro (by show σ9 a0 3 = 0; omega) (And.intro (by show σ9 a0 4 = 0; omega) (And.intro (by show σ9 a0 5 = -1; omega) (And.intro (by show σ9 a0 6 = 0; omega) (And.intro (by show σ9 a0 7 = 0; omega) (fun k j hk => ((ups_r e10 (by omega)).trans ((ups_r e8 (by omega)).trans ((ups_r e6 (by omega)).trans ((ups_r e4 (by omega)).trans (ups_r e2 (by omega))))))))))))
def as_G_X1_copyOf : Int × Int → List Sv_t := fun a => [(20, a.1), (20, a.2)]
def pre_G_X1_copyOf : Int × Int → Me_t → Prop := fun a σ => (a.1 + 1 < a.2 ∨ a.2 + 1 < a.1)
def post_G_X1_copyOf : Int × Int → Me_t → Int → Me_t → Prop := fun a σ z σ' => (σ' a.1 1 = σ a.2 1) ∧ (σ' a.1 3 = σ a.2 3) ∧ (∀ k j : Int, ¬ (k = a.1 ∨ k = a.1 + 1) → σ' k j = σ k j)
set_option maxHeartbeats 8000000 in
set_option maxRecDepth 100000 in
theorem ct_G_X1_copyOf (l : Launch) : CT_ l yX1_copyOf cX1_copyOf 2 none 1 40 as_G_X1_copyOf (rmV_) pre_G_X1_copyOf post_G_X1_copyOf := by
  refine ct_of (by decide) (fun _ => Nat.le_of_ble_eq_true rfl) ?_
  intro X G Q ad σ a hl hR E hG R hM hv hp
  obtain ⟨a0, a1⟩ := a
  have k_a0 : isLand_ a0 := tvLand_ (hv (20, a0) (List.mem_of_getElem? (i := 0) rfl))
  have r_a0 : 10 ≤ a0 ∧ a0 ≤ 76 := by unfold isLand_ at k_a0; omega
  have k_a1 : isLand_ a1 := tvLand_ (hv (20, a1) (List.mem_of_getElem? (i := 1) rfl))
  have r_a1 : 10 ≤ a1 ∧ a1 ≤ 76 := by unfold isLand_ at k_a1; omega
  have hp0 : a0 + 1 < a1 ∨ a1 + 1 < a0 := hp
  have B := @bk_ X G Q 0 0 ad SHS_ RX1 cX1_copyOf 2 none flX1 plX1 knX1 [(81, 5, TAC_)] _ _ none kX1_copyOf [] flX1_ok plX1_ok knX1_ok eX1_copyOf oX1_copyOf
    (List.forall_mem_cons.mpr ⟨cok_ac (idx := 40) E (by rw [hR]; decide) wa_X1_40, fun _ h => absurd h List.not_mem_nil⟩) R sok_no E
  show WP_ X G Q 0 0 ad SHS_ σ 0 [(20, a0), (20, a1)] []
  refine B rfl ?_
  intro z1 ez1 hz1
  have hz1 : (0 : Int) ≤ z1 ∧ z1 ≤ (999 : Int) := hz1
  refine And.intro (by omega) ?_
  intro σ2 e3
  intro z4 ez4 hz4
  have hz4 : (0 : Int) ≤ z4 ∧ z4 ≤ (10 : Int) := hz4
  try have t5 : σ2 a1 1 = σ a1 1 := (ups_r e3 (by omega))
  refine And.intro (by omega) ?_
  intro σ6 e7
  intro z8 ez8 hz8
  have hz8 : (0 : Int) ≤ z8 ∧ z8 ≤ (1022 : Int) := hz8
  try have t9 : σ6 a1 2 = σ a1 2 := ((ups_r e7 (by omega)).trans (ups_r e3 (by omega)))
  try have t10 : σ6 a1 2 = σ2 a1 2 := (ups_r e7 (by omega))
  refine And.intro (by omega) ?_
  intro σ11 e12
  intro z13 ez13 hz13
  have hz13 : (0 : Int) ≤ z13 ∧ z13 ≤ (8 : Int) := hz13
  try have t14 : σ11 a1 3 = σ a1 3 := ((ups_r e12 (by omega)).trans ((ups_r e7 (by omega)).trans (ups_r e3 (by omega))))
  try have t15 : σ11 a1 3 = σ6 a1 3 := (ups_r e12 (by omega))
  refine And.intro (by omega) ?_
  intro σ16 e17
  intro z18 ez18 hz18
  have hz18 : (0 : Int) ≤ z18 ∧ z18 ≤ (9 : Int) := hz18
  try have t19 : σ16 a1 4 = σ a1 4 := ((ups_r e17 (by omega)).trans ((ups_r e12 (by omega)).trans ((ups_r e7 (by omega)).trans (ups_r e3 (by omega)))))
  try have t20 : σ16 a1 4 = σ11 a1 4 := (ups_r e17 (by omega))
  refine And.intro (by omega) ?_
  intro σ21 e22
  intro z23 ez23 hz23
  have hz23 : ((-1) : Int) ≤ z23 ∧ z23 ≤ (7 : Int) := hz23
  try have t24 : σ21 a1 5 = σ a1 5 := ((ups_r e22 (by omega)).trans ((ups_r e17 (by omega)).trans ((ups_r e12 (by omega)).trans ((ups_r e7 (by omega)).trans (ups_r e3 (by omega))))))
  try have t25 : σ21 a1 5 = σ16 a1 5 := (ups_r e22 (by omega))
  refine And.intro (by omega) ?_
  intro σ26 e27
  intro z28 ez28 hz28
  have hz28 : (0 : Int) ≤ z28 ∧ z28 ≤ (9 : Int) := hz28
  try have t29 : σ26 a1 6 = σ a1 6 := ((ups_r e27 (by omega)).trans ((ups_r e22 (by omega)).trans ((ups_r e17 (by omega)).trans ((ups_r e12 (by omega)).trans ((ups_r e7 (by omega)).trans (ups_r e3 (by omega)))))))
  try have t30 : σ26 a1 6 = σ21 a1 6 := (ups_r e27 (by omega))
  refine And.intro (by omega) ?_
  intro σ31 e32
  intro z33 ez33 hz33
  have hz33 : (0 : Int) ≤ z33 ∧ z33 ≤ (480 : Int) := hz33
  try have t34 : σ31 a1 7 = σ a1 7 := ((ups_r e32 (by omega)).trans ((ups_r e27 (by omega)).trans ((ups_r e22 (by omega)).trans ((ups_r e17 (by omega)).trans ((ups_r e12 (by omega)).trans ((ups_r e7 (by omega)).trans (ups_r e3 (by omega))))))))
  try have t35 : σ31 a1 7 = σ26 a1 7 := (ups_r e32 (by omega))
  refine And.intro (by omega) ?_
  intro σ36 e37
  refine Exists.intro 11 (Exists.intro 11 (Exists.intro 1 (Exists.intro 0 (Exists.intro 0 (Exists.intro 8 (Exists.intro 8 (Exists.intro (a1 + 1) (Exists.intro (a0 + 1) (Exists.intro 0 (Exists.intro 0 (Exists.intro 8 (And.intro rfl (And.intro rfl (And.intro rfl (And.intro rfl (And.intro (by decide) (And.intro (by omega) ?_)))))))))))))))))
  intro σ38 e39
  refine Exists.intro 0 (And.intro rfl ?_)
  have t40 : σ38 a0 1 = z4 := (((ac_r e39 (by omega)).trans ((ups_r e37 (by omega)).trans ((ups_r e32 (by omega)).trans ((ups_r e27 (by omega)).trans ((ups_r e22 (by omega)).trans ((ups_r e17 (by omega)).trans (ups_r e12 (by omega))))))))).trans (ups_v e7)
  have t41 : σ38 a0 3 = z13 := (((ac_r e39 (by omega)).trans ((ups_r e37 (by omega)).trans ((ups_r e32 (by omega)).trans ((ups_r e27 (by omega)).trans (ups_r e22 (by omega))))))).trans (ups_v e17)
  exact (And.intro (by show σ38 a0 1 = σ a1 1; omega) (And.intro (by show σ38 a0 3 = σ a1 3; omega) (fun k j hk => ((ac_r e39 (by omega)).trans ((ups_r e37 (by omega)).trans ((ups_r e32 (by omega)).trans ((ups_r e27 (by omega)).trans ((ups_r e22 (by omega)).trans ((ups_r e17 (by omega)).trans ((ups_r e12 (by omega)).trans ((ups_r e7 (by omega)).trans (ups_r e3 (by omega)))))))))))))
def as_G_X1_appendMonth : Int × Int → List Sv_t := fun a => [(20, a.1), (0, a.2)]
def pre_G_X1_appendMonth : Int × Int → Me_t → Prop := fun a σ => (σ a.1 3 ≤ 7) ∧ (0 ≤ a.2) ∧ (a.2 ≤ 60) ∧ (σ a.1 7 + a.2 ≤ 480)
def post_G_X1_appendMonth : Int × Int → Me_t → Int → Me_t → Prop := fun a σ z σ' => (σ' a.1 3 = σ a.1 3 + 1) ∧ (σ' a.1 7 = σ a.1 7 + a.2) ∧ (σ' a.1 1 = σ a.1 1) ∧ (∀ k j : Int, ¬ (k = a.1 ∨ k = a.1 + 1) → σ' k j = σ k j)
set_option maxHeartbeats 8000000 in
set_option maxRecDepth 100000 in
theorem ct_G_X1_appendMonth (l : Launch) : CT_ l yX1_appendMonth cX1_appendMonth 2 none 0 0 as_G_X1_appendMonth (rmV_) pre_G_X1_appendMonth post_G_X1_appendMonth := by
  refine ct_of (by decide) (fun _ => Nat.le_of_ble_eq_true rfl) ?_
  intro X G Q ad σ a hl hR E hG R hM hv hp
  obtain ⟨a0, a1⟩ := a
  have k_a0 : isLand_ a0 := tvLand_ (hv (20, a0) (List.mem_of_getElem? (i := 0) rfl))
  have r_a0 : 10 ≤ a0 ∧ a0 ≤ 76 := by unfold isLand_ at k_a0; omega
  have r_a1 : -2147483648 ≤ a1 ∧ a1 ≤ 2147483647 := hv (0, a1) (List.mem_of_getElem? (i := 1) rfl)
  have hp0 : σ a0 3 ≤ 7 := hp.1
  have hp1 : 0 ≤ a1 := hp.2.1
  have hp2 : a1 ≤ 60 := hp.2.2.1
  have hp3 : σ a0 7 + a1 ≤ 480 := hp.2.2.2
  have B := @bk_ X G Q 0 0 ad SHS_ RX1 cX1_appendMonth 2 none flX1 plX1 knX1 [] _ _ none kX1_appendMonth [] flX1_ok plX1_ok knX1_ok eX1_appendMonth oX1_appendMonth
    (fun _ h => absurd h List.not_mem_nil) R sok_no E
  show WP_ X G Q 0 0 ad SHS_ σ 0 [(20, a0), (0, a1)] []
  refine B rfl ?_
  intro z1 ez1 hz1
  have hz1 : (0 : Int) ≤ z1 ∧ z1 ≤ (8 : Int) := hz1
  refine And.intro (by omega) ?_
  refine And.intro (by show (0 : Int) ≤ _ ∧ _ ≤ (60 : Int); omega) ?_
  intro σ2 e3
  intro z4 ez4 hz4
  have hz4 : (0 : Int) ≤ z4 ∧ z4 ≤ (8 : Int) := hz4
  try have t5 : σ2 a0 3 = σ a0 3 := (ups_r e3 (by omega))
  refine And.intro (by omega) ?_
  refine And.intro (by omega) ?_
  intro σ6 e7
  intro z8 ez8 hz8
  have hz8 : (0 : Int) ≤ z8 ∧ z8 ≤ (480 : Int) := hz8
  try have t9 : σ6 a0 7 = σ a0 7 := ((ups_r e7 (by omega)).trans (ups_r e3 (by omega)))
  try have t10 : σ6 a0 7 = σ2 a0 7 := (ups_r e7 (by omega))
  refine And.intro (by omega) ?_
  refine And.intro (by omega) ?_
  intro σ11 e12
  refine Exists.intro 0 (And.intro rfl ?_)
  have t13 : σ11 a0 3 = z4 + 1 := ((ups_r e12 (by omega))).trans (ups_v e7)
  have t14 : σ11 a0 7 = z8 + a1 := ups_v e12
  try have t15 : σ11 a0 1 = σ a0 1 := ((ups_r e12 (by omega)).trans ((ups_r e7 (by omega)).trans (ups_r e3 (by omega))))
  try have t16 : σ11 a0 1 = σ6 a0 1 := (ups_r e12 (by omega))
  exact (And.intro (by show σ11 a0 3 = σ a0 3 + 1; omega) (And.intro (by show σ11 a0 7 = σ a0 7 + a1; omega) (And.intro (by show σ11 a0 1 = σ a0 1; omega) (fun k j hk => ((ups_r e12 (by omega)).trans ((ups_r e7 (by omega)).trans (ups_r e3 (by omega))))))))
def as_G_X1_hasWeekday : Int × Int → List Sv_t := fun a => [(20, a.1), (0, a.2)]
def pre_G_X1_hasWeekday : Int × Int → Me_t → Prop := fun a σ => True
def post_G_X1_hasWeekday : Int × Int → Me_t → Int → Me_t → Prop := fun a σ z σ' => (0 ≤ z ∧ z ≤ 1) ∧ (σ = σ')
set_option maxHeartbeats 8000000 in
set_option maxRecDepth 100000 in
theorem ct_G_X1_hasWeekday (l : Launch) : CT_ l yX1_hasWeekday cX1_hasWeekday 2 (some .boolean) 0 0 as_G_X1_hasWeekday (rmI_) pre_G_X1_hasWeekday post_G_X1_hasWeekday := by
  refine ct_of (by decide) (fun _ => Nat.le_of_ble_eq_true rfl) ?_
  intro X G Q ad σ a hl hR E hG R hM hv hp
  obtain ⟨a0, a1⟩ := a
  have k_a0 : isLand_ a0 := tvLand_ (hv (20, a0) (List.mem_of_getElem? (i := 0) rfl))
  have r_a0 : 10 ≤ a0 ∧ a0 ≤ 76 := by unfold isLand_ at k_a0; omega
  have r_a1 : -2147483648 ≤ a1 ∧ a1 ≤ 2147483647 := hv (0, a1) (List.mem_of_getElem? (i := 1) rfl)
  have B := @bk_ X G Q 0 0 ad SHS_ RX1 cX1_hasWeekday 2 (some .boolean) flX1 plX1 knX1 [] _ _ none kX1_hasWeekday [] flX1_ok plX1_ok knX1_ok eX1_hasWeekday oX1_hasWeekday
    (fun _ h => absurd h List.not_mem_nil) R sok_no E
  show WP_ X G Q 0 0 ad SHS_ σ 0 [(20, a0), (0, a1)] []
  refine B rfl ?_
  refine And.intro (fun h1 => ?_) (fun h1 => ?_)
  · skip
    refine B rfl ?_
    refine And.intro (by omega) ?_
    refine Exists.intro _ (And.intro rfl ?_)
    exact (And.intro (by show 0 ≤ 0 ∧ 0 ≤ 1; omega) rfl)
  · skip
    intro z2 ez2 hz2
    have hz2 : (0 : Int) ≤ z2 ∧ z2 ≤ (10 : Int) := hz2
    refine And.intro (fun h3 => ?_) (fun h3 => ?_)
    · skip
      refine B rfl ?_
      refine And.intro (by omega) ?_
      refine Exists.intro _ (And.intro rfl ?_)
      exact (And.intro (by show 0 ≤ 0 ∧ 0 ≤ 1; omega) rfl)
    · skip
      refine B rfl ?_
      refine And.intro (by omega) ?_
      refine Exists.intro _ (And.intro rfl ?_)
      exact (And.intro (by show 0 ≤ 1 ∧ 1 ≤ 1; omega) rfl)
def as_G_X1_isLeapYear : Int × Int → List Sv_t := fun a => [(20, a.1), (0, a.2)]
def pre_G_X1_isLeapYear : Int × Int → Me_t → Prop := fun a σ => (0 ≤ a.2)
def post_G_X1_isLeapYear : Int × Int → Me_t → Int → Me_t → Prop := fun a σ z σ' => (0 ≤ z ∧ z ≤ 1) ∧ (σ = σ')
set_option maxHeartbeats 8000000 in
set_option maxRecDepth 100000 in
theorem ct_G_X1_isLeapYear (l : Launch) : CT_ l yX1_isLeapYear cX1_isLeapYear 2 (some .boolean) 0 0 as_G_X1_isLeapYear (rmI_) pre_G_X1_isLeapYear post_G_X1_isLeapYear := by
  refine ct_of (by decide) (fun _ => Nat.le_of_ble_eq_true rfl) ?_
  intro X G Q ad σ a hl hR E hG R hM hv hp
  obtain ⟨a0, a1⟩ := a
  have k_a0 : isLand_ a0 := tvLand_ (hv (20, a0) (List.mem_of_getElem? (i := 0) rfl))
  have r_a0 : 10 ≤ a0 ∧ a0 ≤ 76 := by unfold isLand_ at k_a0; omega
  have r_a1 : -2147483648 ≤ a1 ∧ a1 ≤ 2147483647 := hv (0, a1) (List.mem_of_getElem? (i := 1) rfl)
  have hp0 : 0 ≤ a1 := hp
  have B := @bk_ X G Q 0 0 ad SHS_ RX1 cX1_isLeapYear 2 (some .boolean) flX1 plX1 knX1 [] _ _ none kX1_isLeapYear [] flX1_ok plX1_ok knX1_ok eX1_isLeapYear oX1_isLeapYear
    (fun _ h => absurd h List.not_mem_nil) R sok_no E
  show WP_ X G Q 0 0 ad SHS_ σ 0 [(20, a0), (0, a1)] []
  refine B rfl ?_
  intro z1 ez1 hz1
  have hz1 : (0 : Int) ≤ z1 ∧ z1 ≤ (9 : Int) := hz1
  refine And.intro (fun h2 => ?_) (fun h2 => ?_)
  · skip
    refine B rfl ?_
    refine And.intro (by omega) ?_
    refine Exists.intro _ (And.intro rfl ?_)
    exact (And.intro (by show 0 ≤ 0 ∧ 0 ≤ 1; omega) rfl)
  · skip
    intro z3 ez3 hz3
    have hz3 : (0 : Int) ≤ z3 ∧ z3 ≤ (9 : Int) := hz3
    have q4 := tmod_r (x := a1) (y := z3) (by omega) (by omega)
    refine And.intro (by omega) ?_
    refine And.intro (fun h5 => ?_) (fun h5 => ?_)
    · skip
      refine B rfl ?_
      refine And.intro (by omega) ?_
      refine Exists.intro _ (And.intro rfl ?_)
      exact (And.intro (by show 0 ≤ 0 ∧ 0 ≤ 1; omega) rfl)
    · skip
      refine B rfl ?_
      refine And.intro (by omega) ?_
      refine Exists.intro _ (And.intro rfl ?_)
      exact (And.intro (by show 0 ≤ 1 ∧ 1 ≤ 1; omega) rfl)
def as_G_X1_lengthIn : Int × Int × Int → List Sv_t := fun a => [(20, a.1), (0, a.2.1), (0, a.2.2)]
def pre_G_X1_lengthIn : Int × Int × Int → Me_t → Prop := fun a σ => (0 ≤ a.2.1) ∧ (a.2.1 ≤ 7) ∧ (0 ≤ a.2.2)
def post_G_X1_lengthIn : Int × Int × Int → Me_t → Int → Me_t → Prop := fun a σ z σ' => (0 ≤ z ∧ z ≤ 69) ∧ (σ = σ')
set_option maxHeartbeats 8000000 in
set_option maxRecDepth 100000 in
theorem ct_G_X1_lengthIn (l : Launch) : CT_ l yX1_lengthIn cX1_lengthIn 3 (some .int) 1 21 as_G_X1_lengthIn (rmI_) pre_G_X1_lengthIn post_G_X1_lengthIn := by
  refine ct_of (by decide) (fun _ => Nat.le_of_ble_eq_true rfl) ?_
  intro X G Q ad σ a hl hR E hG R hM hv hp
  obtain ⟨a0, a1, a2⟩ := a
  have k_a0 : isLand_ a0 := tvLand_ (hv (20, a0) (List.mem_of_getElem? (i := 0) rfl))
  have r_a0 : 10 ≤ a0 ∧ a0 ≤ 76 := by unfold isLand_ at k_a0; omega
  have r_a1 : -2147483648 ≤ a1 ∧ a1 ≤ 2147483647 := hv (0, a1) (List.mem_of_getElem? (i := 1) rfl)
  have r_a2 : -2147483648 ≤ a2 ∧ a2 ≤ 2147483647 := hv (0, a2) (List.mem_of_getElem? (i := 2) rfl)
  have hp0 : 0 ≤ a1 := hp.1
  have hp1 : a1 ≤ 7 := hp.2.1
  have hp2 : 0 ≤ a2 := hp.2.2
  have B := @bk_ X G Q 0 0 ad SHS_ RX1 cX1_lengthIn 3 (some .int) flX1 plX1 knX1 [(92, 2, TR_ as_G_X1_isLeapYear (rmI_) pre_G_X1_isLeapYear post_G_X1_isLeapYear)] _ _ none kX1_lengthIn [] flX1_ok plX1_ok knX1_ok eX1_lengthIn oX1_lengthIn
    (List.forall_mem_cons.mpr ⟨cok_v (t := 10) (c := 1) (N := 9) (n := 1) (idx := 46) E (ct_G_X1_isLeapYear X.2.1) (by rw [hR]; decide) (Nat.zero_le _) (Nat.zero_le _) hG rfl rfl ⟨rfl, by decide, by decide, by decide⟩ (fun _ => ⟨_, _, rfl, rfl⟩) wl_X1_46 wi_X1_isLeapYear ws_X1_isLeapYear wn_X1 wc_X1_isLeapYear, fun _ h => absurd h List.not_mem_nil⟩) R sok_no E
  show WP_ X G Q 0 0 ad SHS_ σ 0 [(20, a0), (0, a1), (0, a2)] []
  refine B rfl ?_
  intro z1 ez1 hz1
  have hz1 : ((-1) : Int) ≤ z1 ∧ z1 ≤ (7 : Int) := hz1
  refine And.intro (fun h2 => ?_) (fun h2 => ?_)
  · skip
    refine B rfl ?_
    refine And.intro (by omega) ?_
    intro z3 ez3 hz3
    have hz3 : (0 : Int) ≤ z3 ∧ z3 ≤ (60 : Int) := hz3
    refine Exists.intro _ (And.intro rfl ?_)
    exact (And.intro (by show 0 ≤ z3 ∧ z3 ≤ 69; omega) rfl)
  · skip
    refine Exists.intro (a0, a2) (And.intro rfl (And.intro (by show 0 ≤ a2; omega) ?_))
    rintro z4 m_ h5
    obtain rfl : σ = m_ := h5.2
    have h6 : 0 ≤ z4 ∧ z4 ≤ 1 := h5.1
    refine And.intro (fun h7 => ?_) (fun h7 => ?_)
    · skip
      refine B rfl ?_
      refine And.intro (by omega) ?_
      intro z8 ez8 hz8
      have hz8 : (0 : Int) ≤ z8 ∧ z8 ≤ (60 : Int) := hz8
      refine Exists.intro _ (And.intro rfl ?_)
      exact (And.intro (by show 0 ≤ z8 ∧ z8 ≤ 69; omega) rfl)
    · skip
      refine And.intro (by omega) ?_
      intro z9 ez9 hz9
      have hz9 : (0 : Int) ≤ z9 ∧ z9 ≤ (60 : Int) := hz9
      intro z10 ez10 hz10
      have hz10 : (0 : Int) ≤ z10 ∧ z10 ≤ (9 : Int) := hz10
      refine And.intro (by omega) ?_
      refine B rfl ?_
      refine Exists.intro _ (And.intro rfl ?_)
      exact (And.intro (by show 0 ≤ (z9 + z10) ∧ (z9 + z10) ≤ 69; omega) rfl)
def as_G_X1_leapCycle : Int → List Sv_t := fun a => [(20, a)]
def pre_G_X1_leapCycle : Int → Me_t → Prop := fun a σ => True
def post_G_X1_leapCycle : Int → Me_t → Int → Me_t → Prop := fun a σ z σ' => (0 ≤ z ∧ z ≤ 4329) ∧ (σ = σ')
set_option maxHeartbeats 8000000 in
set_option maxRecDepth 100000 in
theorem ct_G_X1_leapCycle (l : Launch) : CT_ l yX1_leapCycle cX1_leapCycle 1 (some .int) 0 0 as_G_X1_leapCycle (rmI_) pre_G_X1_leapCycle post_G_X1_leapCycle := by
  refine ct_of (by decide) (fun _ => Nat.le_of_ble_eq_true rfl) ?_
  intro X G Q ad σ a hl hR E hG R hM hv hp
  obtain ⟨a0, rfl⟩ : ∃ q : Int, q = a := ⟨_, rfl⟩
  have k_a0 : isLand_ a0 := tvLand_ (hv (20, a0) (List.mem_of_getElem? (i := 0) rfl))
  have r_a0 : 10 ≤ a0 ∧ a0 ≤ 76 := by unfold isLand_ at k_a0; omega
  have B := @bk_ X G Q 0 0 ad SHS_ RX1 cX1_leapCycle 1 (some .int) flX1 plX1 knX1 [] _ _ none kX1_leapCycle [] flX1_ok plX1_ok knX1_ok eX1_leapCycle oX1_leapCycle
    (fun _ h => absurd h List.not_mem_nil) R sok_no E
  show WP_ X G Q 0 0 ad SHS_ σ 0 [(20, a0)] []
  refine B rfl ?_
  intro z1 ez1 hz1
  have hz1 : (0 : Int) ≤ z1 ∧ z1 ≤ (9 : Int) := hz1
  refine And.intro (fun h2 => ?_) (fun h2 => ?_)
  · skip
    refine B rfl ?_
    intro z3 ez3 hz3
    have hz3 : (0 : Int) ≤ z3 ∧ z3 ≤ (480 : Int) := hz3
    refine Exists.intro _ (And.intro rfl ?_)
    exact (And.intro (by show 0 ≤ z3 ∧ z3 ≤ 4329; omega) rfl)
  · skip
    intro z4 ez4 hz4
    have hz4 : (0 : Int) ≤ z4 ∧ z4 ≤ (9 : Int) := hz4
    intro z5 ez5 hz5
    have hz5 : (0 : Int) ≤ z5 ∧ z5 ≤ (480 : Int) := hz5
    have q6 : 0 ≤ z4 * z5 ∧ z4 * z5 ≤ 4320 := mul_r (A := 9) (B := 480) (by omega) (by omega) (by omega) (by omega)
    refine And.intro (by omega) ?_
    intro z7 ez7 hz7
    have hz7 : (0 : Int) ≤ z7 ∧ z7 ≤ (9 : Int) := hz7
    refine And.intro (by omega) ?_
    refine B rfl ?_
    refine Exists.intro _ (And.intro rfl ?_)
    exact (And.intro (by show 0 ≤ ((z4 * z5) + z7) ∧ ((z4 * z5) + z7) ≤ 4329; omega) rfl)
def as_G_X1_dayOn : Int × Int × Int × Int → List Sv_t := fun a => [(20, a.1), (0, a.2.1), (0, a.2.2.1), (0, a.2.2.2)]
def pre_G_X1_dayOn : Int × Int × Int × Int → Me_t → Prop := fun a σ => (0 ≤ a.2.1) ∧ (a.2.1 ≤ 2100) ∧ (0 ≤ a.2.2.1) ∧ (a.2.2.1 ≤ 100) ∧ (0 ≤ a.2.2.2) ∧ (a.2.2.2 ≤ 100)
def post_G_X1_dayOn : Int × Int × Int × Int → Me_t → Int → Me_t → Prop := fun a σ z σ' => (0 ≤ z ∧ z ≤ 2000000) ∧ (σ = σ')
set_option maxHeartbeats 8000000 in
set_option maxRecDepth 100000 in
theorem ct_G_X1_dayOn (l : Launch) : CT_ l yX1_dayOn cX1_dayOn 7 (some .int) 1 21 as_G_X1_dayOn (rmI_) pre_G_X1_dayOn post_G_X1_dayOn := by
  refine ct_of (by decide) (fun _ => Nat.le_of_ble_eq_true rfl) ?_
  intro X G Q ad σ a hl hR E hG R hM hv hp
  obtain ⟨a0, a1, a2, a3⟩ := a
  have k_a0 : isLand_ a0 := tvLand_ (hv (20, a0) (List.mem_of_getElem? (i := 0) rfl))
  have r_a0 : 10 ≤ a0 ∧ a0 ≤ 76 := by unfold isLand_ at k_a0; omega
  have r_a1 : -2147483648 ≤ a1 ∧ a1 ≤ 2147483647 := hv (0, a1) (List.mem_of_getElem? (i := 1) rfl)
  have r_a2 : -2147483648 ≤ a2 ∧ a2 ≤ 2147483647 := hv (0, a2) (List.mem_of_getElem? (i := 2) rfl)
  have r_a3 : -2147483648 ≤ a3 ∧ a3 ≤ 2147483647 := hv (0, a3) (List.mem_of_getElem? (i := 3) rfl)
  have hp0 : 0 ≤ a1 := hp.1
  have hp1 : a1 ≤ 2100 := hp.2.1
  have hp2 : 0 ≤ a2 := hp.2.2.1
  have hp3 : a2 ≤ 100 := hp.2.2.2.1
  have hp4 : 0 ≤ a3 := hp.2.2.2.2.1
  have hp5 : a3 ≤ 100 := hp.2.2.2.2.2
  have B := @bk_ X G Q 0 0 ad SHS_ RX1 cX1_dayOn 7 (some .int) flX1 plX1 knX1 [(92, 2, TR_ as_G_X1_isLeapYear (rmI_) pre_G_X1_isLeapYear post_G_X1_isLeapYear)] _ _ none kX1_dayOn [52] flX1_ok plX1_ok knX1_ok eX1_dayOn oX1_dayOn
    (List.forall_mem_cons.mpr ⟨cok_v (t := 10) (c := 1) (N := 9) (n := 1) (idx := 46) E (ct_G_X1_isLeapYear X.2.1) (by rw [hR]; decide) (Nat.zero_le _) (Nat.zero_le _) hG rfl rfl ⟨rfl, by decide, by decide, by decide⟩ (fun _ => ⟨_, _, rfl, rfl⟩) wl_X1_46 wi_X1_isLeapYear ws_X1_isLeapYear wn_X1 wc_X1_isLeapYear, fun _ h => absurd h List.not_mem_nil⟩) R sok_no E
  show WP_ X G Q 0 0 ad SHS_ σ 0 [(20, a0), (0, a1), (0, a2), (0, a3), (9, 0), (9, 0), (9, 0)] []
  refine B rfl ?_
  intro z1 ez1 hz1
  have hz1 : (0 : Int) ≤ z1 ∧ z1 ≤ (9 : Int) := hz1
  refine And.intro (fun h2 => ?_) (fun h2 => ?_)
  · skip
    refine B rfl ?_
    intro z3 ez3 hz3
    have hz3 : (0 : Int) ≤ z3 ∧ z3 ≤ (999 : Int) := hz3
    intro z4 ez4 hz4
    have hz4 : (0 : Int) ≤ z4 ∧ z4 ≤ (480 : Int) := hz4
    have q5 : 0 ≤ a1 * z4 ∧ a1 * z4 ≤ 1008000 := mul_r (A := 2100) (B := 480) (by omega) (by omega) (by omega) (by omega)
    refine And.intro (by omega) ?_
    refine And.intro (by omega) ?_
    intro z6 ez6 hz6
    have hz6 : (0 : Int) ≤ z6 ∧ z6 ≤ (9 : Int) := hz6
    refine And.intro (by omega) ?_
    refine And.intro (by omega) ?_
    refine And.intro (by omega) ?_
    refine wdrop_ (L' := [(20, a0), (0, a1), (0, a2), (9, 0), (9, 0), (0, ((z3 + (a1 * z4)) + (0 * z6)) + a3), (0, 0)]) ⟨Or.inr rfl, ⟨Or.inr rfl, ⟨Or.inr rfl, ⟨Or.inl rfl, ⟨Or.inl rfl, ⟨Or.inr rfl, ⟨Or.inr rfl, trivial⟩⟩⟩⟩⟩⟩⟩ ?_
    have lp_52 : ∀ (nq_ : Nat) (v5 : Int) (v6 : Int), (0 ≤ v6) → (v6 ≤ 8) → (0 ≤ v5) → (v5 ≤ 1100000 + 60 * v6) → (8 - v6).toNat < nq_ → WP_ X G Q 0 0 ad SHS_ σ 52 [(20, a0), (0, a1), (0, a2), (9, 0), (9, 0), (0, v5), (0, v6)] [] := by
      intro nq_
      induction nq_ with
      | zero => intros; omega
      | succ nq_ ih_52 =>
        intro v5 v6 hi52_0 hi52_1 hi52_2 hi52_3 hm52
        refine B rfl ?_
        refine And.intro (fun h7 => ?_) (fun h7 => ?_)
        · skip
          refine B rfl ?_
          intro z8 ez8 hz8
          have hz8 : ((-1) : Int) ≤ z8 ∧ z8 ≤ (7 : Int) := hz8
          refine And.intro (fun h9 => ?_) (fun h9 => ?_)
          · skip
            refine B rfl ?_
            refine Exists.intro _ (And.intro rfl ?_)
            exact (And.intro (by show 0 ≤ v5 ∧ v5 ≤ 2000000; omega) rfl)
          · skip
            refine Exists.intro (a0, a1) (And.intro rfl (And.intro (by show 0 ≤ a1; omega) ?_))
            rintro z10 m_ h11
            obtain rfl : σ = m_ := h11.2
            have h12 : 0 ≤ z10 ∧ z10 ≤ 1 := h11.1
            refine And.intro (fun h13 => ?_) (fun h13 => ?_)
            · skip
              refine B rfl ?_
              refine Exists.intro _ (And.intro rfl ?_)
              exact (And.intro (by show 0 ≤ v5 ∧ v5 ≤ 2000000; omega) rfl)
            · skip
              intro z14 ez14 hz14
              have hz14 : (0 : Int) ≤ z14 ∧ z14 ≤ (9 : Int) := hz14
              refine And.intro (by omega) ?_
              refine B rfl ?_
              refine Exists.intro _ (And.intro rfl ?_)
              exact (And.intro (by show 0 ≤ (v5 + z14) ∧ (v5 + z14) ≤ 2000000; omega) rfl)
        · skip
          intro z15 ez15 hz15
          have hz15 : (0 : Int) ≤ z15 ∧ z15 ≤ (8 : Int) := hz15
          refine And.intro (fun h16 => ?_) (fun h16 => ?_)
          · skip
            refine B rfl ?_
            intro z17 ez17 hz17
            have hz17 : ((-1) : Int) ≤ z17 ∧ z17 ≤ (7 : Int) := hz17
            refine And.intro (fun h18 => ?_) (fun h18 => ?_)
            · skip
              refine B rfl ?_
              refine Exists.intro _ (And.intro rfl ?_)
              exact (And.intro (by show 0 ≤ v5 ∧ v5 ≤ 2000000; omega) rfl)
            · skip
              refine Exists.intro (a0, a1) (And.intro rfl (And.intro (by show 0 ≤ a1; omega) ?_))
              rintro z19 m_ h20
              obtain rfl : σ = m_ := h20.2
              have h21 : 0 ≤ z19 ∧ z19 ≤ 1 := h20.1
              refine And.intro (fun h22 => ?_) (fun h22 => ?_)
              · skip
                refine B rfl ?_
                refine Exists.intro _ (And.intro rfl ?_)
                exact (And.intro (by show 0 ≤ v5 ∧ v5 ≤ 2000000; omega) rfl)
              · skip
                intro z23 ez23 hz23
                have hz23 : (0 : Int) ≤ z23 ∧ z23 ≤ (9 : Int) := hz23
                refine And.intro (by omega) ?_
                refine B rfl ?_
                refine Exists.intro _ (And.intro rfl ?_)
                exact (And.intro (by show 0 ≤ (v5 + z23) ∧ (v5 + z23) ≤ 2000000; omega) rfl)
          · skip
            refine And.intro (by omega) ?_
            intro z24 ez24 hz24
            have hz24 : (0 : Int) ≤ z24 ∧ z24 ≤ (60 : Int) := hz24
            refine And.intro (by omega) ?_
            refine And.intro (by omega) ?_
            exact ih_52 (v5 + z24) (v6 + 1) (by show 0 ≤ (v6 + 1); omega) (by show (v6 + 1) ≤ 8; omega) (by show 0 ≤ (v5 + z24); omega) (by show (v5 + z24) ≤ 1100000 + 60 * (v6 + 1); omega) (by omega)
    exact lp_52 (((8 - 0).toNat) + 1) (((z3 + (a1 * z4)) + (0 * z6)) + a3) 0 (by show 0 ≤ 0; omega) (by show 0 ≤ 8; omega) (by show 0 ≤ (((z3 + (a1 * z4)) + (0 * z6)) + a3); omega) (by show (((z3 + (a1 * z4)) + (0 * z6)) + a3) ≤ 1100000 + 60 * 0; omega) (by omega)
  · skip
    intro z25 ez25 hz25
    have hz25 : (0 : Int) ≤ z25 ∧ z25 ≤ (9 : Int) := hz25
    refine And.intro (by omega) ?_
    refine And.intro (by omega) ?_
    intro z26 ez26 hz26
    have hz26 : (0 : Int) ≤ z26 ∧ z26 ≤ (9 : Int) := hz26
    have q27 := tdiv_r (x := (a1 + z25) - 1) (y := z26) (by omega) (by omega)
    refine And.intro (by omega) ?_
    refine B rfl ?_
    intro z28 ez28 hz28
    have hz28 : (0 : Int) ≤ z28 ∧ z28 ≤ (999 : Int) := hz28
    intro z29 ez29 hz29
    have hz29 : (0 : Int) ≤ z29 ∧ z29 ≤ (480 : Int) := hz29
    have q30 : 0 ≤ a1 * z29 ∧ a1 * z29 ≤ 1008000 := mul_r (A := 2100) (B := 480) (by omega) (by omega) (by omega) (by omega)
    refine And.intro (by omega) ?_
    refine And.intro (by omega) ?_
    intro z31 ez31 hz31
    have hz31 : (0 : Int) ≤ z31 ∧ z31 ≤ (9 : Int) := hz31
    have q32 : 0 ≤ (Int.tdiv ((a1 + z25) - 1) z26) * z31 ∧ (Int.tdiv ((a1 + z25) - 1) z26) * z31 ≤ 19800 := mul_r (A := 2200) (B := 9) (by omega) (by omega) (by omega) (by omega)
    refine And.intro (by omega) ?_
    refine And.intro (by omega) ?_
    refine And.intro (by omega) ?_
    refine wdrop_ (L' := [(20, a0), (0, a1), (0, a2), (9, 0), (9, 0), (0, ((z28 + (a1 * z29)) + ((Int.tdiv ((a1 + z25) - 1) z26) * z31)) + a3), (0, 0)]) ⟨Or.inr rfl, ⟨Or.inr rfl, ⟨Or.inr rfl, ⟨Or.inl rfl, ⟨Or.inl rfl, ⟨Or.inr rfl, ⟨Or.inr rfl, trivial⟩⟩⟩⟩⟩⟩⟩ ?_
    have lp_52 : ∀ (nq_ : Nat) (v5_1 : Int) (v6_1 : Int), (0 ≤ v6_1) → (v6_1 ≤ 8) → (0 ≤ v5_1) → (v5_1 ≤ 1100000 + 60 * v6_1) → (8 - v6_1).toNat < nq_ → WP_ X G Q 0 0 ad SHS_ σ 52 [(20, a0), (0, a1), (0, a2), (9, 0), (9, 0), (0, v5_1), (0, v6_1)] [] := by
      intro nq_
      induction nq_ with
      | zero => intros; omega
      | succ nq_ ih_52 =>
        intro v5_1 v6_1 hi52_0 hi52_1 hi52_2 hi52_3 hm52
        refine B rfl ?_
        refine And.intro (fun h33 => ?_) (fun h33 => ?_)
        · skip
          refine B rfl ?_
          intro z34 ez34 hz34
          have hz34 : ((-1) : Int) ≤ z34 ∧ z34 ≤ (7 : Int) := hz34
          refine And.intro (fun h35 => ?_) (fun h35 => ?_)
          · skip
            refine B rfl ?_
            refine Exists.intro _ (And.intro rfl ?_)
            exact (And.intro (by show 0 ≤ v5_1 ∧ v5_1 ≤ 2000000; omega) rfl)
          · skip
            refine Exists.intro (a0, a1) (And.intro rfl (And.intro (by show 0 ≤ a1; omega) ?_))
            rintro z36 m_ h37
            obtain rfl : σ = m_ := h37.2
            have h38 : 0 ≤ z36 ∧ z36 ≤ 1 := h37.1
            refine And.intro (fun h39 => ?_) (fun h39 => ?_)
            · skip
              refine B rfl ?_
              refine Exists.intro _ (And.intro rfl ?_)
              exact (And.intro (by show 0 ≤ v5_1 ∧ v5_1 ≤ 2000000; omega) rfl)
            · skip
              intro z40 ez40 hz40
              have hz40 : (0 : Int) ≤ z40 ∧ z40 ≤ (9 : Int) := hz40
              refine And.intro (by omega) ?_
              refine B rfl ?_
              refine Exists.intro _ (And.intro rfl ?_)
              exact (And.intro (by show 0 ≤ (v5_1 + z40) ∧ (v5_1 + z40) ≤ 2000000; omega) rfl)
        · skip
          intro z41 ez41 hz41
          have hz41 : (0 : Int) ≤ z41 ∧ z41 ≤ (8 : Int) := hz41
          refine And.intro (fun h42 => ?_) (fun h42 => ?_)
          · skip
            refine B rfl ?_
            intro z43 ez43 hz43
            have hz43 : ((-1) : Int) ≤ z43 ∧ z43 ≤ (7 : Int) := hz43
            refine And.intro (fun h44 => ?_) (fun h44 => ?_)
            · skip
              refine B rfl ?_
              refine Exists.intro _ (And.intro rfl ?_)
              exact (And.intro (by show 0 ≤ v5_1 ∧ v5_1 ≤ 2000000; omega) rfl)
            · skip
              refine Exists.intro (a0, a1) (And.intro rfl (And.intro (by show 0 ≤ a1; omega) ?_))
              rintro z45 m_ h46
              obtain rfl : σ = m_ := h46.2
              have h47 : 0 ≤ z45 ∧ z45 ≤ 1 := h46.1
              refine And.intro (fun h48 => ?_) (fun h48 => ?_)
              · skip
                refine B rfl ?_
                refine Exists.intro _ (And.intro rfl ?_)
                exact (And.intro (by show 0 ≤ v5_1 ∧ v5_1 ≤ 2000000; omega) rfl)
              · skip
                intro z49 ez49 hz49
                have hz49 : (0 : Int) ≤ z49 ∧ z49 ≤ (9 : Int) := hz49
                refine And.intro (by omega) ?_
                refine B rfl ?_
                refine Exists.intro _ (And.intro rfl ?_)
                exact (And.intro (by show 0 ≤ (v5_1 + z49) ∧ (v5_1 + z49) ≤ 2000000; omega) rfl)
          · skip
            refine And.intro (by omega) ?_
            intro z50 ez50 hz50
            have hz50 : (0 : Int) ≤ z50 ∧ z50 ≤ (60 : Int) := hz50
            refine And.intro (by omega) ?_
            refine And.intro (by omega) ?_
            exact ih_52 (v5_1 + z50) (v6_1 + 1) (by show 0 ≤ (v6_1 + 1); omega) (by show (v6_1 + 1) ≤ 8; omega) (by show 0 ≤ (v5_1 + z50); omega) (by show (v5_1 + z50) ≤ 1100000 + 60 * (v6_1 + 1); omega) (by omega)
    exact lp_52 (((8 - 0).toNat) + 1) (((z28 + (a1 * z29)) + ((Int.tdiv ((a1 + z25) - 1) z26) * z31)) + a3) 0 (by show 0 ≤ 0; omega) (by show 0 ≤ 8; omega) (by show 0 ≤ (((z28 + (a1 * z29)) + ((Int.tdiv ((a1 + z25) - 1) z26) * z31)) + a3); omega) (by show (((z28 + (a1 * z29)) + ((Int.tdiv ((a1 + z25) - 1) z26) * z31)) + a3) ≤ 1100000 + 60 * 0; omega) (by omega)
end
section
def as_G_J9_min_7cf53 : Int × Int → List Sv_t := fun a => [(0, a.1), (0, a.2)]
def pre_G_J9_min_7cf53 : Int × Int → Me_t → Prop := fun a σ => True
def post_G_J9_min_7cf53 : Int × Int → Me_t → Int → Me_t → Prop := fun a σ z σ' => (z ≤ a.1 ∧ z ≤ a.2 ∧ (z = a.1 ∨ z = a.2)) ∧ (σ = σ')
set_option maxHeartbeats 8000000 in
set_option maxRecDepth 100000 in
theorem ct_G_J9_min_7cf53 (l : Launch) : CT_ l yJ9_min_7cf53 cJ9_min_7cf53 2 (some .int) 0 0 as_G_J9_min_7cf53 (rmI_) pre_G_J9_min_7cf53 post_G_J9_min_7cf53 := by
  refine ct_of (by decide) (fun _ => Nat.le_of_ble_eq_true rfl) ?_
  intro X G Q ad σ a hl hR E hG R hM hv hp
  obtain ⟨a0, a1⟩ := a
  have r_a0 : -2147483648 ≤ a0 ∧ a0 ≤ 2147483647 := hv (0, a0) (List.mem_of_getElem? (i := 0) rfl)
  have r_a1 : -2147483648 ≤ a1 ∧ a1 ≤ 2147483647 := hv (0, a1) (List.mem_of_getElem? (i := 1) rfl)
  have B := @bk_ X G Q 0 0 ad SHS_ RJ9 cJ9_min_7cf53 2 (some .int) flJ9 plJ9 knJ9 [] _ _ none kJ9_min_7cf53 [] flJ9_ok plJ9_ok knJ9_ok eJ9_min_7cf53 oJ9_min_7cf53
    (fun _ h => absurd h List.not_mem_nil) R sok_no E
  show WP_ X G Q 0 0 ad SHS_ σ 0 [(0, a0), (0, a1)] []
  refine B rfl ?_
  refine And.intro (fun h1 => ?_) (fun h1 => ?_)
  · skip
    refine B rfl ?_
    refine Exists.intro _ (And.intro rfl ?_)
    exact (And.intro (by show a1 ≤ a0 ∧ a1 ≤ a1 ∧ (a1 = a0 ∨ a1 = a1); omega) rfl)
  · skip
    refine B rfl ?_
    refine Exists.intro _ (And.intro rfl ?_)
    exact (And.intro (by show a0 ≤ a0 ∧ a0 ≤ a1 ∧ (a0 = a0 ∨ a0 = a1); omega) rfl)
def as_G_J9_max_7cf53 : Int × Int → List Sv_t := fun a => [(0, a.1), (0, a.2)]
def pre_G_J9_max_7cf53 : Int × Int → Me_t → Prop := fun a σ => True
def post_G_J9_max_7cf53 : Int × Int → Me_t → Int → Me_t → Prop := fun a σ z σ' => (a.1 ≤ z ∧ a.2 ≤ z ∧ (z = a.1 ∨ z = a.2)) ∧ (σ = σ')
set_option maxHeartbeats 8000000 in
set_option maxRecDepth 100000 in
theorem ct_G_J9_max_7cf53 (l : Launch) : CT_ l yJ9_max_7cf53 cJ9_max_7cf53 2 (some .int) 0 0 as_G_J9_max_7cf53 (rmI_) pre_G_J9_max_7cf53 post_G_J9_max_7cf53 := by
  refine ct_of (by decide) (fun _ => Nat.le_of_ble_eq_true rfl) ?_
  intro X G Q ad σ a hl hR E hG R hM hv hp
  obtain ⟨a0, a1⟩ := a
  have r_a0 : -2147483648 ≤ a0 ∧ a0 ≤ 2147483647 := hv (0, a0) (List.mem_of_getElem? (i := 0) rfl)
  have r_a1 : -2147483648 ≤ a1 ∧ a1 ≤ 2147483647 := hv (0, a1) (List.mem_of_getElem? (i := 1) rfl)
  have B := @bk_ X G Q 0 0 ad SHS_ RJ9 cJ9_max_7cf53 2 (some .int) flJ9 plJ9 knJ9 [] _ _ none kJ9_max_7cf53 [] flJ9_ok plJ9_ok knJ9_ok eJ9_max_7cf53 oJ9_max_7cf53
    (fun _ h => absurd h List.not_mem_nil) R sok_no E
  show WP_ X G Q 0 0 ad SHS_ σ 0 [(0, a0), (0, a1)] []
  refine B rfl ?_
  refine And.intro (fun h1 => ?_) (fun h1 => ?_)
  · skip
    refine B rfl ?_
    refine Exists.intro _ (And.intro rfl ?_)
    exact (And.intro (by show a0 ≤ a1 ∧ a1 ≤ a1 ∧ (a1 = a0 ∨ a1 = a1); omega) rfl)
  · skip
    refine B rfl ?_
    refine Exists.intro _ (And.intro rfl ?_)
    exact (And.intro (by show a0 ≤ a0 ∧ a1 ≤ a0 ∧ (a0 = a0 ∨ a0 = a1); omega) rfl)
def as_G_J7_fill_031fb : Int → List Sv_t := fun a => [(28, 33), (0, a)]
def pre_G_J7_fill_031fb : Int → Me_t → Prop := fun a σ => (-128 ≤ a) ∧ (a ≤ 127)
def post_G_J7_fill_031fb : Int → Me_t → Int → Me_t → Prop := fun a σ z σ' => (∀ k j : Int, ¬ (k = 33) → σ' k j = σ k j)
set_option maxHeartbeats 8000000 in
set_option maxRecDepth 100000 in
theorem ct_G_J7_fill_031fb (l : Launch) : CT_ l yJ7_fill_031fb cJ7_fill_031fb 4 none 0 0 as_G_J7_fill_031fb (rmV_) pre_G_J7_fill_031fb post_G_J7_fill_031fb := by
  refine ct_of (by decide) (fun _ => Nat.le_of_ble_eq_true rfl) ?_
  intro X G Q ad σ a hl hR E hG R hM hv hp
  obtain ⟨a1, rfl⟩ : ∃ q : Int, q = a := ⟨_, rfl⟩
  have r_a1 : -2147483648 ≤ a1 ∧ a1 ≤ 2147483647 := hv (0, a1) (List.mem_of_getElem? (i := 1) rfl)
  have hp0 : -128 ≤ a1 := hp.1
  have hp1 : a1 ≤ 127 := hp.2
  have B := @bk_ X G Q 0 0 ad SHS_ RJ7 cJ7_fill_031fb 4 none flJ7 plJ7 knJ7 [] _ _ none kJ7_fill_031fb [5] flJ7_ok plJ7_ok knJ7_ok eJ7_fill_031fb oJ7_fill_031fb
    (fun _ h => absurd h List.not_mem_nil) R sok_no E
  show WP_ X G Q 0 0 ad SHS_ σ 0 [(28, 33), (0, a1), (9, 0), (9, 0)] []
  refine B rfl ?_
  have lp_5 : ∀ (nq_ : Nat) (v2 : Int) (τ5 : Me_t), (∀ k j : Int, ¬ (k = 33) → τ5 k j = σ k j) → (0 ≤ v2) → (v2 ≤ 2000) → (2000 - v2).toNat < nq_ → WP_ X G Q 0 0 ad SHS_ τ5 5 [(28, 33), (0, a1), (0, v2), (0, 2000)] [] := by
    intro nq_
    induction nq_ with
    | zero => intros; omega
    | succ nq_ ih_5 =>
      intro v2 τ5 hf5 hi5_0 hi5_1 hm5
      refine B rfl ?_
      refine And.intro (fun h1 => ?_) (fun h1 => ?_)
      · skip
        refine B rfl ?_
        refine Exists.intro 0 (And.intro rfl ?_)
        exact (fun k j hk => (hf5 _ _ (by omega)))
      · skip
        refine And.intro (by omega) ?_
        refine And.intro (by show ((-128) : Int) ≤ _ ∧ _ ≤ (127 : Int); omega) ?_
        intro σ2 e3
        refine And.intro (by omega) ?_
        exact ih_5 (v2 + 1) σ2 (fun k j hk => ((ups_r e3 (by omega)).trans (hf5 _ _ (by omega)))) (by show 0 ≤ (v2 + 1); omega) (by show (v2 + 1) ≤ 2000; omega) (by omega)
  exact lp_5 (((2000 - 0).toNat) + 1) 0 σ (fun k j hk => rfl) (by show 0 ≤ 0; omega) (by show 0 ≤ 2000; omega) (by omega)
def as_G_J7_fill_53178 : Int → List Sv_t := fun a => [(36, 41), (0, a)]
def pre_G_J7_fill_53178 : Int → Me_t → Prop := fun a σ => (0 ≤ a) ∧ (a ≤ 2000)
def post_G_J7_fill_53178 : Int → Me_t → Int → Me_t → Prop := fun a σ z σ' => (∀ j : Int, 0 ≤ j → j < 12 → σ' 41 j = a) ∧ (∀ k j : Int, ¬ (k = 41) → σ' k j = σ k j)
set_option maxHeartbeats 8000000 in
set_option maxRecDepth 100000 in
theorem ct_G_J7_fill_53178 (l : Launch) : CT_ l yJ7_fill_53178 cJ7_fill_53178 4 none 0 0 as_G_J7_fill_53178 (rmV_) pre_G_J7_fill_53178 post_G_J7_fill_53178 := by
  refine ct_of (by decide) (fun _ => Nat.le_of_ble_eq_true rfl) ?_
  intro X G Q ad σ a hl hR E hG R hM hv hp
  obtain ⟨a1, rfl⟩ : ∃ q : Int, q = a := ⟨_, rfl⟩
  have r_a1 : -2147483648 ≤ a1 ∧ a1 ≤ 2147483647 := hv (0, a1) (List.mem_of_getElem? (i := 1) rfl)
  have hp0 : 0 ≤ a1 := hp.1
  have hp1 : a1 ≤ 2000 := hp.2
  have B := @bk_ X G Q 0 0 ad SHS_ RJ7 cJ7_fill_53178 4 none flJ7 plJ7 knJ7 [] _ _ none kJ7_fill_53178 [5] flJ7_ok plJ7_ok knJ7_ok eJ7_fill_53178 oJ7_fill_53178
    (fun _ h => absurd h List.not_mem_nil) R sok_no E
  show WP_ X G Q 0 0 ad SHS_ σ 0 [(36, 41), (0, a1), (9, 0), (9, 0)] []
  refine B rfl ?_
  have lp_5 : ∀ (nq_ : Nat) (v2 : Int) (τ5 : Me_t), (∀ k j : Int, ¬ (k = 41) → τ5 k j = σ k j) → (0 ≤ v2) → (v2 ≤ 12) → (∀ j : Int, 0 ≤ j → j < v2 → τ5 41 j = a1) → (12 - v2).toNat < nq_ → WP_ X G Q 0 0 ad SHS_ τ5 5 [(36, 41), (0, a1), (0, v2), (0, 12)] [] := by
    intro nq_
    induction nq_ with
    | zero => intros; omega
    | succ nq_ ih_5 =>
      intro v2 τ5 hf5 hi5_0 hi5_1 hi5_2 hm5
      refine B rfl ?_
      refine And.intro (fun h1 => ?_) (fun h1 => ?_)
      · skip
        refine B rfl ?_
        refine Exists.intro 0 (And.intro rfl ?_)
        exact (And.intro (by show ∀ j : Int, 0 ≤ j → j < 12 → τ5 41 j = a1; intro j h1 h2; exact hi5_2 j h1 (by omega)) (fun k j hk => (hf5 _ _ (by omega))))
      · skip
        refine And.intro (by omega) ?_
        refine And.intro (by show (0 : Int) ≤ _ ∧ _ ≤ (2000 : Int); omega) ?_
        intro σ2 e3
        refine And.intro (by omega) ?_
        exact ih_5 (v2 + 1) σ2 (fun k j hk => ((ups_r e3 (by omega)).trans (hf5 _ _ (by omega)))) (by show 0 ≤ (v2 + 1); omega) (by show (v2 + 1) ≤ 12; omega) (by show ∀ j : Int, 0 ≤ j → j < (v2 + 1) → σ2 41 j = a1; intro j h1 h2; by_cases hj : j = v2
                    · subst hj; exact ups_v e3
                    · exact (ups_r e3 (by omega)).trans (hi5_2 j h1 (by omega))) (by omega)
  exact lp_5 (((12 - 0).toNat) + 1) 0 σ (fun k j hk => rfl) (by show 0 ≤ 0; omega) (by show 0 ≤ 12; omega) (by show ∀ j : Int, 0 ≤ j → j < 0 → σ 41 j = a1; intro j h1 h2; omega) (by omega)
def as_G_J7_fill_d0a16 : Int × Int → List Sv_t := fun a => [(41, a.1), (1, a.2)]
def pre_G_J7_fill_d0a16 : Int × Int → Me_t → Prop := fun a σ => True
def post_G_J7_fill_d0a16 : Int × Int → Me_t → Int → Me_t → Prop := fun a σ z σ' => (∀ k j : Int, ¬ (k = a.1) → σ' k j = σ k j)
set_option maxHeartbeats 8000000 in
set_option maxRecDepth 100000 in
theorem ct_G_J7_fill_d0a16 (l : Launch) : CT_ l yJ7_fill_d0a16 cJ7_fill_d0a16 5 none 0 0 as_G_J7_fill_d0a16 (rmV_) pre_G_J7_fill_d0a16 post_G_J7_fill_d0a16 := by
  refine ct_of (by decide) (fun _ => Nat.le_of_ble_eq_true rfl) ?_
  intro X G Q ad σ a hl hR E hG R hM hv hp
  obtain ⟨a0, a1⟩ := a
  have r_a1 : -9223372036854775808 ≤ a1 ∧ a1 ≤ 9223372036854775807 := hv (1, a1) (List.mem_of_getElem? (i := 1) rfl)
  have B := @bk_ X G Q 0 0 ad SHS_ RJ7 cJ7_fill_d0a16 5 none flJ7 plJ7 knJ7 [] _ _ none kJ7_fill_d0a16 [6] flJ7_ok plJ7_ok knJ7_ok eJ7_fill_d0a16 oJ7_fill_d0a16
    (fun _ h => absurd h List.not_mem_nil) R sok_no E
  show WP_ X G Q 0 0 ad SHS_ σ 0 [(41, a0), (1, a1), (9, 0), (9, 0), (9, 0)] []
  refine B rfl ?_
  have lp_6 : ∀ (nq_ : Nat) (v3 : Int) (τ6 : Me_t), (∀ k j : Int, ¬ (k = a0) → τ6 k j = σ k j) → (0 ≤ v3) → (v3 ≤ 60) → (60 - v3).toNat < nq_ → WP_ X G Q 0 0 ad SHS_ τ6 6 [(41, a0), (1, a1), (9, 0), (0, v3), (0, 60)] [] := by
    intro nq_
    induction nq_ with
    | zero => intros; omega
    | succ nq_ ih_6 =>
      intro v3 τ6 hf6 hi6_0 hi6_1 hm6
      refine B rfl ?_
      refine And.intro (fun h1 => ?_) (fun h1 => ?_)
      · skip
        refine B rfl ?_
        refine Exists.intro 0 (And.intro rfl ?_)
        exact (fun k j hk => (hf6 _ _ (by omega)))
      · skip
        refine And.intro (by omega) ?_
        intro σ2 e3
        refine And.intro (by omega) ?_
        exact ih_6 (v3 + 1) σ2 (fun k j hk => ((ups_r e3 (by omega)).trans (hf6 _ _ (by omega)))) (by show 0 ≤ (v3 + 1); omega) (by show (v3 + 1) ≤ 60; omega) (by omega)
  exact lp_6 (((60 - 0).toNat) + 1) 0 σ (fun k j hk => rfl) (by show 0 ≤ 0; omega) (by show 0 ≤ 60; omega) (by omega)
end
