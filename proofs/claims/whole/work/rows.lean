section
-- ===== PART A: goes FIRST, ahead of the names: the tables' words, and 'selects' of the private methods out of them =====
/-- a private method of a class that the tables say can be made, by its rows of tables_1 -/
def lw_okq (q : MethodName × Nat) : Prop := (q.1.cls ≠ "java/lang/invoke/MethodHandle" ∧ q.1.cls ≠ "java/lang/invoke/VarHandle") ∧ Cond.instantiable q.1.cls q.2 ∈ tables_1 ∧ Cond.privateMethod q.1 ∈ tables_1 ∧ Cond.instanceMethod q.1 ∈ tables_1
theorem lw_p0 : lw_okq (⟨"MuseumNights$Log", "provideCells", "(I)V"⟩, 3) := ⟨⟨by decide +kernel, by decide +kernel⟩, List.mem_of_getElem? (i := 206) (by decide +kernel), List.mem_of_getElem? (i := 399) (by decide +kernel), List.mem_of_getElem? (i := 400) (by decide +kernel)⟩
theorem lw_p1 : lw_okq (⟨"MuseumNights$Rooms", "forgetNightOf", "(I)V"⟩, 7) := ⟨⟨by decide +kernel, by decide +kernel⟩, List.mem_of_getElem? (i := 33) (by decide +kernel), List.mem_of_getElem? (i := 420) (by decide +kernel), List.mem_of_getElem? (i := 421) (by decide +kernel)⟩
theorem lw_p2 : lw_okq (⟨"MuseumNights$Guards", "placeInGuardRoom", "(II)V"⟩, 10) := ⟨⟨by decide +kernel, by decide +kernel⟩, List.mem_of_getElem? (i := 116) (by decide +kernel), List.mem_of_getElem? (i := 548) (by decide +kernel), List.mem_of_getElem? (i := 549) (by decide +kernel)⟩
theorem lw_p3 : lw_okq (⟨"MuseumNights", "isExhibitionRoom", "(I)Z"⟩, 6) := ⟨⟨by decide +kernel, by decide +kernel⟩, List.mem_of_getElem? (i := 19) (by decide +kernel), List.mem_of_getElem? (i := 629) (by decide +kernel), List.mem_of_getElem? (i := 630) (by decide +kernel)⟩
theorem lw_p4 : lw_okq (⟨"MuseumNights$Museum", "letGuardsSetOff", "()V"⟩, 10) := ⟨⟨by decide +kernel, by decide +kernel⟩, List.mem_of_getElem? (i := 27) (by decide +kernel), List.mem_of_getElem? (i := 731) (by decide +kernel), List.mem_of_getElem? (i := 732) (by decide +kernel)⟩
theorem lw_p5 : lw_okq (⟨"MuseumNights$Museum", "followFirstOrder", "(I)V"⟩, 10) := ⟨⟨by decide +kernel, by decide +kernel⟩, List.mem_of_getElem? (i := 27) (by decide +kernel), List.mem_of_getElem? (i := 743) (by decide +kernel), List.mem_of_getElem? (i := 744) (by decide +kernel)⟩
theorem lw_p6 : lw_okq (⟨"MuseumNights$Museum", "watchRooms", "()V"⟩, 10) := ⟨⟨by decide +kernel, by decide +kernel⟩, List.mem_of_getElem? (i := 27) (by decide +kernel), List.mem_of_getElem? (i := 782) (by decide +kernel), List.mem_of_getElem? (i := 783) (by decide +kernel)⟩
theorem lw_p7 : lw_okq (⟨"MuseumNights$Museum", "letGuardsWalk", "()V"⟩, 10) := ⟨⟨by decide +kernel, by decide +kernel⟩, List.mem_of_getElem? (i := 27) (by decide +kernel), List.mem_of_getElem? (i := 799) (by decide +kernel), List.mem_of_getElem? (i := 800) (by decide +kernel)⟩
theorem lw_p8 : lw_okq (⟨"MuseumNights$Museum", "checkArrival", "(I)V"⟩, 10) := ⟨⟨by decide +kernel, by decide +kernel⟩, List.mem_of_getElem? (i := 27) (by decide +kernel), List.mem_of_getElem? (i := 815) (by decide +kernel), List.mem_of_getElem? (i := 816) (by decide +kernel)⟩
theorem lw_p9 : lw_okq (⟨"MuseumNights$Museum", "checkBounds", "()V"⟩, 10) := ⟨⟨by decide +kernel, by decide +kernel⟩, List.mem_of_getElem? (i := 27) (by decide +kernel), List.mem_of_getElem? (i := 825) (by decide +kernel), List.mem_of_getElem? (i := 826) (by decide +kernel)⟩
theorem lw_p10 : lw_okq (⟨"MuseumNights$Museum", "lookAtWorks", "()V"⟩, 10) := ⟨⟨by decide +kernel, by decide +kernel⟩, List.mem_of_getElem? (i := 27) (by decide +kernel), List.mem_of_getElem? (i := 835) (by decide +kernel), List.mem_of_getElem? (i := 836) (by decide +kernel)⟩
theorem lw_p11 : lw_okq (⟨"MuseumNights$Museum", "mustBeTroubled", "(I)Z"⟩, 10) := ⟨⟨by decide +kernel, by decide +kernel⟩, List.mem_of_getElem? (i := 27) (by decide +kernel), List.mem_of_getElem? (i := 841) (by decide +kernel), List.mem_of_getElem? (i := 842) (by decide +kernel)⟩
theorem lw_p12 : lw_okq (⟨"MuseumNights$Text", "readOrder", "()Z"⟩, 5) := ⟨⟨by decide +kernel, by decide +kernel⟩, List.mem_of_getElem? (i := 287) (by decide +kernel), List.mem_of_getElem? (i := 928) (by decide +kernel), List.mem_of_getElem? (i := 929) (by decide +kernel)⟩
theorem lw_p13 : lw_okq (⟨"MuseumNights$Text", "readNumber", "()I"⟩, 5) := ⟨⟨by decide +kernel, by decide +kernel⟩, List.mem_of_getElem? (i := 287) (by decide +kernel), List.mem_of_getElem? (i := 932) (by decide +kernel), List.mem_of_getElem? (i := 933) (by decide +kernel)⟩
theorem lw_p14 : lw_okq (⟨"MuseumNights$Text", "digitHere", "()I"⟩, 5) := ⟨⟨by decide +kernel, by decide +kernel⟩, List.mem_of_getElem? (i := 287) (by decide +kernel), List.mem_of_getElem? (i := 936) (by decide +kernel), List.mem_of_getElem? (i := 937) (by decide +kernel)⟩
theorem lw_p15 : lw_okq (⟨"MuseumNights$Text", "skip", "(C)Z"⟩, 5) := ⟨⟨by decide +kernel, by decide +kernel⟩, List.mem_of_getElem? (i := 287) (by decide +kernel), List.mem_of_getElem? (i := 940) (by decide +kernel), List.mem_of_getElem? (i := 941) (by decide +kernel)⟩
def lw_privs_1 : List (MethodName × Nat) := [(⟨"MuseumNights$Log", "provideCells", "(I)V"⟩, 3), (⟨"MuseumNights$Rooms", "forgetNightOf", "(I)V"⟩, 7), (⟨"MuseumNights$Guards", "placeInGuardRoom", "(II)V"⟩, 10), (⟨"MuseumNights", "isExhibitionRoom", "(I)Z"⟩, 6), (⟨"MuseumNights$Museum", "letGuardsSetOff", "()V"⟩, 10), (⟨"MuseumNights$Museum", "followFirstOrder", "(I)V"⟩, 10), (⟨"MuseumNights$Museum", "watchRooms", "()V"⟩, 10), (⟨"MuseumNights$Museum", "letGuardsWalk", "()V"⟩, 10), (⟨"MuseumNights$Museum", "checkArrival", "(I)V"⟩, 10), (⟨"MuseumNights$Museum", "checkBounds", "()V"⟩, 10), (⟨"MuseumNights$Museum", "lookAtWorks", "()V"⟩, 10), (⟨"MuseumNights$Museum", "mustBeTroubled", "(I)Z"⟩, 10), (⟨"MuseumNights$Text", "readOrder", "()Z"⟩, 5), (⟨"MuseumNights$Text", "readNumber", "()I"⟩, 5), (⟨"MuseumNights$Text", "digitHere", "()I"⟩, 5), (⟨"MuseumNights$Text", "skip", "(C)Z"⟩, 5)]
theorem lw_r1 : ∀ q ∈ lw_privs_1, lw_okq q := List.forall_mem_cons.mpr ⟨lw_p0, List.forall_mem_cons.mpr ⟨lw_p1, List.forall_mem_cons.mpr ⟨lw_p2, List.forall_mem_cons.mpr ⟨lw_p3, List.forall_mem_cons.mpr ⟨lw_p4, List.forall_mem_cons.mpr ⟨lw_p5, List.forall_mem_cons.mpr ⟨lw_p6, List.forall_mem_cons.mpr ⟨lw_p7, List.forall_mem_cons.mpr ⟨lw_p8, List.forall_mem_cons.mpr ⟨lw_p9, List.forall_mem_cons.mpr ⟨lw_p10, List.forall_mem_cons.mpr ⟨lw_p11, List.forall_mem_cons.mpr ⟨lw_p12, List.forall_mem_cons.mpr ⟨lw_p13, List.forall_mem_cons.mpr ⟨lw_p14, List.forall_mem_cons.mpr ⟨lw_p15, fun _ h => absurd h List.not_mem_nil⟩⟩⟩⟩⟩⟩⟩⟩⟩⟩⟩⟩⟩⟩⟩⟩
theorem lw_p16 : lw_okq (⟨"MuseumNights$Doors", "shortenReach", "(II)V"⟩, 7) := ⟨⟨by decide +kernel, by decide +kernel⟩, List.mem_of_getElem? (i := 62) (by decide +kernel), List.mem_of_getElem? (i := 1112) (by decide +kernel), List.mem_of_getElem? (i := 1113) (by decide +kernel)⟩
theorem lw_p17 : lw_okq (⟨"MuseumNights$Doors", "reachOf", "(I)I"⟩, 7) := ⟨⟨by decide +kernel, by decide +kernel⟩, List.mem_of_getElem? (i := 62) (by decide +kernel), List.mem_of_getElem? (i := 1117) (by decide +kernel), List.mem_of_getElem? (i := 1118) (by decide +kernel)⟩
theorem lw_p18 : lw_okq (⟨"MuseumNightsModel", "record", "()V"⟩, 11) := ⟨⟨by decide +kernel, by decide +kernel⟩, List.mem_of_getElem? (i := 1161) (by decide +kernel), List.mem_of_getElem? (i := 1214) (by decide +kernel), List.mem_of_getElem? (i := 1215) (by decide +kernel)⟩
theorem lw_p19 : lw_okq (⟨"MuseumNightsModel", "isRoom", "(I)Z"⟩, 11) := ⟨⟨by decide +kernel, by decide +kernel⟩, List.mem_of_getElem? (i := 1161) (by decide +kernel), List.mem_of_getElem? (i := 1225) (by decide +kernel), List.mem_of_getElem? (i := 1226) (by decide +kernel)⟩
theorem lw_p20 : lw_okq (⟨"MuseumNightsModel", "doorBetween", "(II)I"⟩, 11) := ⟨⟨by decide +kernel, by decide +kernel⟩, List.mem_of_getElem? (i := 1161) (by decide +kernel), List.mem_of_getElem? (i := 1229) (by decide +kernel), List.mem_of_getElem? (i := 1230) (by decide +kernel)⟩
theorem lw_p21 : lw_okq (⟨"MuseumNightsModel", "doorPart", "(II)I"⟩, 11) := ⟨⟨by decide +kernel, by decide +kernel⟩, List.mem_of_getElem? (i := 1161) (by decide +kernel), List.mem_of_getElem? (i := 1233) (by decide +kernel), List.mem_of_getElem? (i := 1234) (by decide +kernel)⟩
theorem lw_p22 : lw_okq (⟨"MuseumNightsModel", "roomPart", "(II)I"⟩, 11) := ⟨⟨by decide +kernel, by decide +kernel⟩, List.mem_of_getElem? (i := 1161) (by decide +kernel), List.mem_of_getElem? (i := 1241) (by decide +kernel), List.mem_of_getElem? (i := 1242) (by decide +kernel)⟩
theorem lw_p23 : lw_okq (⟨"MuseumNightsModel", "excludes", "(II)Z"⟩, 11) := ⟨⟨by decide +kernel, by decide +kernel⟩, List.mem_of_getElem? (i := 1161) (by decide +kernel), List.mem_of_getElem? (i := 1249) (by decide +kernel), List.mem_of_getElem? (i := 1250) (by decide +kernel)⟩
theorem lw_p24 : lw_okq (⟨"MuseumNightsModel", "isBarred", "(I)Z"⟩, 11) := ⟨⟨by decide +kernel, by decide +kernel⟩, List.mem_of_getElem? (i := 1161) (by decide +kernel), List.mem_of_getElem? (i := 1260) (by decide +kernel), List.mem_of_getElem? (i := 1261) (by decide +kernel)⟩
theorem lw_p25 : lw_okq (⟨"MuseumNightsModel", "openZones", "()I"⟩, 11) := ⟨⟨by decide +kernel, by decide +kernel⟩, List.mem_of_getElem? (i := 1161) (by decide +kernel), List.mem_of_getElem? (i := 1264) (by decide +kernel), List.mem_of_getElem? (i := 1265) (by decide +kernel)⟩
theorem lw_p26 : lw_okq (⟨"MuseumNightsModel", "guardPart", "(II)I"⟩, 11) := ⟨⟨by decide +kernel, by decide +kernel⟩, List.mem_of_getElem? (i := 1161) (by decide +kernel), List.mem_of_getElem? (i := 1272) (by decide +kernel), List.mem_of_getElem? (i := 1273) (by decide +kernel)⟩
theorem lw_p27 : lw_okq (⟨"MuseumNightsModel", "isInZone", "(II)Z"⟩, 11) := ⟨⟨by decide +kernel, by decide +kernel⟩, List.mem_of_getElem? (i := 1161) (by decide +kernel), List.mem_of_getElem? (i := 1276) (by decide +kernel), List.mem_of_getElem? (i := 1277) (by decide +kernel)⟩
theorem lw_p28 : lw_okq (⟨"MuseumNightsModel", "setGuard", "(III)V"⟩, 11) := ⟨⟨by decide +kernel, by decide +kernel⟩, List.mem_of_getElem? (i := 1161) (by decide +kernel), List.mem_of_getElem? (i := 1284) (by decide +kernel), List.mem_of_getElem? (i := 1285) (by decide +kernel)⟩
theorem lw_p29 : lw_okq (⟨"MuseumNightsModel", "isGuard", "(I)Z"⟩, 11) := ⟨⟨by decide +kernel, by decide +kernel⟩, List.mem_of_getElem? (i := 1161) (by decide +kernel), List.mem_of_getElem? (i := 1292) (by decide +kernel), List.mem_of_getElem? (i := 1293) (by decide +kernel)⟩
theorem lw_p30 : lw_okq (⟨"MuseumNightsModel", "holderOf", "(I)I"⟩, 11) := ⟨⟨by decide +kernel, by decide +kernel⟩, List.mem_of_getElem? (i := 1161) (by decide +kernel), List.mem_of_getElem? (i := 1299) (by decide +kernel), List.mem_of_getElem? (i := 1300) (by decide +kernel)⟩
theorem lw_p31 : lw_okq (⟨"MuseumNightsModel", "hasKey", "(II)Z"⟩, 11) := ⟨⟨by decide +kernel, by decide +kernel⟩, List.mem_of_getElem? (i := 1161) (by decide +kernel), List.mem_of_getElem? (i := 1303) (by decide +kernel), List.mem_of_getElem? (i := 1304) (by decide +kernel)⟩
def lw_privs_2 : List (MethodName × Nat) := [(⟨"MuseumNights$Doors", "shortenReach", "(II)V"⟩, 7), (⟨"MuseumNights$Doors", "reachOf", "(I)I"⟩, 7), (⟨"MuseumNightsModel", "record", "()V"⟩, 11), (⟨"MuseumNightsModel", "isRoom", "(I)Z"⟩, 11), (⟨"MuseumNightsModel", "doorBetween", "(II)I"⟩, 11), (⟨"MuseumNightsModel", "doorPart", "(II)I"⟩, 11), (⟨"MuseumNightsModel", "roomPart", "(II)I"⟩, 11), (⟨"MuseumNightsModel", "excludes", "(II)Z"⟩, 11), (⟨"MuseumNightsModel", "isBarred", "(I)Z"⟩, 11), (⟨"MuseumNightsModel", "openZones", "()I"⟩, 11), (⟨"MuseumNightsModel", "guardPart", "(II)I"⟩, 11), (⟨"MuseumNightsModel", "isInZone", "(II)Z"⟩, 11), (⟨"MuseumNightsModel", "setGuard", "(III)V"⟩, 11), (⟨"MuseumNightsModel", "isGuard", "(I)Z"⟩, 11), (⟨"MuseumNightsModel", "holderOf", "(I)I"⟩, 11), (⟨"MuseumNightsModel", "hasKey", "(II)Z"⟩, 11)]
theorem lw_r2 : ∀ q ∈ lw_privs_2, lw_okq q := List.forall_mem_cons.mpr ⟨lw_p16, List.forall_mem_cons.mpr ⟨lw_p17, List.forall_mem_cons.mpr ⟨lw_p18, List.forall_mem_cons.mpr ⟨lw_p19, List.forall_mem_cons.mpr ⟨lw_p20, List.forall_mem_cons.mpr ⟨lw_p21, List.forall_mem_cons.mpr ⟨lw_p22, List.forall_mem_cons.mpr ⟨lw_p23, List.forall_mem_cons.mpr ⟨lw_p24, List.forall_mem_cons.mpr ⟨lw_p25, List.forall_mem_cons.mpr ⟨lw_p26, List.forall_mem_cons.mpr ⟨lw_p27, List.forall_mem_cons.mpr ⟨lw_p28, List.forall_mem_cons.mpr ⟨lw_p29, List.forall_mem_cons.mpr ⟨lw_p30, List.forall_mem_cons.mpr ⟨lw_p31, fun _ h => absurd h List.not_mem_nil⟩⟩⟩⟩⟩⟩⟩⟩⟩⟩⟩⟩⟩⟩⟩⟩
theorem lw_p32 : lw_okq (⟨"MuseumNightsModel", "keysOf", "(I)I"⟩, 11) := ⟨⟨by decide +kernel, by decide +kernel⟩, List.mem_of_getElem? (i := 1161) (by decide +kernel), List.mem_of_getElem? (i := 1307) (by decide +kernel), List.mem_of_getElem? (i := 1308) (by decide +kernel)⟩
theorem lw_p33 : lw_okq (⟨"MuseumNightsModel", "turnKey", "(II)V"⟩, 11) := ⟨⟨by decide +kernel, by decide +kernel⟩, List.mem_of_getElem? (i := 1161) (by decide +kernel), List.mem_of_getElem? (i := 1311) (by decide +kernel), List.mem_of_getElem? (i := 1312) (by decide +kernel)⟩
theorem lw_p34 : lw_okq (⟨"MuseumNightsModel", "putOrder", "(III)V"⟩, 11) := ⟨⟨by decide +kernel, by decide +kernel⟩, List.mem_of_getElem? (i := 1161) (by decide +kernel), List.mem_of_getElem? (i := 1327) (by decide +kernel), List.mem_of_getElem? (i := 1328) (by decide +kernel)⟩
theorem lw_p35 : lw_okq (⟨"MuseumNightsModel", "isWork", "(I)Z"⟩, 11) := ⟨⟨by decide +kernel, by decide +kernel⟩, List.mem_of_getElem? (i := 1161) (by decide +kernel), List.mem_of_getElem? (i := 1343) (by decide +kernel), List.mem_of_getElem? (i := 1344) (by decide +kernel)⟩
theorem lw_p36 : lw_okq (⟨"MuseumNightsModel", "workPart", "(II)I"⟩, 11) := ⟨⟨by decide +kernel, by decide +kernel⟩, List.mem_of_getElem? (i := 1161) (by decide +kernel), List.mem_of_getElem? (i := 1347) (by decide +kernel), List.mem_of_getElem? (i := 1348) (by decide +kernel)⟩
theorem lw_p37 : lw_okq (⟨"MuseumNightsModel", "guardsIn", "(I)I"⟩, 11) := ⟨⟨by decide +kernel, by decide +kernel⟩, List.mem_of_getElem? (i := 1161) (by decide +kernel), List.mem_of_getElem? (i := 1351) (by decide +kernel), List.mem_of_getElem? (i := 1352) (by decide +kernel)⟩
theorem lw_p38 : lw_okq (⟨"MuseumNightsModel", "isAlarm", "(I)Z"⟩, 11) := ⟨⟨by decide +kernel, by decide +kernel⟩, List.mem_of_getElem? (i := 1161) (by decide +kernel), List.mem_of_getElem? (i := 1363) (by decide +kernel), List.mem_of_getElem? (i := 1364) (by decide +kernel)⟩
theorem lw_p39 : lw_okq (⟨"MuseumNightsModel", "alarmPart", "(II)I"⟩, 11) := ⟨⟨by decide +kernel, by decide +kernel⟩, List.mem_of_getElem? (i := 1161) (by decide +kernel), List.mem_of_getElem? (i := 1367) (by decide +kernel), List.mem_of_getElem? (i := 1368) (by decide +kernel)⟩
theorem lw_p40 : lw_okq (⟨"MuseumNightsModel", "whyNotPassed", "(I)I"⟩, 11) := ⟨⟨by decide +kernel, by decide +kernel⟩, List.mem_of_getElem? (i := 1161) (by decide +kernel), List.mem_of_getElem? (i := 1375) (by decide +kernel), List.mem_of_getElem? (i := 1376) (by decide +kernel)⟩
theorem lw_p41 : lw_okq (⟨"MuseumNightsModel", "passed", "(I)I"⟩, 11) := ⟨⟨by decide +kernel, by decide +kernel⟩, List.mem_of_getElem? (i := 1161) (by decide +kernel), List.mem_of_getElem? (i := 1379) (by decide +kernel), List.mem_of_getElem? (i := 1380) (by decide +kernel)⟩
theorem lw_p42 : lw_okq (⟨"MuseumNightsModel", "minute", "()I"⟩, 11) := ⟨⟨by decide +kernel, by decide +kernel⟩, List.mem_of_getElem? (i := 1161) (by decide +kernel), List.mem_of_getElem? (i := 1383) (by decide +kernel), List.mem_of_getElem? (i := 1384) (by decide +kernel)⟩
theorem lw_p43 : lw_okq (⟨"MuseumNightsModel", "guardsBegin", "()V"⟩, 11) := ⟨⟨by decide +kernel, by decide +kernel⟩, List.mem_of_getElem? (i := 1161) (by decide +kernel), List.mem_of_getElem? (i := 1387) (by decide +kernel), List.mem_of_getElem? (i := 1388) (by decide +kernel)⟩
theorem lw_p44 : lw_okq (⟨"MuseumNightsModel", "setsOff", "(I)V"⟩, 11) := ⟨⟨by decide +kernel, by decide +kernel⟩, List.mem_of_getElem? (i := 1161) (by decide +kernel), List.mem_of_getElem? (i := 1391) (by decide +kernel), List.mem_of_getElem? (i := 1392) (by decide +kernel)⟩
theorem lw_p45 : lw_okq (⟨"MuseumNightsModel", "mayPass", "(II)Z"⟩, 11) := ⟨⟨by decide +kernel, by decide +kernel⟩, List.mem_of_getElem? (i := 1161) (by decide +kernel), List.mem_of_getElem? (i := 1395) (by decide +kernel), List.mem_of_getElem? (i := 1396) (by decide +kernel)⟩
theorem lw_p46 : lw_okq (⟨"MuseumNightsModel", "roomsAreWatched", "()V"⟩, 11) := ⟨⟨by decide +kernel, by decide +kernel⟩, List.mem_of_getElem? (i := 1161) (by decide +kernel), List.mem_of_getElem? (i := 1399) (by decide +kernel), List.mem_of_getElem? (i := 1400) (by decide +kernel)⟩
theorem lw_p47 : lw_okq (⟨"MuseumNightsModel", "guardsWalk", "()I"⟩, 11) := ⟨⟨by decide +kernel, by decide +kernel⟩, List.mem_of_getElem? (i := 1161) (by decide +kernel), List.mem_of_getElem? (i := 1403) (by decide +kernel), List.mem_of_getElem? (i := 1404) (by decide +kernel)⟩
def lw_privs_3 : List (MethodName × Nat) := [(⟨"MuseumNightsModel", "keysOf", "(I)I"⟩, 11), (⟨"MuseumNightsModel", "turnKey", "(II)V"⟩, 11), (⟨"MuseumNightsModel", "putOrder", "(III)V"⟩, 11), (⟨"MuseumNightsModel", "isWork", "(I)Z"⟩, 11), (⟨"MuseumNightsModel", "workPart", "(II)I"⟩, 11), (⟨"MuseumNightsModel", "guardsIn", "(I)I"⟩, 11), (⟨"MuseumNightsModel", "isAlarm", "(I)Z"⟩, 11), (⟨"MuseumNightsModel", "alarmPart", "(II)I"⟩, 11), (⟨"MuseumNightsModel", "whyNotPassed", "(I)I"⟩, 11), (⟨"MuseumNightsModel", "passed", "(I)I"⟩, 11), (⟨"MuseumNightsModel", "minute", "()I"⟩, 11), (⟨"MuseumNightsModel", "guardsBegin", "()V"⟩, 11), (⟨"MuseumNightsModel", "setsOff", "(I)V"⟩, 11), (⟨"MuseumNightsModel", "mayPass", "(II)Z"⟩, 11), (⟨"MuseumNightsModel", "roomsAreWatched", "()V"⟩, 11), (⟨"MuseumNightsModel", "guardsWalk", "()I"⟩, 11)]
theorem lw_r3 : ∀ q ∈ lw_privs_3, lw_okq q := List.forall_mem_cons.mpr ⟨lw_p32, List.forall_mem_cons.mpr ⟨lw_p33, List.forall_mem_cons.mpr ⟨lw_p34, List.forall_mem_cons.mpr ⟨lw_p35, List.forall_mem_cons.mpr ⟨lw_p36, List.forall_mem_cons.mpr ⟨lw_p37, List.forall_mem_cons.mpr ⟨lw_p38, List.forall_mem_cons.mpr ⟨lw_p39, List.forall_mem_cons.mpr ⟨lw_p40, List.forall_mem_cons.mpr ⟨lw_p41, List.forall_mem_cons.mpr ⟨lw_p42, List.forall_mem_cons.mpr ⟨lw_p43, List.forall_mem_cons.mpr ⟨lw_p44, List.forall_mem_cons.mpr ⟨lw_p45, List.forall_mem_cons.mpr ⟨lw_p46, List.forall_mem_cons.mpr ⟨lw_p47, fun _ h => absurd h List.not_mem_nil⟩⟩⟩⟩⟩⟩⟩⟩⟩⟩⟩⟩⟩⟩⟩⟩
theorem lw_p48 : lw_okq (⟨"MuseumNightsModel", "alarms", "(II)I"⟩, 11) := ⟨⟨by decide +kernel, by decide +kernel⟩, List.mem_of_getElem? (i := 1161) (by decide +kernel), List.mem_of_getElem? (i := 1407) (by decide +kernel), List.mem_of_getElem? (i := 1408) (by decide +kernel)⟩
theorem lw_p49 : lw_okq (⟨"MuseumNightsModel", "isTroubled", "(I)Z"⟩, 11) := ⟨⟨by decide +kernel, by decide +kernel⟩, List.mem_of_getElem? (i := 1161) (by decide +kernel), List.mem_of_getElem? (i := 1411) (by decide +kernel), List.mem_of_getElem? (i := 1412) (by decide +kernel)⟩
theorem lw_p50 : lw_okq (⟨"MuseumNightsModel", "keysOut", "()I"⟩, 11) := ⟨⟨by decide +kernel, by decide +kernel⟩, List.mem_of_getElem? (i := 1161) (by decide +kernel), List.mem_of_getElem? (i := 1419) (by decide +kernel), List.mem_of_getElem? (i := 1420) (by decide +kernel)⟩
theorem lw_p51 : lw_okq (⟨"MuseumNightsModel", "readText", "()I"⟩, 11) := ⟨⟨by decide +kernel, by decide +kernel⟩, List.mem_of_getElem? (i := 1161) (by decide +kernel), List.mem_of_getElem? (i := 1435) (by decide +kernel), List.mem_of_getElem? (i := 1436) (by decide +kernel)⟩
theorem lw_p52 : lw_okq (⟨"MuseumNightsModel", "behindNumber", "(I)I"⟩, 11) := ⟨⟨by decide +kernel, by decide +kernel⟩, List.mem_of_getElem? (i := 1161) (by decide +kernel), List.mem_of_getElem? (i := 1439) (by decide +kernel), List.mem_of_getElem? (i := 1440) (by decide +kernel)⟩
theorem lw_p53 : lw_okq (⟨"MuseumNightsModel", "isDigit", "(I)Z"⟩, 11) := ⟨⟨by decide +kernel, by decide +kernel⟩, List.mem_of_getElem? (i := 1161) (by decide +kernel), List.mem_of_getElem? (i := 1443) (by decide +kernel), List.mem_of_getElem? (i := 1444) (by decide +kernel)⟩
theorem lw_p54 : lw_okq (⟨"MuseumNightsModel", "character", "(I)I"⟩, 11) := ⟨⟨by decide +kernel, by decide +kernel⟩, List.mem_of_getElem? (i := 1161) (by decide +kernel), List.mem_of_getElem? (i := 1447) (by decide +kernel), List.mem_of_getElem? (i := 1448) (by decide +kernel)⟩
theorem lw_p55 : lw_okq (⟨"MuseumNightsModel", "number", "(II)I"⟩, 11) := ⟨⟨by decide +kernel, by decide +kernel⟩, List.mem_of_getElem? (i := 1161) (by decide +kernel), List.mem_of_getElem? (i := 1451) (by decide +kernel), List.mem_of_getElem? (i := 1452) (by decide +kernel)⟩
theorem lw_p56 : lw_okq (⟨"MuseumNightsModel", "isDoor", "(I)Z"⟩, 11) := ⟨⟨by decide +kernel, by decide +kernel⟩, List.mem_of_getElem? (i := 1161) (by decide +kernel), List.mem_of_getElem? (i := 1475) (by decide +kernel), List.mem_of_getElem? (i := 1476) (by decide +kernel)⟩
theorem lw_p57 : lw_okq (⟨"MuseumNightsModel", "stays", "()I"⟩, 11) := ⟨⟨by decide +kernel, by decide +kernel⟩, List.mem_of_getElem? (i := 1161) (by decide +kernel), List.mem_of_getElem? (i := 1527) (by decide +kernel), List.mem_of_getElem? (i := 1528) (by decide +kernel)⟩
def lw_privs_4 : List (MethodName × Nat) := [(⟨"MuseumNightsModel", "alarms", "(II)I"⟩, 11), (⟨"MuseumNightsModel", "isTroubled", "(I)Z"⟩, 11), (⟨"MuseumNightsModel", "keysOut", "()I"⟩, 11), (⟨"MuseumNightsModel", "readText", "()I"⟩, 11), (⟨"MuseumNightsModel", "behindNumber", "(I)I"⟩, 11), (⟨"MuseumNightsModel", "isDigit", "(I)Z"⟩, 11), (⟨"MuseumNightsModel", "character", "(I)I"⟩, 11), (⟨"MuseumNightsModel", "number", "(II)I"⟩, 11), (⟨"MuseumNightsModel", "isDoor", "(I)Z"⟩, 11), (⟨"MuseumNightsModel", "stays", "()I"⟩, 11)]
theorem lw_r4 : ∀ q ∈ lw_privs_4, lw_okq q := List.forall_mem_cons.mpr ⟨lw_p48, List.forall_mem_cons.mpr ⟨lw_p49, List.forall_mem_cons.mpr ⟨lw_p50, List.forall_mem_cons.mpr ⟨lw_p51, List.forall_mem_cons.mpr ⟨lw_p52, List.forall_mem_cons.mpr ⟨lw_p53, List.forall_mem_cons.mpr ⟨lw_p54, List.forall_mem_cons.mpr ⟨lw_p55, List.forall_mem_cons.mpr ⟨lw_p56, List.forall_mem_cons.mpr ⟨lw_p57, fun _ h => absurd h List.not_mem_nil⟩⟩⟩⟩⟩⟩⟩⟩⟩⟩
def lw_privs : List (MethodName × Nat) := lw_privs_1 ++ (lw_privs_2 ++ (lw_privs_3 ++ (lw_privs_4)))
def lw_tbl : List Cond := k2_sels lw_privs ++ tables_1
theorem lw_privs_ok : ∀ q ∈ lw_privs, lw_okq q := by
  show ∀ q ∈ lw_privs_1 ++ (lw_privs_2 ++ (lw_privs_3 ++ (lw_privs_4))), lw_okq q
  exact List.forall_mem_append.mpr ⟨lw_r1, List.forall_mem_append.mpr ⟨lw_r2, List.forall_mem_append.mpr ⟨lw_r3, lw_r4⟩⟩⟩
-- ===== end of PART A; then your names; then what follows =====
end
section
/-! the tables of a small machine for this claim: by program out of the words of tables_1 and the listing -/
def m_owns : List String := ["MuseumNightsLaw", "MuseumNights", "MuseumNights$Museum", "MuseumNights$Rooms", "MuseumNights$Doors", "MuseumNights$Zones", "MuseumNights$Keys", "MuseumNights$Guards", "MuseumNights$Works", "MuseumNights$Alarms", "MuseumNights$Log", "MuseumNights$History", "MuseumNights$Text", "MuseumNightsModel", "java/util/Arrays", "java/lang/Math", "java/lang/Integer"]
def m_T0 : u_T := fun k => match k with
  | 0 => ("MuseumNights", "now", "LMuseumNights$Museum;", true)
  | 1 => ("MuseumNights", "kept", "LMuseumNights$Museum;", true)
  | 2 => ("MuseumNights", "foretold", "LMuseumNights$Museum;", true)
  | 3 => ("MuseumNights", "history", "LMuseumNights$History;", true)
  | 4 => ("MuseumNights", "text", "LMuseumNights$Text;", true)
  | _ => ("MuseumNights", "hasKept", "Z", false)
def m_T1 : u_T := fun k => match k with
  | 0 => ("MuseumNights$Museum", "rooms", "LMuseumNights$Rooms;", true)
  | 1 => ("MuseumNights$Museum", "doors", "LMuseumNights$Doors;", true)
  | 2 => ("MuseumNights$Museum", "zones", "LMuseumNights$Zones;", true)
  | 3 => ("MuseumNights$Museum", "keys", "LMuseumNights$Keys;", true)
  | 4 => ("MuseumNights$Museum", "guards", "LMuseumNights$Guards;", true)
  | 5 => ("MuseumNights$Museum", "works", "LMuseumNights$Works;", true)
  | 6 => ("MuseumNights$Museum", "alarms", "LMuseumNights$Alarms;", true)
  | 7 => ("MuseumNights$Museum", "log", "LMuseumNights$Log;", true)
  | 8 => ("MuseumNights$Museum", "minute", "I", false)
  | _ => ("MuseumNights$Museum", "nights", "I", false)
def m_T2 : u_T := fun k => match k with
  | 0 => ("MuseumNights$Rooms", "zone", "[I", true)
  | 1 => ("MuseumNights$Rooms", "bound", "[I", true)
  | 2 => ("MuseumNights$Rooms", "watchedRun", "[I", true)
  | 3 => ("MuseumNights$Rooms", "unwatchedRun", "[I", true)
  | 4 => ("MuseumNights$Rooms", "longestGap", "[I", true)
  | 5 => ("MuseumNights$Rooms", "watchedMinutes", "[I", true)
  | _ => ("MuseumNights$Rooms", "size", "I", false)
def m_T3 : u_T := fun k => match k with
  | 0 => ("MuseumNights$Doors", "oneRoom", "[I", true)
  | 1 => ("MuseumNights$Doors", "otherRoom", "[I", true)
  | 2 => ("MuseumNights$Doors", "minutes", "[I", true)
  | 3 => ("MuseumNights$Doors", "key", "[I", true)
  | 4 => ("MuseumNights$Doors", "uses", "[I", true)
  | 5 => ("MuseumNights$Doors", "reach", "[I", true)
  | _ => ("MuseumNights$Doors", "size", "I", false)
def m_T4 : u_T := fun k => match k with
  | 0 => ("MuseumNights$Zones", "excluded", "[I", true)
  | _ => ("MuseumNights$Zones", "openBits", "I", false)
def m_T5 : u_T := fun k => match k with
  | _ => ("MuseumNights$Keys", "holders", "[I", true)
def m_T6 : u_T := fun k => match k with
  | 0 => ("MuseumNights$Guards", "standing", "[I", true)
  | 1 => ("MuseumNights$Guards", "target", "[I", true)
  | 2 => ("MuseumNights$Guards", "walk", "[I", true)
  | 3 => ("MuseumNights$Guards", "stayMinutes", "[I", true)
  | 4 => ("MuseumNights$Guards", "since", "[I", true)
  | 5 => ("MuseumNights$Guards", "halts", "[I", true)
  | 6 => ("MuseumNights$Guards", "arrivals", "[I", true)
  | 7 => ("MuseumNights$Guards", "orderCounts", "[I", true)
  | 8 => ("MuseumNights$Guards", "orders", "[I", true)
  | _ => ("MuseumNights$Guards", "size", "I", false)
def m_T7 : u_T := fun k => match k with
  | 0 => ("MuseumNights$Works", "kind", "[I", true)
  | 1 => ("MuseumNights$Works", "place", "[I", true)
  | 2 => ("MuseumNights$Works", "limit", "[I", true)
  | 3 => ("MuseumNights$Works", "state", "[I", true)
  | 4 => ("MuseumNights$Works", "alarms", "[I", true)
  | _ => ("MuseumNights$Works", "size", "I", false)
def m_T8 : u_T := fun k => match k with
  | 0 => ("MuseumNights$Alarms", "cause", "[I", true)
  | 1 => ("MuseumNights$Alarms", "place", "[I", true)
  | 2 => ("MuseumNights$Alarms", "raised", "[I", true)
  | 3 => ("MuseumNights$Alarms", "clearer", "[I", true)
  | 4 => ("MuseumNights$Alarms", "cleared", "[I", true)
  | 5 => ("MuseumNights$Alarms", "size", "I", false)
  | _ => ("MuseumNights$Alarms", "lost", "I", false)
def m_T9 : u_T := fun k => match k with
  | 0 => ("MuseumNights$Log", "watched", "[I", true)
  | 1 => ("MuseumNights$Log", "stays", "[I", false)
  | _ => ("MuseumNights$Log", "stayCount", "I", false)
def m_T10 : u_T := fun k => match k with
  | 0 => ("MuseumNights$History", "latest", "LMuseumNights$Museum;", false)
  | 1 => ("MuseumNights$History", "second", "LMuseumNights$Museum;", false)
  | 2 => ("MuseumNights$History", "third", "LMuseumNights$Museum;", false)
  | 3 => ("MuseumNights$History", "fourth", "LMuseumNights$Museum;", false)
  | _ => ("MuseumNights$History", "size", "I", false)
def m_T11 : u_T := fun k => match k with
  | 0 => ("MuseumNights$Text", "signs", "[C", true)
  | 1 => ("MuseumNights$Text", "length", "I", false)
  | 2 => ("MuseumNights$Text", "orders", "[I", true)
  | 3 => ("MuseumNights$Text", "orderCount", "I", false)
  | _ => ("MuseumNights$Text", "place", "I", false)
def m_T12 : u_T := fun k => match k with
  | 0 => ("MuseumNightsModel", "state", "[I", true)
  | 1 => ("MuseumNightsModel", "kept", "[I", true)
  | 2 => ("MuseumNightsModel", "snapshot", "[I", true)
  | 3 => ("MuseumNightsModel", "hasSnapshot", "I", false)
  | 4 => ("MuseumNightsModel", "history", "[I", true)
  | 5 => ("MuseumNightsModel", "recorded", "I", false)
  | 6 => ("MuseumNightsModel", "text", "[I", true)
  | 7 => ("MuseumNightsModel", "textLength", "I", false)
  | 8 => ("MuseumNightsModel", "far", "[I", true)
  | 9 => ("MuseumNightsModel", "told", "[I", true)
  | _ => ("MuseumNightsModel", "toldMany", "I", false)
def m_cls : List vw_C := [("MuseumNights", m_T0, 6), ("MuseumNights$Museum", m_T1, 10), ("MuseumNights$Rooms", m_T2, 7), ("MuseumNights$Doors", m_T3, 7), ("MuseumNights$Zones", m_T4, 2), ("MuseumNights$Keys", m_T5, 1), ("MuseumNights$Guards", m_T6, 10), ("MuseumNights$Works", m_T7, 6), ("MuseumNights$Alarms", m_T8, 7), ("MuseumNights$Log", m_T9, 3), ("MuseumNights$History", m_T10, 5), ("MuseumNights$Text", m_T11, 5), ("MuseumNightsModel", m_T12, 11)]
/-- the types of the fields, class by class -/
def m_tys : List (List FieldType) := [[.object "MuseumNights$Museum", .object "MuseumNights$Museum", .object "MuseumNights$Museum", .object "MuseumNights$History", .object "MuseumNights$Text", .boolean], [.object "MuseumNights$Rooms", .object "MuseumNights$Doors", .object "MuseumNights$Zones", .object "MuseumNights$Keys", .object "MuseumNights$Guards", .object "MuseumNights$Works", .object "MuseumNights$Alarms", .object "MuseumNights$Log", .int, .int], [.array .int, .array .int, .array .int, .array .int, .array .int, .array .int, .int], [.array .int, .array .int, .array .int, .array .int, .array .int, .array .int, .int], [.array .int, .int], [.array .int], [.array .int, .array .int, .array .int, .array .int, .array .int, .array .int, .array .int, .array .int, .array .int, .int], [.array .int, .array .int, .array .int, .array .int, .array .int, .int], [.array .int, .array .int, .array .int, .array .int, .array .int, .int, .int], [.array .int, .array .int, .int], [.object "MuseumNights$Museum", .object "MuseumNights$Museum", .object "MuseumNights$Museum", .object "MuseumNights$Museum", .int], [.array .char, .int, .array .int, .int, .int], [.array .int, .array .int, .array .int, .int, .array .int, .int, .array .int, .int, .array .int, .array .int, .int]]
/-- the methods: name, code, locals, result, frames below it (itself not counted), its class among m_owns, its parameters -/
def m_mt0 : List (MethodName × ByteArray × Nat × Option FieldType × Nat × Nat × Nat) := [(⟨"MuseumNightsLaw", "law", "([I)Z"⟩, code, 4, some .boolean, 8, 0, 1), (⟨"MuseumNights", "<init>", "()V"⟩, prog_1_method_1_code, 1, none, 4, 1, 0), (⟨"MuseumNights$Museum", "<init>", "()V"⟩, prog_8_method_1_code, 1, none, 2, 2, 0), (⟨"MuseumNights$Rooms", "<init>", "()V"⟩, prog_9_method_1_code, 1, none, 1, 3, 0), (⟨"MuseumNights$Doors", "<init>", "()V"⟩, prog_3_method_1_code, 1, none, 1, 4, 0), (⟨"MuseumNights$Zones", "<init>", "()V"⟩, prog_12_method_1_code, 1, none, 1, 5, 0), (⟨"MuseumNights$Keys", "<init>", "()V"⟩, prog_6_method_1_code, 1, none, 1, 6, 0), (⟨"java/util/Arrays", "fill", "([II)V"⟩, prog_19_method_103_code, 4, none, 0, 14, 2), (⟨"MuseumNights$Guards", "<init>", "()V"⟩, prog_4_method_1_code, 1, none, 1, 7, 0), (⟨"MuseumNights$Works", "<init>", "()V"⟩, prog_11_method_1_code, 1, none, 1, 8, 0), (⟨"MuseumNights$Alarms", "<init>", "()V"⟩, prog_2_method_1_code, 1, none, 1, 9, 0), (⟨"MuseumNights$Log", "<init>", "()V"⟩, prog_7_method_1_code, 1, none, 1, 10, 0), (⟨"MuseumNights$History", "<init>", "()V"⟩, prog_5_method_1_code, 1, none, 3, 11, 0), (⟨"MuseumNights$Text", "<init>", "()V"⟩, prog_10_method_1_code, 1, none, 1, 12, 0), (⟨"MuseumNights", "addRoom", "(II)I"⟩, prog_1_method_2_code, 3, some .int, 6, 1, 2), (⟨"MuseumNights$Zones", "isZone", "(I)Z"⟩, prog_12_method_2_code, 1, some .boolean, 0, 5, 1), (⟨"MuseumNights", "isWithin", "(III)Z"⟩, prog_1_method_40_code, 3, some .boolean, 0, 1, 3), (⟨"MuseumNights$Rooms", "size", "()I"⟩, prog_9_method_3_code, 1, some .int, 0, 3, 0), (⟨"MuseumNights$History", "record", "(LMuseumNights$Museum;)V"⟩, prog_5_method_3_code, 3, none, 5, 11, 1), (⟨"MuseumNights$Museum", "copyFrom", "(LMuseumNights$Museum;)V"⟩, prog_8_method_2_code, 2, none, 4, 2, 1), (⟨"MuseumNights$Rooms", "copyFrom", "(LMuseumNights$Rooms;)V"⟩, prog_9_method_2_code, 2, none, 1, 3, 1), (⟨"MuseumNights$Doors", "copyFrom", "(LMuseumNights$Doors;)V"⟩, prog_3_method_2_code, 2, none, 1, 4, 1), (⟨"MuseumNights$Zones", "copyFrom", "(LMuseumNights$Zones;)V"⟩, prog_12_method_3_code, 2, none, 1, 5, 1), (⟨"MuseumNights$Keys", "copyFrom", "(LMuseumNights$Keys;)V"⟩, prog_6_method_3_code, 2, none, 1, 6, 1), (⟨"MuseumNights$Guards", "copyFrom", "(LMuseumNights$Guards;)V"⟩, prog_4_method_2_code, 2, none, 1, 7, 1), (⟨"MuseumNights$Works", "copyFrom", "(LMuseumNights$Works;)V"⟩, prog_11_method_2_code, 2, none, 1, 8, 1), (⟨"MuseumNights$Alarms", "copyFrom", "(LMuseumNights$Alarms;)V"⟩, prog_2_method_2_code, 2, none, 1, 9, 1), (⟨"MuseumNights$Log", "copyFrom", "(LMuseumNights$Log;I)V"⟩, prog_7_method_2_code, 5, none, 3, 10, 2), (⟨"java/lang/Math", "max", "(II)I"⟩, prog_17_method_65_code, 2, some .int, 0, 15, 2), (⟨"java/lang/Math", "min", "(II)I"⟩, prog_17_method_69_code, 2, some .int, 0, 15, 2), (⟨"MuseumNights$Log", "provideCells", "(I)V"⟩, prog_7_method_7_code, 2, none, 2, 10, 1), (⟨"java/util/Arrays", "copyOf", "([II)[I"⟩, prog_19_method_123_code, 3, some (.array .int), 1, 14, 2), (⟨"MuseumNights$Rooms", "add", "(II)I"⟩, prog_9_method_5_code, 3, some .int, 1, 3, 2), (⟨"MuseumNights$Rooms", "forgetNightOf", "(I)V"⟩, prog_9_method_7_code, 2, none, 0, 3, 1), (⟨"MuseumNights", "addDoor", "(IIII)I"⟩, prog_1_method_3_code, 5, some .int, 6, 1, 4), (⟨"MuseumNights$Rooms", "has", "(I)Z"⟩, prog_9_method_4_code, 2, some .boolean, 0, 3, 1), (⟨"MuseumNights", "isKeyOrNone", "(I)Z"⟩, prog_1_method_41_code, 1, some .boolean, 1, 1, 1), (⟨"MuseumNights$Keys", "isKey", "(I)Z"⟩, prog_6_method_2_code, 1, some .boolean, 0, 6, 1), (⟨"MuseumNights$Doors", "between", "(II)I"⟩, prog_3_method_6_code, 4, some .int, 0, 4, 2), (⟨"MuseumNights$Doors", "size", "()I"⟩, prog_3_method_3_code, 1, some .int, 0, 4, 0)]
def m_mt1 : List (MethodName × ByteArray × Nat × Option FieldType × Nat × Nat × Nat) := [(⟨"MuseumNights$Doors", "add", "(IIII)I"⟩, prog_3_method_5_code, 5, some .int, 0, 4, 4), (⟨"MuseumNights", "setBound", "(II)I"⟩, prog_1_method_4_code, 4, some .int, 6, 1, 2), (⟨"MuseumNights$Rooms", "boundOf", "(I)I"⟩, prog_9_method_11_code, 2, some .int, 1, 3, 1), (⟨"MuseumNights$Rooms", "changeBound", "(II)V"⟩, prog_9_method_9_code, 3, none, 1, 3, 2), (⟨"MuseumNights", "exclude", "(IIZ)I"⟩, prog_1_method_5_code, 4, some .int, 6, 1, 3), (⟨"MuseumNights$Zones", "isOpen", "(I)Z"⟩, prog_12_method_4_code, 2, some .boolean, 1, 5, 1), (⟨"MuseumNights$Zones", "excludes", "(II)Z"⟩, prog_12_method_9_code, 3, some .boolean, 2, 5, 2), (⟨"MuseumNights$Zones", "excludedBy", "(I)I"⟩, prog_12_method_8_code, 2, some .int, 1, 5, 1), (⟨"MuseumNights$Zones", "changeExclusion", "(IIZ)V"⟩, prog_12_method_10_code, 4, none, 1, 5, 3), (⟨"MuseumNights$Zones", "withBit", "(IIZ)I"⟩, prog_12_method_12_code, 3, some .int, 0, 5, 3), (⟨"java/lang/Integer", "bitCount", "(I)I"⟩, prog_16_method_49_code, 1, some .int, 0, 16, 1), (⟨"MuseumNights", "openZone", "(I)I"⟩, prog_1_method_6_code, 2, some .int, 6, 1, 1), (⟨"MuseumNights$Zones", "isBarred", "(I)Z"⟩, prog_12_method_11_code, 2, some .boolean, 2, 5, 1), (⟨"MuseumNights$Zones", "changeOpen", "(IZ)V"⟩, prog_12_method_6_code, 3, none, 1, 5, 2), (⟨"MuseumNights$Zones", "openCount", "()I"⟩, prog_12_method_5_code, 1, some .int, 1, 5, 0), (⟨"MuseumNights", "closeZone", "(I)I"⟩, prog_1_method_7_code, 2, some .int, 6, 1, 1), (⟨"MuseumNights$Museum", "isZoneInUse", "(I)Z"⟩, prog_8_method_13_code, 3, some .boolean, 2, 2, 1), (⟨"MuseumNights$Guards", "size", "()I"⟩, prog_4_method_3_code, 1, some .int, 0, 7, 0), (⟨"MuseumNights$Guards", "roomOf", "(I)I"⟩, prog_4_method_13_code, 2, some .int, 1, 7, 1), (⟨"MuseumNights$Guards", "has", "(I)Z"⟩, prog_4_method_4_code, 2, some .boolean, 0, 7, 1), (⟨"MuseumNights$Rooms", "zoneOf", "(I)I"⟩, prog_9_method_10_code, 2, some .int, 1, 3, 1), (⟨"MuseumNights$Guards", "targetOf", "(I)I"⟩, prog_4_method_14_code, 2, some .int, 1, 7, 1), (⟨"MuseumNights", "addGuard", "()I"⟩, prog_1_method_8_code, 1, some .int, 6, 1, 0), (⟨"MuseumNights$Guards", "add", "(I)I"⟩, prog_4_method_5_code, 2, some .int, 1, 7, 1), (⟨"MuseumNights$Guards", "placeInGuardRoom", "(II)V"⟩, prog_4_method_7_code, 3, none, 0, 7, 2), (⟨"MuseumNights", "takeKey", "(II)I"⟩, prog_1_method_9_code, 3, some .int, 6, 1, 2), (⟨"MuseumNights$Guards", "isIn", "(II)Z"⟩, prog_4_method_9_code, 3, some .boolean, 1, 7, 2), (⟨"MuseumNights$Keys", "holderOf", "(I)I"⟩, prog_6_method_4_code, 2, some .int, 1, 6, 1), (⟨"MuseumNights$Keys", "countOf", "(I)I"⟩, prog_6_method_7_code, 2, some .int, 1, 6, 1), (⟨"MuseumNights$Keys", "bitsOf", "(I)I"⟩, prog_6_method_6_code, 4, some .int, 0, 6, 1), (⟨"MuseumNights$Keys", "give", "(II)V"⟩, prog_6_method_5_code, 3, none, 1, 6, 2), (⟨"MuseumNights", "bringKey", "(II)I"⟩, prog_1_method_10_code, 3, some .int, 6, 1, 2), (⟨"MuseumNights", "handKey", "(III)I"⟩, prog_1_method_11_code, 4, some .int, 6, 1, 3), (⟨"MuseumNights$Guards", "areTogether", "(II)Z"⟩, prog_4_method_10_code, 3, some .boolean, 2, 7, 2), (⟨"MuseumNights$Guards", "isWalking", "(I)Z"⟩, prog_4_method_8_code, 2, some .boolean, 1, 7, 1), (⟨"MuseumNights", "go", "(III)I"⟩, prog_1_method_12_code, 4, some .int, 6, 1, 3), (⟨"MuseumNights$Guards", "orderCount", "(I)I"⟩, prog_4_method_27_code, 2, some .int, 1, 7, 1), (⟨"MuseumNights$Guards", "addOrder", "(II)V"⟩, prog_4_method_29_code, 3, none, 1, 7, 2), (⟨"MuseumNights", "stop", "(I)I"⟩, prog_1_method_13_code, 3, some .int, 6, 1, 1), (⟨"MuseumNights$Guards", "stayLeft", "(I)I"⟩, prog_4_method_16_code, 2, some .int, 2, 7, 1)]
def m_mt2 : List (MethodName × ByteArray × Nat × Option FieldType × Nat × Nat × Nat) := [(⟨"MuseumNights$Guards", "dropOrders", "(I)V"⟩, prog_4_method_31_code, 2, none, 1, 7, 1), (⟨"MuseumNights$Guards", "endStay", "(I)V"⟩, prog_4_method_25_code, 2, none, 2, 7, 1), (⟨"MuseumNights", "addWork", "(III)I"⟩, prog_1_method_14_code, 4, some .int, 6, 1, 3), (⟨"MuseumNights", "isExhibitionRoom", "(I)Z"⟩, prog_1_method_42_code, 2, some .boolean, 1, 1, 1), (⟨"MuseumNights$Works", "size", "()I"⟩, prog_11_method_3_code, 1, some .int, 0, 8, 0), (⟨"MuseumNights$Works", "add", "(III)I"⟩, prog_11_method_6_code, 4, some .int, 0, 8, 3), (⟨"MuseumNights", "moveWork", "(II)I"⟩, prog_1_method_15_code, 5, some .int, 6, 1, 2), (⟨"MuseumNights$Works", "has", "(I)Z"⟩, prog_11_method_4_code, 2, some .boolean, 0, 8, 1), (⟨"MuseumNights$Works", "roomOf", "(I)I"⟩, prog_11_method_13_code, 2, some .int, 1, 8, 1), (⟨"MuseumNights$Works", "isTakenAway", "(I)Z"⟩, prog_11_method_11_code, 2, some .boolean, 2, 8, 1), (⟨"MuseumNights$Works", "stateOf", "(I)I"⟩, prog_11_method_15_code, 2, some .int, 1, 8, 1), (⟨"MuseumNights$Guards", "countIn", "(I)I"⟩, prog_4_method_11_code, 4, some .int, 0, 7, 1), (⟨"MuseumNights$Works", "changeRoom", "(II)V"⟩, prog_11_method_7_code, 3, none, 1, 8, 2), (⟨"MuseumNights$Doors", "minutesOf", "(I)I"⟩, prog_3_method_11_code, 2, some .int, 1, 4, 1), (⟨"MuseumNights$Doors", "has", "(I)Z"⟩, prog_3_method_4_code, 2, some .boolean, 0, 4, 1), (⟨"MuseumNights", "takeAway", "(I)I"⟩, prog_1_method_16_code, 3, some .int, 6, 1, 1), (⟨"MuseumNights$Works", "isTroubled", "(I)Z"⟩, prog_11_method_10_code, 2, some .boolean, 2, 8, 1), (⟨"MuseumNights$Works", "changeState", "(II)V"⟩, prog_11_method_8_code, 3, none, 1, 8, 2), (⟨"MuseumNights", "clearAlarm", "(II)I"⟩, prog_1_method_17_code, 3, some .int, 6, 1, 2), (⟨"MuseumNights$Alarms", "has", "(I)Z"⟩, prog_2_method_4_code, 2, some .boolean, 0, 9, 1), (⟨"MuseumNights$Alarms", "roomOf", "(I)I"⟩, prog_2_method_10_code, 2, some .int, 1, 9, 1), (⟨"MuseumNights$Alarms", "isCleared", "(I)Z"⟩, prog_2_method_8_code, 2, some .boolean, 2, 9, 1), (⟨"MuseumNights$Alarms", "clearerOf", "(I)I"⟩, prog_2_method_12_code, 2, some .int, 1, 9, 1), (⟨"MuseumNights$Alarms", "markCleared", "(III)V"⟩, prog_2_method_7_code, 4, none, 1, 9, 3), (⟨"MuseumNights$Alarms", "minuteOf", "(I)I"⟩, prog_2_method_11_code, 2, some .int, 1, 9, 1), (⟨"MuseumNights", "pass", "(I)I"⟩, prog_1_method_18_code, 2, some .int, 7, 1, 1), (⟨"MuseumNights$Museum", "letPass", "(I)I"⟩, prog_8_method_4_code, 4, some .int, 6, 2, 1), (⟨"MuseumNights$Alarms", "raisedCount", "()I"⟩, prog_2_method_17_code, 1, some .int, 0, 9, 0), (⟨"MuseumNights$Museum", "letGuardsSetOff", "()V"⟩, prog_8_method_5_code, 2, none, 5, 2, 0), (⟨"MuseumNights$Guards", "shortenStay", "(I)V"⟩, prog_4_method_24_code, 2, none, 3, 7, 1), (⟨"MuseumNights$Museum", "followFirstOrder", "(I)V"⟩, prog_8_method_6_code, 6, none, 4, 2, 1), (⟨"MuseumNights$Guards", "removeFirstOrder", "(I)I"⟩, prog_4_method_30_code, 4, some .int, 2, 7, 1), (⟨"MuseumNights$Guards", "orderOf", "(II)I"⟩, prog_4_method_28_code, 3, some .int, 1, 7, 2), (⟨"MuseumNights$Doors", "isPassable", "(II)Z"⟩, prog_3_method_7_code, 3, some .boolean, 1, 4, 2), (⟨"MuseumNights$Guards", "halt", "(I)V"⟩, prog_4_method_26_code, 2, none, 1, 7, 1), (⟨"MuseumNights$Guards", "stoodSince", "(I)I"⟩, prog_4_method_17_code, 2, some .int, 1, 7, 1), (⟨"MuseumNights$Log", "noteStay", "(IIII)V"⟩, prog_7_method_6_code, 6, none, 3, 10, 4), (⟨"MuseumNights$Doors", "noteUse", "(I)V"⟩, prog_3_method_8_code, 2, none, 1, 4, 1), (⟨"MuseumNights$Guards", "startWalk", "(IIII)V"⟩, prog_4_method_21_code, 5, none, 1, 7, 4), (⟨"MuseumNights$Museum", "watchRooms", "()V"⟩, prog_8_method_7_code, 2, none, 2, 2, 0)]
def m_mt3 : List (MethodName × ByteArray × Nat × Option FieldType × Nat × Nat × Nat) := [(⟨"MuseumNights$Guards", "roomBits", "()I"⟩, prog_4_method_12_code, 3, some .int, 0, 7, 0), (⟨"MuseumNights$Rooms", "noteMinute", "(I)V"⟩, prog_9_method_8_code, 3, none, 1, 3, 1), (⟨"MuseumNights$Log", "noteWatched", "(II)V"⟩, prog_7_method_5_code, 3, none, 0, 10, 2), (⟨"MuseumNights$Museum", "letGuardsWalk", "()V"⟩, prog_8_method_8_code, 2, none, 3, 2, 0), (⟨"MuseumNights$Guards", "shortenWalk", "(I)V"⟩, prog_4_method_22_code, 2, none, 2, 7, 1), (⟨"MuseumNights$Guards", "walkLeft", "(I)I"⟩, prog_4_method_15_code, 2, some .int, 1, 7, 1), (⟨"MuseumNights$Guards", "arrive", "(II)V"⟩, prog_4_method_23_code, 3, none, 2, 7, 2), (⟨"MuseumNights$Museum", "checkArrival", "(I)V"⟩, prog_8_method_9_code, 3, none, 2, 2, 1), (⟨"MuseumNights$Alarms", "raise", "(III)V"⟩, prog_2_method_6_code, 4, none, 0, 9, 3), (⟨"MuseumNights$Museum", "checkBounds", "()V"⟩, prog_8_method_10_code, 3, none, 2, 2, 0), (⟨"MuseumNights$Rooms", "unwatchedFor", "(I)I"⟩, prog_9_method_13_code, 2, some .int, 1, 3, 1), (⟨"MuseumNights$Museum", "lookAtWorks", "()V"⟩, prog_8_method_11_code, 3, none, 3, 2, 0), (⟨"MuseumNights$Museum", "mustBeTroubled", "(I)Z"⟩, prog_8_method_12_code, 4, some .boolean, 2, 2, 1), (⟨"MuseumNights$Works", "limitOf", "(I)I"⟩, prog_11_method_14_code, 2, some .int, 1, 8, 1), (⟨"MuseumNights$Works", "kindOf", "(I)I"⟩, prog_11_method_12_code, 2, some .int, 1, 8, 1), (⟨"MuseumNights$Rooms", "watchedFor", "(I)I"⟩, prog_9_method_12_code, 2, some .int, 1, 3, 1), (⟨"MuseumNights$Works", "noteAlarm", "(I)V"⟩, prog_11_method_9_code, 2, none, 1, 8, 1), (⟨"MuseumNights", "nextNight", "()I"⟩, prog_1_method_19_code, 1, some .int, 6, 1, 0), (⟨"MuseumNights$Keys", "outCount", "()I"⟩, prog_6_method_8_code, 1, some .int, 1, 6, 0), (⟨"MuseumNights$Museum", "beginNight", "()V"⟩, prog_8_method_3_code, 1, none, 2, 2, 0), (⟨"MuseumNights$Rooms", "forgetNight", "()V"⟩, prog_9_method_6_code, 2, none, 1, 3, 0), (⟨"MuseumNights$Zones", "closeAll", "()V"⟩, prog_12_method_7_code, 1, none, 0, 5, 0), (⟨"MuseumNights$Guards", "forgetNight", "()V"⟩, prog_4_method_6_code, 2, none, 1, 7, 0), (⟨"MuseumNights$Works", "clear", "()V"⟩, prog_11_method_5_code, 1, none, 0, 8, 0), (⟨"MuseumNights$Alarms", "clear", "()V"⟩, prog_2_method_5_code, 1, none, 0, 9, 0), (⟨"MuseumNights$Log", "clear", "()V"⟩, prog_7_method_3_code, 1, none, 0, 10, 0), (⟨"MuseumNights", "type", "(C)I"⟩, prog_1_method_20_code, 2, some .int, 1, 1, 1), (⟨"MuseumNights$Text", "length", "()I"⟩, prog_10_method_2_code, 1, some .int, 0, 12, 0), (⟨"MuseumNights$Text", "append", "(C)V"⟩, prog_10_method_3_code, 2, none, 0, 12, 1), (⟨"MuseumNights", "clearText", "()I"⟩, prog_1_method_21_code, 2, some .int, 1, 1, 0), (⟨"MuseumNights$Text", "clear", "()V"⟩, prog_10_method_4_code, 1, none, 0, 12, 0), (⟨"MuseumNights", "readOrders", "(I)I"⟩, prog_1_method_22_code, 4, some .int, 6, 1, 1), (⟨"MuseumNights$Text", "read", "()I"⟩, prog_10_method_8_code, 2, some .int, 3, 12, 0), (⟨"MuseumNights$Text", "readOrder", "()Z"⟩, prog_10_method_9_code, 3, some .boolean, 2, 12, 0), (⟨"MuseumNights$Text", "readNumber", "()I"⟩, prog_10_method_10_code, 3, some .int, 1, 12, 0), (⟨"MuseumNights$Text", "digitHere", "()I"⟩, prog_10_method_11_code, 2, some .int, 0, 12, 0), (⟨"MuseumNights$Text", "skip", "(C)Z"⟩, prog_10_method_12_code, 2, some .boolean, 0, 12, 1), (⟨"MuseumNights$Text", "largestRoom", "()I"⟩, prog_10_method_7_code, 3, some .int, 1, 12, 0), (⟨"MuseumNights$Text", "orderCount", "()I"⟩, prog_10_method_5_code, 1, some .int, 0, 12, 0), (⟨"MuseumNights$Text", "orderOf", "(I)I"⟩, prog_10_method_6_code, 2, some .int, 0, 12, 1)]
def m_mt4 : List (MethodName × ByteArray × Nat × Option FieldType × Nat × Nat × Nat) := [(⟨"MuseumNights", "undo", "()I"⟩, prog_1_method_23_code, 1, some .int, 6, 1, 0), (⟨"MuseumNights$History", "size", "()I"⟩, prog_5_method_2_code, 1, some .int, 0, 11, 0), (⟨"MuseumNights$History", "giveBack", "(LMuseumNights$Museum;)V"⟩, prog_5_method_4_code, 3, none, 5, 11, 1), (⟨"MuseumNights", "keep", "()I"⟩, prog_1_method_24_code, 1, some .int, 5, 1, 0), (⟨"MuseumNights", "restore", "()I"⟩, prog_1_method_25_code, 1, some .int, 6, 1, 0), (⟨"MuseumNights", "room", "(II)I"⟩, prog_1_method_26_code, 3, some .int, 2, 1, 2), (⟨"MuseumNights$Rooms", "longestGapOf", "(I)I"⟩, prog_9_method_14_code, 2, some .int, 1, 3, 1), (⟨"MuseumNights$Rooms", "watchedMinutesOf", "(I)I"⟩, prog_9_method_15_code, 2, some .int, 1, 3, 1), (⟨"MuseumNights$Works", "countIn", "(I)I"⟩, prog_11_method_17_code, 4, some .int, 0, 8, 1), (⟨"MuseumNights$Alarms", "openIn", "(I)I"⟩, prog_2_method_14_code, 4, some .int, 0, 9, 1), (⟨"MuseumNights", "door", "(II)I"⟩, prog_1_method_27_code, 3, some .int, 2, 1, 2), (⟨"MuseumNights$Doors", "oneRoomOf", "(I)I"⟩, prog_3_method_9_code, 2, some .int, 1, 4, 1), (⟨"MuseumNights$Doors", "otherRoomOf", "(I)I"⟩, prog_3_method_10_code, 2, some .int, 1, 4, 1), (⟨"MuseumNights$Doors", "keyOf", "(I)I"⟩, prog_3_method_12_code, 2, some .int, 1, 4, 1), (⟨"MuseumNights$Doors", "usesOf", "(I)I"⟩, prog_3_method_13_code, 2, some .int, 1, 4, 1), (⟨"MuseumNights", "zone", "(II)I"⟩, prog_1_method_28_code, 4, some .int, 3, 1, 2), (⟨"MuseumNights$Rooms", "countOf", "(I)I"⟩, prog_9_method_16_code, 4, some .int, 0, 3, 1), (⟨"MuseumNights$Museum", "guardsInZone", "(I)I"⟩, prog_8_method_14_code, 4, some .int, 2, 2, 1), (⟨"MuseumNights", "guard", "(II)I"⟩, prog_1_method_29_code, 3, some .int, 3, 1, 2), (⟨"MuseumNights$Guards", "haltsOf", "(I)I"⟩, prog_4_method_18_code, 2, some .int, 1, 7, 1), (⟨"MuseumNights$Guards", "arrivalsOf", "(I)I"⟩, prog_4_method_19_code, 2, some .int, 1, 7, 1), (⟨"MuseumNights", "orderAt", "(II)I"⟩, prog_1_method_30_code, 3, some .int, 2, 1, 2), (⟨"MuseumNights", "holder", "(I)I"⟩, prog_1_method_31_code, 2, some .int, 2, 1, 1), (⟨"MuseumNights", "work", "(II)I"⟩, prog_1_method_32_code, 3, some .int, 2, 1, 2), (⟨"MuseumNights$Works", "alarmsOf", "(I)I"⟩, prog_11_method_16_code, 2, some .int, 1, 8, 1), (⟨"MuseumNights", "alarm", "(II)I"⟩, prog_1_method_33_code, 3, some .int, 2, 1, 2), (⟨"MuseumNights$Alarms", "causeOf", "(I)I"⟩, prog_2_method_9_code, 2, some .int, 1, 9, 1), (⟨"MuseumNights$Alarms", "clearedMinuteOf", "(I)I"⟩, prog_2_method_13_code, 2, some .int, 1, 9, 1), (⟨"MuseumNights", "stay", "(II)I"⟩, prog_1_method_34_code, 3, some .int, 1, 1, 2), (⟨"MuseumNights$Log", "partOfStay", "(II)I"⟩, prog_7_method_8_code, 3, some .int, 0, 10, 2), (⟨"MuseumNights", "gap", "(III)I"⟩, prog_1_method_35_code, 4, some .int, 2, 1, 3), (⟨"MuseumNights$Log", "longestGap", "(III)I"⟩, prog_7_method_9_code, 7, some .int, 1, 10, 3), (⟨"MuseumNights", "way", "(II)I"⟩, prog_1_method_36_code, 3, some .int, 4, 1, 2), (⟨"MuseumNights$Museum", "minutesTo", "(II)I"⟩, prog_8_method_15_code, 7, some .int, 3, 2, 2), (⟨"MuseumNights$Doors", "fewestMinutes", "(III)I"⟩, prog_3_method_14_code, 6, some .int, 2, 4, 3), (⟨"MuseumNights$Doors", "shortenReach", "(II)V"⟩, prog_3_method_16_code, 3, none, 0, 4, 2), (⟨"MuseumNights$Doors", "reachOf", "(I)I"⟩, prog_3_method_15_code, 2, some .int, 0, 4, 1), (⟨"MuseumNights", "firstDue", "()I"⟩, prog_1_method_37_code, 1, some .int, 1, 1, 0), (⟨"MuseumNights$Rooms", "firstDueRoom", "()I"⟩, prog_9_method_17_code, 5, some .int, 0, 3, 0), (⟨"MuseumNights", "alarmsIn", "(I)I"⟩, prog_1_method_38_code, 2, some .int, 7, 1, 1)]
def m_mt5 : List (MethodName × ByteArray × Nat × Option FieldType × Nat × Nat × Nat) := [(⟨"MuseumNights", "count", "(I)I"⟩, prog_1_method_39_code, 2, some .int, 2, 1, 1), (⟨"MuseumNights$Works", "troubledCount", "()I"⟩, prog_11_method_18_code, 3, some .int, 0, 8, 0), (⟨"MuseumNights$Alarms", "size", "()I"⟩, prog_2_method_3_code, 1, some .int, 0, 9, 0), (⟨"MuseumNights$Alarms", "openCount", "()I"⟩, prog_2_method_15_code, 3, some .int, 0, 9, 0), (⟨"MuseumNights$Alarms", "lostCount", "()I"⟩, prog_2_method_16_code, 1, some .int, 0, 9, 0), (⟨"MuseumNights$Log", "stayCount", "()I"⟩, prog_7_method_4_code, 1, some .int, 0, 10, 0), (⟨"MuseumNights$Guards", "haltCount", "()I"⟩, prog_4_method_20_code, 3, some .int, 0, 7, 0), (⟨"MuseumNightsModel", "<init>", "()V"⟩, prog_14_method_1_code, 1, none, 1, 13, 0), (⟨"MuseumNightsModel", "addRoom", "(II)I"⟩, prog_14_method_20_code, 6, some .int, 2, 13, 2), (⟨"MuseumNightsModel", "isZone", "(I)Z"⟩, prog_14_method_11_code, 1, some .boolean, 1, 13, 1), (⟨"MuseumNightsModel", "within", "(III)Z"⟩, prog_14_method_4_code, 3, some .boolean, 0, 13, 3), (⟨"MuseumNightsModel", "isBound", "(I)Z"⟩, prog_14_method_13_code, 1, some .boolean, 1, 13, 1), (⟨"MuseumNightsModel", "record", "()V"⟩, prog_14_method_5_code, 2, none, 1, 13, 0), (⟨"MuseumNightsModel", "copy", "([II[II)V"⟩, prog_14_method_3_code, 5, none, 0, 13, 4), (⟨"MuseumNightsModel", "addDoor", "(IIII)I"⟩, prog_14_method_22_code, 6, some .int, 2, 13, 4), (⟨"MuseumNightsModel", "isRoom", "(I)Z"⟩, prog_14_method_6_code, 2, some .boolean, 1, 13, 1), (⟨"MuseumNightsModel", "doorBetween", "(II)I"⟩, prog_14_method_21_code, 6, some .int, 1, 13, 2), (⟨"MuseumNightsModel", "doorPart", "(II)I"⟩, prog_14_method_15_code, 3, some .int, 0, 13, 2), (⟨"MuseumNightsModel", "setBound", "(II)I"⟩, prog_14_method_23_code, 5, some .int, 2, 13, 2), (⟨"MuseumNightsModel", "roomPart", "(II)I"⟩, prog_14_method_14_code, 3, some .int, 0, 13, 2), (⟨"MuseumNightsModel", "exclude", "(IIZ)I"⟩, prog_14_method_26_code, 4, some .int, 2, 13, 3), (⟨"MuseumNightsModel", "excludes", "(II)Z"⟩, prog_14_method_24_code, 3, some .boolean, 0, 13, 2), (⟨"MuseumNightsModel", "bitsIn", "(I)I"⟩, prog_14_method_25_code, 3, some .int, 0, 13, 1), (⟨"MuseumNightsModel", "openZone", "(I)I"⟩, prog_14_method_29_code, 3, some .int, 2, 13, 1), (⟨"MuseumNightsModel", "isBarred", "(I)Z"⟩, prog_14_method_28_code, 4, some .boolean, 1, 13, 1), (⟨"MuseumNightsModel", "openZones", "()I"⟩, prog_14_method_27_code, 3, some .int, 0, 13, 0), (⟨"MuseumNightsModel", "closeZone", "(I)I"⟩, prog_14_method_31_code, 3, some .int, 2, 13, 1), (⟨"MuseumNightsModel", "guardPart", "(II)I"⟩, prog_14_method_16_code, 3, some .int, 0, 13, 2), (⟨"MuseumNightsModel", "isInZone", "(II)Z"⟩, prog_14_method_30_code, 3, some .boolean, 1, 13, 2), (⟨"MuseumNightsModel", "addGuard", "()I"⟩, prog_14_method_32_code, 3, some .int, 2, 13, 0), (⟨"MuseumNightsModel", "setGuard", "(III)V"⟩, prog_14_method_17_code, 4, none, 0, 13, 3), (⟨"MuseumNightsModel", "takeKey", "(II)I"⟩, prog_14_method_37_code, 3, some .int, 3, 13, 2), (⟨"MuseumNightsModel", "isGuard", "(I)Z"⟩, prog_14_method_8_code, 2, some .boolean, 1, 13, 1), (⟨"MuseumNightsModel", "isKey", "(I)Z"⟩, prog_14_method_12_code, 1, some .boolean, 1, 13, 1), (⟨"MuseumNightsModel", "holderOf", "(I)I"⟩, prog_14_method_33_code, 4, some .int, 2, 13, 1), (⟨"MuseumNightsModel", "hasKey", "(II)Z"⟩, prog_14_method_34_code, 3, some .boolean, 1, 13, 2), (⟨"MuseumNightsModel", "keysOf", "(I)I"⟩, prog_14_method_35_code, 2, some .int, 1, 13, 1), (⟨"MuseumNightsModel", "turnKey", "(II)V"⟩, prog_14_method_36_code, 3, none, 1, 13, 2), (⟨"MuseumNightsModel", "bringKey", "(II)I"⟩, prog_14_method_38_code, 3, some .int, 2, 13, 2), (⟨"MuseumNightsModel", "handKey", "(III)I"⟩, prog_14_method_39_code, 4, some .int, 2, 13, 3)]
def m_mt6 : List (MethodName × ByteArray × Nat × Option FieldType × Nat × Nat × Nat) := [(⟨"MuseumNightsModel", "go", "(III)I"⟩, prog_14_method_41_code, 4, some .int, 2, 13, 3), (⟨"MuseumNightsModel", "putOrder", "(III)V"⟩, prog_14_method_40_code, 5, none, 1, 13, 3), (⟨"MuseumNightsModel", "stop", "(I)I"⟩, prog_14_method_42_code, 3, some .int, 2, 13, 1), (⟨"MuseumNightsModel", "addWork", "(III)I"⟩, prog_14_method_43_code, 5, some .int, 2, 13, 3), (⟨"MuseumNightsModel", "moveWork", "(II)I"⟩, prog_14_method_45_code, 5, some .int, 2, 13, 2), (⟨"MuseumNightsModel", "isWork", "(I)Z"⟩, prog_14_method_9_code, 2, some .boolean, 1, 13, 1), (⟨"MuseumNightsModel", "workPart", "(II)I"⟩, prog_14_method_18_code, 3, some .int, 0, 13, 2), (⟨"MuseumNightsModel", "guardsIn", "(I)I"⟩, prog_14_method_44_code, 4, some .int, 1, 13, 1), (⟨"MuseumNightsModel", "takeAway", "(I)I"⟩, prog_14_method_46_code, 4, some .int, 2, 13, 1), (⟨"MuseumNightsModel", "clearAlarm", "(II)I"⟩, prog_14_method_47_code, 3, some .int, 2, 13, 2), (⟨"MuseumNightsModel", "isAlarm", "(I)Z"⟩, prog_14_method_10_code, 2, some .boolean, 1, 13, 1), (⟨"MuseumNightsModel", "alarmPart", "(II)I"⟩, prog_14_method_19_code, 3, some .int, 0, 13, 2), (⟨"MuseumNightsModel", "pass", "(I)I"⟩, prog_14_method_58_code, 3, some .int, 7, 13, 1), (⟨"MuseumNightsModel", "whyNotPassed", "(I)I"⟩, prog_14_method_56_code, 2, some .int, 1, 13, 1), (⟨"MuseumNightsModel", "passed", "(I)I"⟩, prog_14_method_57_code, 4, some .int, 6, 13, 1), (⟨"MuseumNightsModel", "minute", "()I"⟩, prog_14_method_55_code, 4, some .int, 5, 13, 0), (⟨"MuseumNightsModel", "guardsBegin", "()V"⟩, prog_14_method_51_code, 3, none, 4, 13, 0), (⟨"MuseumNightsModel", "setsOff", "(I)V"⟩, prog_14_method_50_code, 7, none, 3, 13, 1), (⟨"MuseumNightsModel", "mayPass", "(II)Z"⟩, prog_14_method_49_code, 4, some .boolean, 2, 13, 2), (⟨"MuseumNightsModel", "roomsAreWatched", "()V"⟩, prog_14_method_52_code, 4, none, 2, 13, 0), (⟨"MuseumNightsModel", "guardsWalk", "()I"⟩, prog_14_method_53_code, 5, some .int, 1, 13, 0), (⟨"MuseumNightsModel", "alarms", "(II)I"⟩, prog_14_method_48_code, 4, some .int, 0, 13, 2), (⟨"MuseumNightsModel", "isTroubled", "(I)Z"⟩, prog_14_method_54_code, 4, some .boolean, 1, 13, 1), (⟨"MuseumNightsModel", "nextNight", "()I"⟩, prog_14_method_60_code, 3, some .int, 3, 13, 0), (⟨"MuseumNightsModel", "keysOut", "()I"⟩, prog_14_method_59_code, 3, some .int, 2, 13, 0), (⟨"MuseumNightsModel", "type", "(C)I"⟩, prog_14_method_61_code, 2, some .int, 0, 13, 1), (⟨"MuseumNightsModel", "clearText", "()I"⟩, prog_14_method_62_code, 2, some .int, 0, 13, 0), (⟨"MuseumNightsModel", "readOrders", "(I)I"⟩, prog_14_method_68_code, 4, some .int, 4, 13, 1), (⟨"MuseumNightsModel", "readText", "()I"⟩, prog_14_method_67_code, 4, some .int, 3, 13, 0), (⟨"MuseumNightsModel", "behindNumber", "(I)I"⟩, prog_14_method_65_code, 2, some .int, 2, 13, 1), (⟨"MuseumNightsModel", "isDigit", "(I)Z"⟩, prog_14_method_64_code, 2, some .boolean, 1, 13, 1), (⟨"MuseumNightsModel", "character", "(I)I"⟩, prog_14_method_63_code, 2, some .int, 0, 13, 1), (⟨"MuseumNightsModel", "number", "(II)I"⟩, prog_14_method_66_code, 5, some .int, 0, 13, 2), (⟨"MuseumNightsModel", "undo", "()I"⟩, prog_14_method_69_code, 1, some .int, 1, 13, 0), (⟨"MuseumNightsModel", "keep", "()I"⟩, prog_14_method_70_code, 1, some .int, 1, 13, 0), (⟨"MuseumNightsModel", "restore", "()I"⟩, prog_14_method_71_code, 1, some .int, 2, 13, 0), (⟨"MuseumNightsModel", "room", "(II)I"⟩, prog_14_method_72_code, 6, some .int, 2, 13, 2), (⟨"MuseumNightsModel", "door", "(II)I"⟩, prog_14_method_73_code, 4, some .int, 2, 13, 2), (⟨"MuseumNightsModel", "isDoor", "(I)Z"⟩, prog_14_method_7_code, 2, some .boolean, 1, 13, 1), (⟨"MuseumNightsModel", "zone", "(II)I"⟩, prog_14_method_74_code, 7, some .int, 2, 13, 2)]
def m_mt7 : List (MethodName × ByteArray × Nat × Option FieldType × Nat × Nat × Nat) := [(⟨"MuseumNightsModel", "guard", "(II)I"⟩, prog_14_method_75_code, 4, some .int, 2, 13, 2), (⟨"MuseumNightsModel", "orderAt", "(II)I"⟩, prog_14_method_76_code, 4, some .int, 2, 13, 2), (⟨"MuseumNightsModel", "holder", "(I)I"⟩, prog_14_method_77_code, 2, some .int, 3, 13, 1), (⟨"MuseumNightsModel", "work", "(II)I"⟩, prog_14_method_78_code, 3, some .int, 2, 13, 2), (⟨"MuseumNightsModel", "alarm", "(II)I"⟩, prog_14_method_79_code, 3, some .int, 2, 13, 2), (⟨"MuseumNightsModel", "stay", "(II)I"⟩, prog_14_method_81_code, 6, some .int, 1, 13, 2), (⟨"MuseumNightsModel", "gap", "(III)I"⟩, prog_14_method_82_code, 7, some .int, 2, 13, 3), (⟨"MuseumNightsModel", "way", "(II)I"⟩, prog_14_method_83_code, 9, some .int, 3, 13, 2), (⟨"MuseumNightsModel", "firstDue", "()I"⟩, prog_14_method_84_code, 6, some .int, 1, 13, 0), (⟨"MuseumNightsModel", "alarmsIn", "(I)I"⟩, prog_14_method_85_code, 4, some .int, 7, 13, 1), (⟨"MuseumNightsModel", "count", "(I)I"⟩, prog_14_method_86_code, 6, some .int, 3, 13, 1), (⟨"MuseumNightsModel", "stays", "()I"⟩, prog_14_method_80_code, 3, some .int, 0, 13, 0)]
def m_mt : List (List (MethodName × ByteArray × Nat × Option FieldType × Nat × Nat × Nat)) := [m_mt0, m_mt1, m_mt2, m_mt3, m_mt4, m_mt5, m_mt6, m_mt7]
def m_row (j : Nat) : MethodName × ByteArray × Nat × Option FieldType × Nat × Nat × Nat := ((m_mt[j / 40]?.getD [])[j % 40]?).getD (x, code, maxLocals, ret, 8, 0, 1)
def m_y (j : Nat) : MethodName := (m_row j).1
def m_code (j : Nat) : ByteArray := (m_row j).2.1
def m_nl (j : Nat) : Nat := (m_row j).2.2.1
def m_ret (j : Nat) : Option FieldType := (m_row j).2.2.2.1
def m_fr (j : Nat) : Nat := (m_row j).2.2.2.2.1
def m_own (j : Nat) : Nat := (m_row j).2.2.2.2.2.1
def m_np (j : Nat) : Nat := (m_row j).2.2.2.2.2.2
/-- fields by class and place in the pool: (pool, class, field, of a nest mate) -/
def m_fl : List (List (Nat × Nat × Nat × Bool)) := [[],
  [(50, 1, 0, true), (74, 1, 1, true), (95, 1, 2, true), (153, 1, 3, true), (131, 1, 4, true), (188, 1, 5, true), (220, 1, 6, true), (355, 1, 7, true), (138, 1, 8, true), (247, 1, 9, true), (10, 0, 0, false), (16, 0, 1, false), (19, 0, 2, false), (25, 0, 3, false), (32, 0, 4, false), (36, 0, 5, false)],
  [(12, 1, 0, false), (21, 1, 1, false), (28, 1, 2, false), (35, 1, 3, false), (42, 1, 4, false), (49, 1, 5, false), (56, 1, 6, false), (63, 1, 7, false), (67, 1, 8, false), (71, 1, 9, false)],
  [(9, 2, 0, false), (15, 2, 1, false), (18, 2, 2, false), (21, 2, 3, false), (24, 2, 4, false), (27, 2, 5, false), (30, 2, 6, false)],
  [(9, 3, 0, false), (15, 3, 1, false), (18, 3, 2, false), (21, 3, 3, false), (24, 3, 4, false), (27, 3, 5, false), (30, 3, 6, false)],
  [(9, 4, 0, false), (15, 4, 1, false)],
  [(9, 5, 0, false)],
  [(9, 6, 0, false), (15, 6, 1, false), (18, 6, 2, false), (21, 6, 3, false), (24, 6, 4, false), (27, 6, 5, false), (30, 6, 6, false), (33, 6, 7, false), (36, 6, 8, false), (39, 6, 9, false)],
  [(9, 7, 0, false), (15, 7, 1, false), (18, 7, 2, false), (21, 7, 3, false), (24, 7, 4, false), (27, 7, 5, false)],
  [(9, 8, 0, false), (15, 8, 1, false), (18, 8, 2, false), (21, 8, 3, false), (24, 8, 4, false), (27, 8, 5, false), (31, 8, 6, false)],
  [(11, 9, 0, false), (15, 9, 1, false), (18, 9, 2, false)],
  [(12, 10, 0, false), (18, 10, 1, false), (21, 10, 2, false), (24, 10, 3, false), (27, 10, 4, false)],
  [(9, 11, 0, false), (15, 11, 1, false), (19, 11, 2, false), (23, 11, 3, false), (26, 11, 4, false)],
  [(7, 12, 0, false), (13, 12, 1, false), (16, 12, 2, false), (183, 12, 3, false), (19, 12, 4, false), (31, 12, 5, false), (22, 12, 6, false), (162, 12, 7, false), (25, 12, 8, false), (28, 12, 9, false), (171, 12, 10, false)],
  [],
  [],
  []]
def m_ml0_0 : List (Nat × Nat × Nat) := [(9, 0, 1), (13, 2, 14), (18, 2, 34), (23, 2, 41), (27, 2, 44), (32, 2, 51), (37, 2, 55), (41, 2, 62), (46, 2, 65), (50, 2, 71), (54, 2, 72), (59, 2, 75), (63, 2, 78), (67, 2, 82), (71, 2, 86), (75, 2, 95), (79, 2, 98), (83, 2, 105), (87, 2, 137), (91, 2, 146), (96, 2, 149), (100, 2, 151), (104, 2, 160), (108, 2, 163), (112, 2, 164)]
def m_ml0_1 : List (Nat × Nat × Nat) := [(116, 2, 165), (120, 2, 170), (124, 2, 175), (128, 2, 178), (132, 2, 181), (136, 2, 182), (140, 2, 183), (144, 2, 185), (148, 2, 188), (152, 2, 190), (156, 2, 192), (160, 2, 197), (164, 2, 199), (168, 2, 200), (12, 0, 207), (17, 2, 208), (22, 2, 214), (26, 2, 218), (31, 2, 220), (36, 2, 223), (40, 2, 226), (45, 2, 229), (49, 2, 231), (53, 2, 238), (58, 2, 239)]
def m_ml0_2 : List (Nat × Nat × Nat) := [(62, 2, 240), (66, 2, 242), (70, 2, 243), (74, 2, 244), (78, 2, 248), (82, 2, 249), (86, 2, 252), (90, 2, 263), (95, 2, 265), (99, 2, 266), (103, 2, 267), (107, 2, 273), (111, 2, 274), (115, 2, 275), (119, 2, 276), (123, 2, 277), (127, 2, 279), (131, 2, 280), (135, 2, 281), (139, 2, 282), (143, 2, 283), (147, 2, 284), (151, 2, 285), (155, 2, 286), (159, 2, 287)]
def m_ml0_3 : List (Nat × Nat × Nat) := [(163, 2, 288), (167, 2, 289), (171, 2, 290)]
def m_ml1_0 : List (Nat × Nat × Nat) := [(1, 4, 0), (9, 1, 2), (24, 1, 12), (31, 1, 13), (40, 3, 15), (46, 3, 16), (54, 2, 17), (60, 2, 18), (64, 2, 32), (68, 2, 35), (71, 3, 36), (145, 3, 37), (78, 2, 38), (83, 2, 39), (84, 2, 40), (87, 2, 42), (91, 2, 43), (99, 2, 45), (102, 2, 46), (106, 2, 48), (110, 2, 47), (113, 3, 50), (118, 2, 52), (121, 2, 53), (125, 2, 54)]
def m_ml1_1 : List (Nat × Nat × Nat) := [(128, 2, 56), (135, 2, 57), (142, 2, 63), (144, 2, 59), (150, 2, 66), (157, 2, 67), (160, 2, 68), (163, 2, 70), (166, 2, 73), (169, 2, 76), (172, 2, 77), (175, 2, 79), (178, 2, 80), (182, 2, 81), (185, 2, 83), (192, 2, 84), (195, 2, 85), (198, 2, 87), (199, 2, 88), (202, 2, 89), (205, 2, 91), (208, 2, 92), (211, 2, 93), (214, 2, 96), (217, 2, 97)]
def m_ml1_2 : List (Nat × Nat × Nat) := [(224, 2, 99), (227, 2, 100), (228, 2, 101), (231, 2, 103), (235, 2, 104), (238, 2, 106), (241, 2, 138), (244, 2, 139), (250, 2, 147), (253, 2, 148), (257, 2, 150), (260, 2, 152), (263, 2, 157), (266, 2, 158), (268, 2, 159), (271, 2, 161), (272, 2, 162), (275, 2, 19), (278, 2, 60), (281, 2, 135), (284, 2, 130), (287, 2, 166), (290, 2, 167), (293, 2, 168), (294, 2, 169)]
def m_ml1_3 : List (Nat × Nat × Nat) := [(297, 2, 94), (298, 2, 171), (301, 2, 172), (304, 2, 173), (307, 2, 174), (310, 2, 176), (311, 2, 177), (314, 2, 58), (315, 2, 61), (318, 2, 125), (321, 2, 69), (324, 2, 179), (327, 2, 180), (330, 2, 112), (332, 2, 134), (335, 2, 133), (338, 2, 90), (341, 2, 184), (344, 2, 186), (347, 2, 102), (350, 2, 187), (359, 2, 189), (362, 2, 191), (365, 2, 193), (368, 2, 198)]
def m_ml1_4 : List (Nat × Nat × Nat) := [(371, 2, 201), (374, 2, 202), (375, 2, 203), (376, 2, 204), (379, 2, 205), (382, 2, 206)]
def m_ml2_0 : List (Nat × Nat × Nat) := [(3, 4, 0), (11, 0, 3), (20, 1, 4), (27, 1, 5), (34, 0, 6), (41, 1, 8), (48, 1, 9), (55, 1, 10), (62, 1, 11), (74, 2, 20), (78, 2, 21), (81, 2, 22), (84, 2, 23), (87, 2, 24), (90, 2, 25), (93, 2, 26), (96, 2, 27), (130, 2, 57), (151, 2, 58), (209, 2, 60), (255, 2, 61), (111, 2, 107), (115, 2, 108), (133, 2, 74), (137, 2, 79)]
def m_ml2_1 : List (Nat × Nat × Nat) := [(141, 2, 109), (145, 2, 76), (148, 2, 110), (154, 2, 111), (157, 2, 38), (161, 2, 69), (164, 2, 113), (168, 2, 114), (171, 2, 115), (174, 2, 116), (178, 2, 117), (181, 2, 93), (184, 2, 118), (118, 2, 119), (187, 2, 120), (190, 2, 121), (193, 2, 122), (121, 2, 123), (197, 2, 124), (200, 2, 125), (203, 2, 126), (206, 2, 127), (212, 3, 15), (215, 2, 45), (218, 2, 128)]
def m_ml2_2 : List (Nat × Nat × Nat) := [(124, 2, 129), (222, 2, 17), (223, 2, 42), (226, 2, 130), (127, 2, 131), (229, 2, 84), (230, 2, 89), (233, 2, 132), (242, 2, 88), (246, 2, 133), (249, 2, 134), (252, 2, 135), (236, 2, 96), (239, 2, 136), (243, 2, 97), (99, 2, 140), (102, 2, 141), (105, 2, 142), (106, 2, 143), (109, 2, 144), (110, 2, 145), (258, 2, 194)]
def m_ml3_0 : List (Nat × Nat × Nat) := [(3, 4, 0), (34, 5, 0), (40, 2, 33), (50, 2, 35), (44, 6, 28)]
def m_ml4_0 : List (Nat × Nat × Nat) := [(3, 4, 0), (34, 5, 0), (40, 2, 94), (44, 3, 7), (50, 2, 195), (54, 2, 113), (58, 2, 196)]
def m_ml5_0 : List (Nat × Nat × Nat) := [(3, 4, 0), (19, 5, 0), (25, 3, 15), (39, 2, 47), (35, 3, 49), (29, 3, 50)]
def m_ml6_0 : List (Nat × Nat × Nat) := [(3, 4, 0), (15, 3, 7), (21, 5, 0), (27, 3, 37), (31, 2, 69), (35, 3, 50)]
def m_ml7_0 : List (Nat × Nat × Nat) := [(3, 4, 0), (43, 5, 0), (53, 2, 59), (49, 2, 64), (57, 2, 74), (60, 2, 58), (64, 2, 66), (68, 2, 79), (71, 2, 112)]
def m_ml8_0 : List (Nat × Nat × Nat) := [(3, 4, 0), (31, 5, 0), (37, 2, 87), (41, 2, 90)]
def m_ml9_0 : List (Nat × Nat × Nat) := [(3, 4, 0), (34, 5, 0), (40, 2, 99), (44, 2, 102)]
def m_ml10_0 : List (Nat × Nat × Nat) := [(5, 4, 0), (22, 6, 28), (28, 7, 29), (31, 5, 0), (37, 2, 30), (41, 3, 31)]
def m_ml11_0 : List (Nat × Nat × Nat) := [(3, 4, 0), (11, 1, 2), (31, 2, 19), (35, 7, 29)]
def m_ml12_0 : List (Nat × Nat × Nat) := [(3, 4, 0), (35, 2, 153), (43, 2, 154), (47, 2, 155), (39, 2, 156), (29, 6, 28)]
def m_ml13_0 : List (Nat × Nat × Nat) := [(1, 4, 0), (43, 3, 209), (39, 3, 210), (47, 3, 211), (50, 2, 212), (35, 3, 213), (57, 2, 215), (60, 2, 216), (53, 2, 217), (63, 2, 219), (66, 2, 221), (70, 3, 222), (74, 2, 224), (77, 2, 225), (81, 2, 227), (84, 2, 228), (87, 2, 230), (94, 2, 232), (97, 3, 233), (100, 2, 234), (91, 2, 235), (103, 2, 236), (106, 2, 237), (110, 2, 241), (113, 2, 245)]
def m_ml13_1 : List (Nat × Nat × Nat) := [(116, 2, 246), (119, 2, 247), (122, 2, 250), (125, 2, 251), (153, 2, 253), (156, 2, 254), (150, 2, 255), (138, 2, 256), (131, 2, 257), (128, 2, 258), (141, 2, 259), (144, 2, 260), (135, 2, 261), (147, 2, 262), (159, 2, 264), (180, 2, 268), (174, 2, 269), (168, 2, 270), (165, 2, 271), (177, 2, 272), (186, 2, 278), (189, 2, 291)]
def m_ml14_0 : List (Nat × Nat × Nat) := [(304, 7, 29), (150, 5, 0)]
/-- methods likewise: (pool, kind, method); kinds: 0 a constructor, 1 one of a nest mate, 2 virtual, 3 static, 4 Object(), 5 arraycopy, 6 Math.max, 7 Math.min -/
def m_ml : List (List (Nat × Nat × Nat)) := [m_ml0_0 ++ m_ml0_1 ++ m_ml0_2 ++ m_ml0_3, m_ml1_0 ++ m_ml1_1 ++ m_ml1_2 ++ m_ml1_3 ++ m_ml1_4, m_ml2_0 ++ m_ml2_1 ++ m_ml2_2, m_ml3_0, m_ml4_0, m_ml5_0, m_ml6_0, m_ml7_0, m_ml8_0, m_ml9_0, m_ml10_0, m_ml11_0, m_ml12_0, m_ml13_0 ++ m_ml13_1, m_ml14_0, [], []]
/-- classes likewise: (pool, class) -/
def m_kl : List (List (Nat × Nat)) := [[(7, 0), (10, 12)],
  [(7, 1), (22, 10), (29, 11)],
  [(9, 2), (18, 3), (25, 4), (32, 5), (39, 6), (46, 7), (53, 8), (60, 9)],
  [],
  [],
  [],
  [],
  [],
  [],
  [],
  [],
  [(9, 1)],
  [],
  [],
  [],
  [],
  []]
/-- int constants likewise -/
def m_cl : List (List (Nat × Int32)) := [[],
  [],
  [],
  [],
  [],
  [],
  [],
  [],
  [],
  [],
  [],
  [],
  [],
  [],
  [],
  [],
  [(265, 1431655765), (266, 858993459), (267, 252645135)]]
def m_findF (own idx : Nat) : Option (Nat × Nat × Nat × Bool) := (m_fl[own]?.getD []).find? (fun e => e.1 == idx)
def m_findM (own idx : Nat) : Option (Nat × Nat × Nat) := (m_ml[own]?.getD []).find? (fun e => e.1 == idx)
def m_findK (own idx : Nat) : Option (Nat × Nat) := (m_kl[own]?.getD []).find? (fun e => e.1 == idx)
def m_findC (own idx : Nat) : Option (Nat × Int32) := (m_cl[own]?.getD []).find? (fun e => e.1 == idx)
def m_ownS (o : Nat) : String := m_owns[o]?.getD ""
def m_clsQ (ci : Nat) : vw_C := m_cls[ci]?.getD ("", m_T0, 0)
/-- the word of a field's link -/
def m_fw (o : Nat) (e : Nat × Nat × Nat × Bool) : Cond :=
  match e with
  | (idx, ci, k, true) => .fieldLinkNest (m_ownS o) idx (m_clsQ ci).1 ((m_clsQ ci).2.1 k).2.1 ((m_clsQ ci).2.1 k).2.2.1 "MuseumNights"
  | (idx, ci, k, false) => .fieldLink (m_ownS o) idx (m_clsQ ci).1 ((m_clsQ ci).2.1 k).2.1 ((m_clsQ ci).2.1 k).2.2.1
def m_fok (e : Nat × Nat × Nat × Bool) : Bool :=
  decide (e.2.1 < m_cls.length) && decide (e.2.2.1 < (m_clsQ e.2.1).2.2) && decide (((m_clsQ e.2.1).2.1 e.2.2.1).1 = (m_clsQ e.2.1).1)
set_option maxRecDepth 100000 in
theorem m_fl_ok : (m_fl.all fun p => p.all m_fok) = true := by decide +kernel
set_option maxRecDepth 100000 in
theorem m_fw1 : (m_fl[1]?.getD []).map (m_fw 1) = [280, 282, 284, 286, 288, 290, 292, 294, 296, 298, 367, 368, 369, 370, 371, 372].filterMap (fun i => lw_tbl[i]?) := by rfl
set_option maxRecDepth 100000 in
theorem m_fw2 : (m_fl[2]?.getD []).map (m_fw 2) = [279, 281, 283, 285, 287, 289, 291, 293, 295, 297].filterMap (fun i => lw_tbl[i]?) := by rfl
set_option maxRecDepth 100000 in
theorem m_fw3 : (m_fl[3]?.getD []).map (m_fw 3) = [96, 97, 98, 99, 100, 101, 102].filterMap (fun i => lw_tbl[i]?) := by rfl
set_option maxRecDepth 100000 in
theorem m_fw4 : (m_fl[4]?.getD []).map (m_fw 4) = [125, 126, 127, 128, 129, 130, 131].filterMap (fun i => lw_tbl[i]?) := by rfl
set_option maxRecDepth 100000 in
theorem m_fw5 : (m_fl[5]?.getD []).map (m_fw 5) = [153, 154].filterMap (fun i => lw_tbl[i]?) := by rfl
set_option maxRecDepth 100000 in
theorem m_fw6 : (m_fl[6]?.getD []).map (m_fw 6) = [169].filterMap (fun i => lw_tbl[i]?) := by rfl
set_option maxRecDepth 100000 in
theorem m_fw7 : (m_fl[7]?.getD []).map (m_fw 7) = [179, 180, 181, 182, 183, 184, 185, 186, 187, 188].filterMap (fun i => lw_tbl[i]?) := by rfl
set_option maxRecDepth 100000 in
theorem m_fw8 : (m_fl[8]?.getD []).map (m_fw 8) = [216, 217, 218, 219, 220, 221].filterMap (fun i => lw_tbl[i]?) := by rfl
set_option maxRecDepth 100000 in
theorem m_fw9 : (m_fl[9]?.getD []).map (m_fw 9) = [241, 242, 243, 244, 245, 246, 247].filterMap (fun i => lw_tbl[i]?) := by rfl
set_option maxRecDepth 100000 in
theorem m_fw10 : (m_fl[10]?.getD []).map (m_fw 10) = [269, 270, 271].filterMap (fun i => lw_tbl[i]?) := by rfl
set_option maxRecDepth 100000 in
theorem m_fw11 : (m_fl[11]?.getD []).map (m_fw 11) = [328, 329, 330, 331, 332].filterMap (fun i => lw_tbl[i]?) := by rfl
set_option maxRecDepth 100000 in
theorem m_fw12 : (m_fl[12]?.getD []).map (m_fw 12) = [350, 351, 352, 353, 354].filterMap (fun i => lw_tbl[i]?) := by rfl
set_option maxRecDepth 100000 in
theorem m_fw13 : (m_fl[13]?.getD []).map (m_fw 13) = [1224, 1225, 1226, 1227, 1228, 1229, 1230, 1231, 1232, 1233, 1234].filterMap (fun i => lw_tbl[i]?) := by rfl
/-- the words of a row of m_ml -/
def m_mws (o : Nat) (e : Nat × Nat × Nat) : List Cond :=
  match e with
  | (idx, 0, j) => [.methodLink (m_ownS o) idx (m_y j), .instanceMethod (m_y j), .initialized (m_y j).cls]
  | (idx, 1, j) => [.methodLinkNest (m_ownS o) idx (m_y j) "MuseumNights", .instanceMethod (m_y j), .initialized (m_y j).cls]
  | (idx, 2, j) => [.methodLink (m_ownS o) idx (m_y j), .instanceMethod (m_y j), .initialized (m_y j).cls, .selects (m_y j).cls (m_y j) (m_y j)]
  | (idx, 3, j) => [.methodLink (m_ownS o) idx (m_y j), .static (m_y j), .initialized (m_y j).cls]
  | (idx, 4, _) => [.methodLink (m_ownS o) idx objectInit]
  | (idx, 5, _) => [.methodLink (m_ownS o) idx arraycopyName]
  | (idx, 6, _) => [.methodLink (m_ownS o) idx Lib.Math.max.name]
  | (idx, 7, _) => [.methodLink (m_ownS o) idx Lib.Math.min.name]
  | _ => []
set_option maxRecDepth 100000 in
theorem m_ml0_0_ok : m_ml0_0.flatMap (m_mws 0) = [78, 79, 59, 386, 387, 59, 388, 481, 482, 59, 483, 507, 508, 59, 509, 520, 521, 59, 522, 551, 552, 59, 553, 568, 569, 59, 570, 596, 597, 59, 598, 609, 610, 59, 611, 636, 637, 59, 638, 640, 641, 59, 642, 654, 655, 59, 656, 666, 667, 59, 668, 682, 683, 59, 684, 698, 699, 59, 700, 735, 736, 59, 737, 747, 748, 59, 749, 776, 777, 59, 778, 921, 922, 59, 923, 957, 958, 59, 959, 969, 970, 59, 971, 977, 978, 59, 979, 1014, 1015, 59, 1016, 1026, 1027, 59, 1028, 1031, 1032, 59, 1033].filterMap (fun i => lw_tbl[i]?) := by rfl
set_option maxRecDepth 100000 in
theorem m_ml0_1_ok : m_ml0_1.flatMap (m_mws 0) = [1035, 1036, 59, 1037, 1058, 1059, 59, 1060, 1079, 1080, 59, 1081, 1091, 1092, 59, 1093, 1107, 1108, 59, 1109, 1112, 1113, 59, 1114, 1116, 1117, 59, 1118, 1127, 1128, 59, 1129, 1140, 1141, 59, 1142, 1148, 1149, 59, 1150, 1156, 1157, 59, 1158, 1178, 1179, 59, 1180, 1186, 1187, 59, 1188, 1190, 1191, 59, 1192, 1220, 1221, 72, 1258, 1259, 72, 1260, 1278, 1279, 72, 1280, 1294, 1295, 72, 1296, 1302, 1303, 72, 1304, 1313, 1314, 72, 1315, 1325, 1326, 72, 1327, 1337, 1338, 72, 1339, 1345, 1346, 72, 1347, 1372, 1373, 72, 1374, 1376, 1377, 72, 1378].filterMap (fun i => lw_tbl[i]?) := by rfl
set_option maxRecDepth 100000 in
theorem m_ml0_2_ok : m_ml0_2.flatMap (m_mws 0) = [1380, 1381, 72, 1382, 1388, 1389, 72, 1390, 1392, 1393, 72, 1394, 1396, 1397, 72, 1398, 1412, 1413, 72, 1414, 1416, 1417, 72, 1418, 1428, 1429, 72, 1430, 1472, 1473, 72, 1474, 1480, 1481, 72, 1482, 1484, 1485, 72, 1486, 1488, 1489, 72, 1490, 1512, 1513, 72, 1514, 1516, 1517, 72, 1518, 1520, 1521, 72, 1522, 1524, 1525, 72, 1526, 1528, 1529, 72, 1530, 1536, 1537, 72, 1538, 1540, 1541, 72, 1542, 1544, 1545, 72, 1546, 1548, 1549, 72, 1550, 1552, 1553, 72, 1554, 1556, 1557, 72, 1558, 1560, 1561, 72, 1562, 1564, 1565, 72, 1566, 1568, 1569, 72, 1570].filterMap (fun i => lw_tbl[i]?) := by rfl
set_option maxRecDepth 100000 in
theorem m_ml0_3_ok : m_ml0_3.flatMap (m_mws 0) = [1572, 1573, 72, 1574, 1576, 1577, 72, 1578, 1580, 1581, 72, 1582].filterMap (fun i => lw_tbl[i]?) := by rfl
set_option maxRecDepth 100000 in
theorem m_ml1_0_ok : m_ml1_0.flatMap (m_mws 1) = [81, 86, 87, 60, 322, 323, 70, 346, 347, 71, 390, 391, 63, 393, 394, 59, 396, 397, 61, 398, 400, 401, 70, 402, 473, 474, 61, 475, 485, 486, 61, 487, 489, 490, 59, 492, 493, 64, 495, 496, 62, 497, 499, 500, 62, 501, 503, 504, 62, 505, 511, 512, 61, 513, 516, 517, 61, 518, 524, 525, 63, 526, 529, 530, 63, 531, 537, 538, 63, 539, 544, 534, 63, 535, 545, 546, 75, 555, 556, 63, 557, 559, 560, 63, 561, 563, 564, 63, 565].filterMap (fun i => lw_tbl[i]?) := by rfl
set_option maxRecDepth 100000 in
theorem m_ml1_1_ok : m_ml1_1.flatMap (m_mws 1) = [572, 573, 60, 574, 600, 577, 66, 578, 601, 602, 66, 603, 613, 585, 66, 586, 614, 615, 66, 616, 618, 619, 64, 620, 623, 624, 64, 625, 632, 633, 64, 634, 644, 645, 66, 646, 658, 659, 66, 660, 662, 663, 66, 664, 670, 671, 66, 672, 674, 675, 66, 676, 678, 679, 66, 680, 686, 688, 59, 3, 690, 691, 67, 692, 694, 695, 67, 696, 702, 703, 67, 704, 706, 707, 67, 708, 711, 712, 67, 713, 719, 720, 66, 721, 723, 724, 67, 725, 727, 728, 62, 729, 739, 740, 67, 741, 743, 744, 67, 745].filterMap (fun i => lw_tbl[i]?) := by rfl
set_option maxRecDepth 100000 in
theorem m_ml1_2_ok : m_ml1_2.flatMap (m_mws 1) = [751, 752, 68, 753, 755, 756, 68, 757, 760, 761, 68, 762, 768, 769, 68, 770, 772, 773, 68, 774, 780, 781, 60, 782, 925, 926, 64, 927, 929, 930, 60, 931, 961, 962, 71, 963, 965, 966, 71, 967, 973, 974, 71, 975, 981, 982, 71, 983, 1001, 1002, 71, 1003, 1006, 1007, 71, 1008, 1010, 1011, 71, 1012, 1018, 1019, 70, 1020, 1022, 1023, 70, 1024, 1030, 405, 60, 406, 1039, 589, 61, 590, 1040, 912, 61, 913, 1041, 889, 61, 890, 1042, 1043, 61, 1044, 1046, 1047, 61, 1048, 1050, 1051, 67, 1052, 1054, 1055, 68, 1056].filterMap (fun i => lw_tbl[i]?) := by rfl
set_option maxRecDepth 100000 in
theorem m_ml1_3_ok : m_ml1_3.flatMap (m_mws 1) = [1062, 732, 62, 733, 1063, 1064, 62, 1065, 1067, 1068, 62, 1069, 1071, 1072, 62, 1073, 1075, 1076, 62, 1077, 1083, 1084, 61, 1085, 1087, 1088, 60, 1089, 1095, 581, 66, 582, 1096, 593, 66, 594, 1097, 865, 66, 866, 1098, 628, 64, 629, 1099, 1100, 66, 1101, 1103, 1104, 66, 1105, 1111, 809, 66, 810, 1120, 908, 67, 909, 1121, 904, 67, 905, 1122, 716, 67, 717, 1123, 1124, 67, 1125, 1131, 1132, 68, 1133, 1135, 765, 68, 766, 1136, 1137, 68, 1138, 1144, 1145, 69, 1146, 1152, 1153, 69, 1154, 1160, 1161, 60, 1162, 1182, 1183, 61, 1184].filterMap (fun i => lw_tbl[i]?) := by rfl
set_option maxRecDepth 100000 in
theorem m_ml1_4_ok : m_ml1_4.flatMap (m_mws 1) = [1194, 1195, 67, 1196, 1198, 1199, 68, 1200, 1202, 1203, 68, 1204, 1206, 1207, 68, 1208, 1210, 1211, 69, 1212, 1214, 1215, 66, 1216].filterMap (fun i => lw_tbl[i]?) := by rfl
set_option maxRecDepth 100000 in
theorem m_ml2_0_ok : m_ml2_0.flatMap (m_mws 2) = [89, 92, 93, 61, 121, 122, 62, 149, 150, 63, 162, 163, 64, 175, 176, 66, 212, 213, 67, 237, 238, 68, 265, 266, 69, 408, 409, 61, 410, 415, 416, 62, 417, 420, 421, 63, 422, 425, 426, 64, 427, 430, 431, 66, 432, 435, 436, 67, 437, 440, 441, 68, 442, 445, 446, 69, 447, 576, 577, 66, 578, 580, 581, 66, 582, 588, 589, 61, 590, 592, 593, 66, 594, 784, 785, 68, 786, 788, 790, 60, 4, 792, 649, 66, 650, 793, 671, 66, 672].filterMap (fun i => lw_tbl[i]?) := by rfl
set_option maxRecDepth 100000 in
theorem m_ml2_1_ok : m_ml2_1.flatMap (m_mws 2) = [794, 795, 66, 796, 799, 659, 66, 660, 800, 802, 60, 5, 804, 805, 66, 806, 812, 496, 62, 497, 813, 628, 64, 629, 814, 815, 62, 816, 818, 819, 66, 820, 822, 823, 66, 824, 826, 827, 69, 828, 830, 831, 62, 832, 834, 728, 62, 729, 835, 836, 66, 837, 839, 841, 60, 6, 843, 844, 66, 845, 847, 848, 61, 849, 852, 853, 69, 854, 856, 858, 60, 7, 860, 861, 66, 862, 864, 865, 66, 866, 868, 869, 66, 870, 872, 874, 60, 8, 876, 391, 63, 877, 525, 63, 526, 878, 879, 68, 880].filterMap (fun i => lw_tbl[i]?) := by rfl
set_option maxRecDepth 100000 in
theorem m_ml2_2_ok : m_ml2_2.flatMap (m_mws 2) = [882, 884, 60, 9, 886, 397, 61, 398, 887, 512, 61, 513, 888, 889, 61, 890, 892, 894, 60, 10, 896, 691, 67, 692, 897, 712, 67, 713, 898, 900, 60, 11, 902, 707, 67, 708, 903, 904, 67, 905, 907, 908, 67, 909, 911, 912, 61, 913, 915, 740, 67, 741, 916, 917, 67, 918, 920, 744, 67, 745, 933, 934, 61, 935, 937, 938, 63, 939, 941, 942, 66, 943, 945, 946, 67, 947, 949, 950, 68, 951, 953, 954, 69, 955, 1164, 1165, 62, 1166].filterMap (fun i => lw_tbl[i]?) := by rfl
set_option maxRecDepth 100000 in
theorem m_ml3_0_ok : m_ml3_0.flatMap (m_mws 3) = [95, 412, 477, 479, 61, 1, 515, 486, 61, 487, 851].filterMap (fun i => lw_tbl[i]?) := by rfl
set_option maxRecDepth 100000 in
theorem m_ml4_0_ok : m_ml4_0.flatMap (m_mws 4) = [124, 419, 731, 732, 62, 733, 1168, 167, 65, 1169, 1171, 62, 16, 1173, 815, 62, 816, 1174, 1176, 62, 17].filterMap (fun i => lw_tbl[i]?) := by rfl
set_option maxRecDepth 100000 in
theorem m_ml5_0_ok : m_ml5_0.flatMap (m_mws 5) = [152, 424, 528, 391, 63, 533, 534, 63, 535, 541, 542, 63, 567, 546, 75].filterMap (fun i => lw_tbl[i]?) := by rfl
set_option maxRecDepth 100000 in
theorem m_ml6_0_ok : m_ml6_0.flatMap (m_mws 6) = [165, 166, 167, 65, 429, 622, 493, 64, 627, 628, 64, 629, 631, 546, 75].filterMap (fun i => lw_tbl[i]?) := by rfl
set_option maxRecDepth 100000 in
theorem m_ml7_0_ok : m_ml7_0.flatMap (m_mws 7) = [178, 434, 584, 585, 66, 586, 605, 607, 66, 2, 648, 649, 66, 650, 652, 581, 66, 582, 653, 615, 66, 616, 798, 671, 66, 672, 808, 809, 66, 810].filterMap (fun i => lw_tbl[i]?) := by rfl
set_option maxRecDepth 100000 in
theorem m_ml8_0_ok : m_ml8_0.flatMap (m_mws 8) = [215, 439, 710, 703, 67, 704, 715, 716, 67, 717].filterMap (fun i => lw_tbl[i]?) := by rfl
set_option maxRecDepth 100000 in
theorem m_ml9_0_ok : m_ml9_0.flatMap (m_mws 9) = [240, 444, 759, 752, 68, 753, 764, 765, 68, 766].filterMap (fun i => lw_tbl[i]?) := by rfl
set_option maxRecDepth 100000 in
theorem m_ml10_0_ok : m_ml10_0.flatMap (m_mws 10) = [268, 449, 452, 455, 456, 458, 69, 0, 460, 461, 65].filterMap (fun i => lw_tbl[i]?) := by rfl
set_option maxRecDepth 100000 in
theorem m_ml11_0_ok : m_ml11_0.flatMap (m_mws 11) = [325, 327, 87, 60, 404, 405, 60, 406, 472].filterMap (fun i => lw_tbl[i]?) := by rfl
set_option maxRecDepth 100000 in
theorem m_ml12_0_ok : m_ml12_0.flatMap (m_mws 12) = [349, 985, 987, 71, 12, 989, 991, 71, 13, 993, 995, 71, 14, 997, 999, 71, 15, 1005].filterMap (fun i => lw_tbl[i]?) := by rfl
set_option maxRecDepth 100000 in
theorem m_ml13_0_ok : m_ml13_0.flatMap (m_mws 13) = [1223, 1262, 1263, 72, 1265, 1266, 72, 1268, 1269, 72, 1271, 1273, 72, 18, 1275, 1276, 72, 1282, 1284, 72, 19, 1286, 1288, 72, 20, 1290, 1292, 72, 21, 1298, 1300, 72, 22, 1306, 1308, 72, 23, 1310, 1311, 72, 1317, 1319, 72, 24, 1321, 1323, 72, 25, 1329, 1331, 72, 26, 1333, 1335, 72, 27, 1341, 1343, 72, 28, 1349, 1351, 72, 29, 1353, 1354, 72, 1356, 1358, 72, 30, 1360, 1362, 72, 31, 1364, 1366, 72, 32, 1368, 1370, 72, 33, 1384, 1386, 72, 34, 1400, 1402, 72, 35].filterMap (fun i => lw_tbl[i]?) := by rfl
set_option maxRecDepth 100000 in
theorem m_ml13_1_ok : m_ml13_1.flatMap (m_mws 13) = [1404, 1406, 72, 36, 1408, 1410, 72, 37, 1420, 1422, 72, 38, 1424, 1426, 72, 39, 1432, 1434, 72, 40, 1436, 1438, 72, 41, 1440, 1442, 72, 42, 1444, 1446, 72, 43, 1448, 1450, 72, 44, 1452, 1454, 72, 45, 1456, 1458, 72, 46, 1460, 1462, 72, 47, 1464, 1466, 72, 48, 1468, 1470, 72, 49, 1476, 1478, 72, 50, 1492, 1494, 72, 51, 1496, 1498, 72, 52, 1500, 1502, 72, 53, 1504, 1506, 72, 54, 1508, 1510, 72, 55, 1532, 1534, 72, 56, 1584, 1586, 72, 57].filterMap (fun i => lw_tbl[i]?) := by rfl
set_option maxRecDepth 100000 in
theorem m_ml14_0_ok : m_ml14_0.flatMap (m_mws 14) = [470, 471].filterMap (fun i => lw_tbl[i]?) := by rfl
/-- words of the machine itself -/
def m_sysw : List Cond := [.instanceMethod objectInit, .static Lib.Math.max.name, .static Lib.Math.min.name, .initialized "java/lang/Math", .initialized "java/lang/System", .arrayClass .int, .arrayClass .char, .native arraycopyName, .static arraycopyName, .code objectInit ⟨#[0xb1]⟩ 1 none, .code Lib.Math.max.name Lib.Math.max.code 2 (some .int), .code Lib.Math.min.name Lib.Math.min.code 2 (some .int)]
set_option maxRecDepth 100000 in
theorem m_sys_ok : m_sysw = [82, 450, 453, 74, 73, 118, 366, 414, 413, 83, 451, 454].filterMap (fun i => lw_tbl[i]?) := by rfl
/-- what the machine asks of each method -/
def m_jok (j : Nat) : Bool :=
  decide (m_ownS (m_own j) = (m_y j).cls) && decide ((m_y j).cls ≠ "java/lang/invoke/MethodHandle") && decide ((m_y j).cls ≠ "java/lang/invoke/VarHandle")
    && decide ((parseMethodDescriptor (m_y j).desc).map (fun d => d.parameters.length) = some (m_np j)) && decide (m_nl j ≤ 9) && (decide ((m_y j).cls = "java/lang/Math") || plainName (m_y j).cls)
set_option maxRecDepth 100000 in
theorem m_jok1 : ((List.range 100).all m_jok) = true := by decide +kernel
set_option maxRecDepth 100000 in
theorem m_jok2 : ((List.range' 100 100).all m_jok) = true := by decide +kernel
set_option maxRecDepth 100000 in
theorem m_jok3 : ((List.range' 200 92).all m_jok) = true := by decide +kernel
/-- the kinds of the rows -/
def m_kindok (e : Nat × Nat × Nat) : Bool :=
  decide (e.2.1 ≤ 7) && (decide (3 < e.2.1) || (decide (0 < e.2.2) && decide (e.2.2 < 292) && decide ((m_y e.2.2).cls ≠ "java/lang/Math") && (decide (1 < e.2.1) || (decide ((m_y e.2.2).name = "<init>") && decide (m_ret e.2.2 = none)))))
set_option maxRecDepth 100000 in
theorem m_kind_ok : (m_ml.all fun p => p.all m_kindok) = true := by decide +kernel
def m_cwr (r : MethodName × ByteArray × Nat × Option FieldType × Nat × Nat × Nat) : Cond := .code r.1 r.2.1 r.2.2.1 r.2.2.2.1
set_option maxRecDepth 100000 in
theorem m_cw0 : (m_mt0.drop 1).map m_cwr = [80, 88, 94, 123, 151, 164, 168, 177, 214, 239, 267, 324, 348, 389, 392, 395, 399, 403, 407, 411, 418, 423, 428, 433, 438, 443, 448, 451, 454, 459, 462, 476, 480, 484, 488, 491, 494, 498, 502].filterMap (fun i => lw_tbl[i]?) := by rfl
set_option maxRecDepth 100000 in
theorem m_cw1 : m_mt1.map m_cwr = [506, 510, 514, 519, 523, 527, 532, 536, 540, 543, 547, 554, 558, 562, 566, 571, 575, 579, 583, 587, 591, 595, 599, 604, 608, 612, 617, 621, 626, 630, 635, 639, 643, 647, 651, 657, 661, 665, 669, 673].filterMap (fun i => lw_tbl[i]?) := by rfl
set_option maxRecDepth 100000 in
theorem m_cw2 : m_mt2.map m_cwr = [677, 681, 685, 689, 693, 697, 701, 705, 709, 714, 718, 722, 726, 730, 734, 738, 742, 746, 750, 754, 758, 763, 767, 771, 775, 779, 783, 787, 791, 797, 803, 807, 811, 817, 821, 825, 829, 833, 838, 842].filterMap (fun i => lw_tbl[i]?) := by rfl
set_option maxRecDepth 100000 in
theorem m_cw3 : m_mt3.map m_cwr = [846, 850, 855, 859, 863, 867, 871, 875, 881, 885, 891, 895, 901, 906, 910, 914, 919, 924, 928, 932, 936, 940, 944, 948, 952, 956, 960, 964, 968, 972, 976, 980, 984, 988, 992, 996, 1000, 1004, 1009, 1013].filterMap (fun i => lw_tbl[i]?) := by rfl
set_option maxRecDepth 100000 in
theorem m_cw4 : m_mt4.map m_cwr = [1017, 1021, 1025, 1029, 1034, 1038, 1045, 1049, 1053, 1057, 1061, 1066, 1070, 1074, 1078, 1082, 1086, 1090, 1094, 1102, 1106, 1110, 1115, 1119, 1126, 1130, 1134, 1139, 1143, 1147, 1151, 1155, 1159, 1163, 1167, 1172, 1177, 1181, 1185, 1189].filterMap (fun i => lw_tbl[i]?) := by rfl
set_option maxRecDepth 100000 in
theorem m_cw5 : m_mt5.map m_cwr = [1193, 1197, 1201, 1205, 1209, 1213, 1217, 1222, 1261, 1264, 1267, 1270, 1274, 1277, 1281, 1285, 1289, 1293, 1297, 1301, 1305, 1309, 1312, 1316, 1320, 1324, 1328, 1332, 1336, 1340, 1344, 1348, 1352, 1355, 1359, 1363, 1367, 1371, 1375, 1379].filterMap (fun i => lw_tbl[i]?) := by rfl
set_option maxRecDepth 100000 in
theorem m_cw6 : m_mt6.map m_cwr = [1383, 1387, 1391, 1395, 1399, 1403, 1407, 1411, 1415, 1419, 1423, 1427, 1431, 1435, 1439, 1443, 1447, 1451, 1455, 1459, 1463, 1467, 1471, 1475, 1479, 1483, 1487, 1491, 1495, 1499, 1503, 1507, 1511, 1515, 1519, 1523, 1527, 1531, 1535, 1539].filterMap (fun i => lw_tbl[i]?) := by rfl
set_option maxRecDepth 100000 in
theorem m_cw7 : m_mt7.map m_cwr = [1543, 1547, 1551, 1555, 1559, 1563, 1567, 1571, 1575, 1579, 1583, 1587].filterMap (fun i => lw_tbl[i]?) := by rfl
def m_kw (o : Nat) (e : Nat × Nat) : List Cond := [.classLink (m_ownS o) e.1 (m_clsQ e.2).1, .instantiable (m_clsQ e.2).1 (m_clsQ e.2).2.2, .initialized (m_clsQ e.2).1]
set_option maxRecDepth 100000 in
theorem m_kw_ok : (m_kl.zipIdx.flatMap fun p => p.1.flatMap (m_kw p.2)) = [76, 77, 59, 1218, 1219, 72, 84, 85, 60, 320, 321, 70, 344, 345, 71, 90, 91, 61, 119, 120, 62, 147, 148, 63, 160, 161, 64, 173, 174, 66, 210, 211, 67, 235, 236, 68, 263, 264, 69, 326, 85, 60].filterMap (fun i => lw_tbl[i]?) := by rfl
set_option maxRecDepth 100000 in
theorem m_kl_ok : (m_kl.all fun p => p.all fun e => decide (e.2 < m_cls.length)) = true := by decide +kernel
set_option maxRecDepth 100000 in
theorem m_cl_ok : (m_cl.zipIdx.flatMap fun p => p.1.map fun e => Cond.constant (m_ownS p.2) e.1 e.2) = [548, 549, 550].filterMap (fun i => lw_tbl[i]?) := by rfl
/-- the words of the objects' fields -/
def m_lw : List Cond := m_cls.flatMap fun q => u_ws q.1 q.2.1 q.2.2
set_option maxRecDepth 100000 in
theorem m_lw_ok : m_lw = [373, 375, 377, 379, 381, 383, 299, 301, 303, 305, 307, 309, 311, 313, 315, 317, 103, 105, 107, 109, 111, 113, 115, 132, 134, 136, 138, 140, 142, 144, 155, 157, 170, 189, 191, 193, 195, 197, 199, 201, 203, 205, 207, 222, 224, 226, 228, 230, 232, 248, 250, 252, 254, 256, 258, 260, 272, 274, 276, 333, 335, 337, 339, 341, 355, 357, 359, 361, 363, 1235, 1237, 1239, 1241, 1243, 1245, 1247, 1249, 1251, 1253, 1255].filterMap (fun i => lw_tbl[i]?) := by rfl
def m_cok (ci : Nat) : Bool :=
  (List.range (m_clsQ ci).2.2).all (fun a => decide (parseFieldDescriptor ((m_clsQ ci).2.1 a).2.2.1 = some (((m_tys[ci]?.getD [])[a]?).getD .int)) && (List.range (m_clsQ ci).2.2).all (fun b => decide (a = b) || decide (((m_clsQ ci).2.1 a).2.1 ≠ ((m_clsQ ci).2.1 b).2.1)))
set_option maxRecDepth 100000 in
theorem m_cls_ok : ((List.range 13).all m_cok) = true := by decide +kernel
end
section
/-! A small machine: ints, references by number, arrays of ints and of chars, objects as lists of fields; one heap as a list of cells. -/
abbrev mC : Type := (Bool × Nat × (Nat → Int32)) ⊕ (Nat × List Value)
abbrev mH : Type := List mC × Nat
abbrev mL : Type := List (Option Value)
abbrev mR : Type := Option Value × mH
abbrev mX : Type := Nat × (Nat → Int32)
abbrev mG : Type := Nat → Nat → mL → List Value → mH → Option mR
def m_get (h : mH) (a : Nat) : Option mC := h.1[a]?
def m_set (h : mH) (a : Nat) (c : mC) : mH := (h.1.set a c, h.2)
def m_new (h : mH) (c : mC) (n : Nat) : mH := (h.1 ++ [c], h.2 + n)
def m_isref : Value → Bool
  | .ref _ => true
  | .float _ => true
  | _ => false
def m_isint : Value → Bool
  | .int _ => true
  | _ => false
def m_c1 : Value → Bool
  | .int _ => true
  | .ref _ => true
  | .float _ => true
  | _ => false
def m_fit (ty : FieldType) (v : Value) : Bool :=
  match ty, v with
  | .int, .int _ => true
  | .boolean, .int x => decide (x = 0) || decide (x = 1)
  | .object _, .ref _ => true
  | .array _, .ref _ => true
  | _, _ => false
def m_cb (c : Jvm.ClassFile.Cond) (x y : Int32) : Bool :=
  match c with
  | .eq => decide (x = y)
  | .ne => decide (¬ x = y)
  | .lt => decide (x < y)
  | .ge => decide (y ≤ x)
  | .gt => decide (y < x)
  | .le => decide (x ≤ y)
def m_ldl (L : mL) (i : Nat) : Option Value :=
  match L[i]? with
  | some (some v) => some v
  | _ => none
def m_entry (j : Nat) (as : List Value) : mL := as.map some ++ List.replicate (m_nl j - as.length) none
def m_df (ci : Nat) : List Value := (m_tys[ci]?.getD []).map defaultValue
def m_jump (go : mG) (j pc : Nat) (off : Int) (L : mL) (st : List Value) (h : mH) : Option mR :=
  if 0 ≤ (pc : Int) + off then go j ((pc : Int) + off).toNat L st h else none
def m_cond (go : mG) (j pc len : Nat) (t : Bool) (off : Int) (L : mL) (st : List Value) (h : mH) : Option mR :=
  if len = 3 ∧ 0 ≤ (pc : Int) + off then (if t = true then go j ((pc : Int) + off).toNat L st h else go j (pc + 3) L st h) else none
def m_load (go : mG) (p : Value → Bool) (j pc len want i : Nat) (L : mL) (st : List Value) (h : mH) : Option mR :=
  if len = want then
    match m_ldl L i with
    | some v => if p v = true then go j (pc + want) L (v :: st) h else none
    | none => none
  else none
def m_store (go : mG) (p : Value → Bool) (j pc len want i : Nat) (L : mL) (st : List Value) (h : mH) : Option mR :=
  if len = want then
    match st with
    | v :: r => if p v = true ∧ i < L.length then go j (pc + want) (L.set i (some v)) r h else none
    | [] => none
  else none
def m_push (go : mG) (j pc len want : Nat) (v : Int32) (L : mL) (st : List Value) (h : mH) : Option mR :=
  if len = want then go j (pc + want) L (.int v :: st) h else none
def m_bin (go : mG) (j pc len : Nat) (f : Int32 → Int32 → Int32) (ok : Int32 → Bool) (L : mL) (st : List Value) (h : mH) : Option mR :=
  match st with
  | .int y :: .int x :: r => if len = 1 ∧ ok y = true then go j (pc + 1) L (.int (f x y) :: r) h else none
  | _ => none
def m_iinc (go : mG) (j pc len i : Nat) (c : Int) (L : mL) (st : List Value) (h : mH) : Option mR :=
  match m_ldl L i with
  | some (.int x) => if len = 3 ∧ i < L.length then go j (pc + 3) (L.set i (some (.int (x + Int32.ofInt c)))) st h else none
  | _ => none
def m_tsw (go : mG) (j pc : Nat) (d lo hi : Int) (offs : Array Int) (L : mL) (st : List Value) (h : mH) : Option mR :=
  match st with
  | .int x :: r =>
    if x.toInt < lo ∨ hi < x.toInt then m_jump go j pc d L r h
    else match offs[(x.toInt - lo).toNat]? with
      | some off => m_jump go j pc off L r h
      | none => none
  | _ => none
def m_lsw (go : mG) (j pc : Nat) (d : Int) (ps : Array (Int × Int)) (L : mL) (st : List Value) (h : mH) : Option mR :=
  match st with
  | .int x :: r =>
    if (ps.toList.zip (ps.toList.drop 1)).all (fun (a, next) => a.1 < next.1) = true then m_jump go j pc (Op.lookupswitch.offset ps.toList d x.toInt) L r h else none
  | _ => none
def m_getf (go : mG) (j pc len idx : Nat) (L : mL) (st : List Value) (h : mH) : Option mR :=
  match st, m_findF (m_own j) idx with
  | .ref a :: r, some (_, ci, k, _) =>
    match m_get h a with
    | some (.inr (c2, fs)) =>
      match fs[k]? with
      | some v => if len = 3 ∧ c2 = ci then go j (pc + 3) L (v :: r) h else none
      | none => none
    | _ => none
  | _, _ => none
def m_putf (go : mG) (j pc len idx : Nat) (L : mL) (st : List Value) (h : mH) : Option mR :=
  match st, m_findF (m_own j) idx with
  | v :: .ref a :: r, some (_, ci, k, nest) =>
    match m_get h a with
    | some (.inr (c2, fs)) =>
      if len = 3 ∧ c2 = ci ∧ k < fs.length ∧ m_fit (((m_tys[ci]?.getD [])[k]?).getD .int) v = true ∧
        (((m_clsQ ci).2.1 k).2.2.2 = false ∨ (nest = false ∧ (m_y j).name = "<init>" ∧ (m_clsQ ci).1 = m_ownS (m_own j)))
      then go j (pc + 3) L r (m_set h a (.inr (c2, fs.set k v))) else none
    | _ => none
  | _, _ => none
def m_ald (go : mG) (X : mX) (ch : Bool) (j pc len : Nat) (L : mL) (st : List Value) (h : mH) : Option mR :=
  match st with
  | .int i :: .ref a :: r =>
    match m_get h a with
    | some (.inl (c2, n, f)) => if len = 1 ∧ c2 = ch ∧ ¬ (i < 0 ∨ n ≤ i.toNatClampNeg) then go j (pc + 1) L (.int (f i.toNatClampNeg) :: r) h else none
    | _ => none
  | .int i :: .float _ :: r => if len = 1 ∧ ch = false ∧ ¬ (i < 0 ∨ X.1 ≤ i.toNatClampNeg) then go j (pc + 1) L (.int (X.2 i.toNatClampNeg) :: r) h else none
  | _ => none
def m_ast (go : mG) (ch : Bool) (nar : Int32 → Int32) (j pc len : Nat) (L : mL) (st : List Value) (h : mH) : Option mR :=
  match st with
  | .int x :: .int i :: .ref a :: r =>
    match m_get h a with
    | some (.inl (c2, n, f)) => if len = 1 ∧ c2 = ch ∧ ¬ (i < 0 ∨ n ≤ i.toNatClampNeg) then go j (pc + 1) L r (m_set h a (.inl (c2, n, upd f i.toNatClampNeg (nar x)))) else none
    | _ => none
  | _ => none
def m_alen (go : mG) (X : mX) (j pc len : Nat) (L : mL) (st : List Value) (h : mH) : Option mR :=
  match st with
  | .ref a :: r =>
    match m_get h a with
    | some (.inl (_, n, _)) => if len = 1 then go j (pc + 1) L (.int (Int32.ofNat n) :: r) h else none
    | _ => none
  | .float _ :: r => if len = 1 then go j (pc + 1) L (.int (Int32.ofNat X.1) :: r) h else none
  | _ => none
def m_newa (go : mG) (ch : Bool) (j pc len : Nat) (L : mL) (st : List Value) (h : mH) : Option mR :=
  match st with
  | .int n :: r => if len = 2 ∧ ¬ n < 0 ∧ n.toNatClampNeg ≤ 100000 then go j (pc + 2) L (.ref h.1.length :: r) (m_new h (.inl (ch, n.toNatClampNeg, fun _ => 0)) n.toNatClampNeg) else none
  | _ => none
def m_newo (go : mG) (j pc len idx : Nat) (L : mL) (st : List Value) (h : mH) : Option mR :=
  match m_findK (m_own j) idx with
  | some (_, ci) => if len = 3 then go j (pc + 3) L (.ref h.1.length :: st) (m_new h (.inr (ci, m_df ci)) (m_clsQ ci).2.2) else none
  | none => none
/-- a call: the method, its arguments, what stays on the stack -/
def m_call (go : mG) (j pc len j2 : Nat) (as rest : List Value) (L : mL) (h : mH) : Option mR :=
  if len = 3 ∧ rest.length ≤ 8 ∧ rest.all m_c1 = true ∧ as.all m_c1 = true ∧ as.length ≤ m_nl j2 ∧ m_fr j2 + 1 ≤ m_fr j then
    match go j2 0 (m_entry j2 as) [] h with
    | some (v, h1) => go j (pc + 3) L (v.toList ++ rest) h1
    | none => none
  else none
def m_invv (go : mG) (j pc len idx : Nat) (L : mL) (st : List Value) (h : mH) : Option mR :=
  match m_findM (m_own j) idx with
  | some (_, kind, j2) =>
    if kind = 2 then
      match st.drop (m_np j2) with
      | .ref a :: rest =>
        match m_get h a with
        | some (.inr (ci, _)) => if (m_clsQ ci).1 = (m_y j2).cls ∧ ci < m_cls.length then m_call go j pc len j2 (.ref a :: (st.take (m_np j2)).reverse) rest L h else none
        | _ => none
      | _ => none
    else none
  | none => none
def m_invs (go : mG) (j pc len idx : Nat) (L : mL) (st : List Value) (h : mH) : Option mR :=
  match m_findM (m_own j) idx with
  | some (_, kind, j2) =>
    if kind = 3 then (if m_np j2 ≤ st.length then m_call go j pc len j2 (st.take (m_np j2)).reverse (st.drop (m_np j2)) L h else none)
    else if kind = 5 then
      match st with
      | .int n :: .int dp :: .ref a :: .int sp :: .ref a0 :: rest =>
        match m_get h a0, m_get h a with
        | some (.inl (false, n0, f)), some (.inl (false, n1, g)) =>
          if len = 3 ∧ ¬ sp < 0 ∧ ¬ dp < 0 ∧ ¬ n < 0 ∧ sp.toNatClampNeg + n.toNatClampNeg ≤ n0 ∧ dp.toNatClampNeg + n.toNatClampNeg ≤ n1 ∧ rest.length ≤ 8 ∧ rest.all m_c1 = true ∧ 1 ≤ m_fr j
          then go j (pc + 3) L rest (m_set h a (.inl (false, n1, va_cpy f g sp.toNatClampNeg dp.toNatClampNeg n.toNatClampNeg))) else none
        | _, _ => none
      | _ => none
    else if kind = 6 ∨ kind = 7 then
      match st with
      | .int y :: .int x :: rest =>
        if len = 3 ∧ rest.length ≤ 8 ∧ rest.all m_c1 = true ∧ 1 ≤ m_fr j then go j (pc + 3) L (.int (if kind = 6 then (if x < y then y else x) else (if y < x then y else x)) :: rest) h else none
      | _ => none
    else none
  | none => none
def m_invi (go : mG) (j pc len idx : Nat) (L : mL) (st : List Value) (h : mH) : Option mR :=
  match m_findM (m_own j) idx with
  | some (_, kind, j2) =>
    if kind = 4 then
      match st with
      | .ref _ :: rest => if len = 3 ∧ rest.length ≤ 8 ∧ rest.all m_c1 = true ∧ 1 ≤ m_fr j then go j (pc + 3) L rest h else none
      | _ => none
    else if kind ≤ 1 then
      match st.drop (m_np j2) with
      | .ref a :: rest => m_call go j pc len j2 (.ref a :: (st.take (m_np j2)).reverse) rest L h
      | _ => none
    else none
  | none => none
def m_retn (j len : Nat) (st : List Value) (h : mH) : Option mR :=
  match st with
  | [.int x] => if len = 1 ∧ (m_ret j = some .int ∨ (m_ret j = some .boolean ∧ (x = 0 ∨ x = 1))) then some (some (.int x), h) else none
  | _ => none
def m_ins (X : mX) (go : mG) (j pc len : Nat) (i : Instr) (L : mL) (st : List Value) (h : mH) : Option mR :=
  match i with
  | .aload_n n => m_load go m_isref j pc len 1 n.val L st h
  | .iload_n n => m_load go m_isint j pc len 1 n.val L st h
  | .iload n => m_load go m_isint j pc len 2 n L st h
  | .istore_n n => m_store go m_isint j pc len 1 n.val L st h
  | .istore n => m_store go m_isint j pc len 2 n L st h
  | .astore_n n => m_store go m_isref j pc len 1 n.val L st h
  | .iconst n => m_push go j pc len 1 (Int32.ofInt n) L st h
  | .bipush n => m_push go j pc len 2 (Int8.ofInt n).toInt32 L st h
  | .sipush n => m_push go j pc len 3 (Int16.ofInt n).toInt32 L st h
  | .ldc_w idx => match m_findC (m_own j) idx with
    | some (_, v) => m_push go j pc len 3 v L st h
    | none => none
  | .iadd => m_bin go j pc len (fun x y => x + y) (fun _ => true) L st h
  | .isub => m_bin go j pc len (fun x y => x - y) (fun _ => true) L st h
  | .imul => m_bin go j pc len (fun x y => x * y) (fun _ => true) L st h
  | .idiv => m_bin go j pc len (fun x y => x / y) (fun y => decide (¬ y = 0)) L st h
  | .irem => m_bin go j pc len (fun x y => x - x / y * y) (fun y => decide (¬ y = 0)) L st h
  | .iand => m_bin go j pc len (fun x y => x &&& y) (fun _ => true) L st h
  | .ior => m_bin go j pc len (fun x y => x ||| y) (fun _ => true) L st h
  | .ixor => m_bin go j pc len (fun x y => x ^^^ y) (fun _ => true) L st h
  | .ishl => m_bin go j pc len (fun x y => x <<< (y &&& 31)) (fun _ => true) L st h
  | .ishr => m_bin go j pc len (fun x y => x >>> (y &&& 31)) (fun _ => true) L st h
  | .iushr => m_bin go j pc len (fun x y => (x.toUInt32 >>> (y.toUInt32 &&& Int32.toUInt32 31)).toInt32) (fun _ => true) L st h
  | .i2c => match st with
    | .int x :: r => if len = 1 then go j (pc + 1) L (.int (x.toUInt32 % 65536).toInt32 :: r) h else none
    | _ => none
  | .iinc n c => m_iinc go j pc len n c L st h
  | .goto off => if len = 3 then m_jump go j pc off L st h else none
  | .ifCond c off => match st with
    | .int x :: r => m_cond go j pc len (m_cb c x 0) off L r h
    | _ => none
  | .if_icmp c off => match st with
    | .int y :: .int x :: r => m_cond go j pc len (m_cb c x y) off L r h
    | _ => none
  | .tableswitch d lo hi offs => m_tsw go j pc d lo hi offs L st h
  | .lookupswitch d ps => m_lsw go j pc d ps L st h
  | .dup => match st with
    | v :: r => if len = 1 ∧ m_c1 v = true then go j (pc + 1) L (v :: v :: r) h else none
    | _ => none
  | .dup2 => match st with
    | v :: w :: r => if len = 1 ∧ m_c1 v = true ∧ m_c1 w = true then go j (pc + 1) L (v :: w :: v :: w :: r) h else none
    | _ => none
  | .getfield idx => m_getf go j pc len idx L st h
  | .putfield idx => m_putf go j pc len idx L st h
  | .iaload => m_ald go X false j pc len L st h
  | .caload => m_ald go X true j pc len L st h
  | .iastore => m_ast go false (fun x => x) j pc len L st h
  | .castore => m_ast go true (vp_nar .char) j pc len L st h
  | .arraylength => m_alen go X j pc len L st h
  | .newarray ty => match ty with
    | .int => m_newa go false j pc len L st h
    | .char => m_newa go true j pc len L st h
    | _ => none
  | .new idx => m_newo go j pc len idx L st h
  | .invokevirtual idx => m_invv go j pc len idx L st h
  | .invokestatic idx => m_invs go j pc len idx L st h
  | .invokespecial idx => m_invi go j pc len idx L st h
  | .ireturn => m_retn j len st h
  | .return_ => match st with
    | [] => if len = 1 ∧ m_ret j = none then some (none, h) else none
    | _ => none
  | .areturn => match st with
    | [.ref a] => if len = 1 ∧ m_ret j = some (.array .int) then some (some (.ref a), h) else none
    | _ => none
  | _ => none
def m_stp (X : mX) (go : mG) : mG := fun j pc L st h =>
  match decode (m_code j) pc with
  | .ok (i, len) => m_ins X go j pc len i L st h
  | _ => none
def m_run (X : mX) : Nat → mG
  | 0 => fun _ _ _ _ _ => none
  | k + 1 => m_stp X (m_run X k)
/-- some number of steps does it -/
def Runs (X : mX) (j pc : Nat) (L : mL) (st : List Value) (h : mH) (r : mR) : Prop := ∃ k, m_run X k j pc L st h = some r
/-! what the tables' rows say, word by word -/
def m_isnest : Cond → Bool
  | .fieldLinkNest .. => true
  | .methodLinkNest .. => true
  | _ => false
def m_tg : List Cond := lw_tbl.filter goodWord
def m_nw : List Cond := lw_tbl.filter m_isnest
theorem m_in_tg {w : Cond} (h : w ∈ lw_tbl) (hg : goodWord w = true) : w ∈ m_tg := List.mem_filter.mpr ⟨h, hg⟩
theorem m_in_nw {w : Cond} (h : w ∈ lw_tbl) (hg : m_isnest w = true) : w ∈ m_nw := List.mem_filter.mpr ⟨h, hg⟩
theorem m_of_places {ws : List Cond} {ps : List Nat} (h : ws = ps.filterMap (fun i => lw_tbl[i]?)) {w : Cond} (hw : w ∈ ws) : w ∈ lw_tbl := by
  rw [h] at hw
  obtain ⟨i, -, hi⟩ := List.mem_filterMap.mp hw
  exact List.mem_of_getElem? hi
theorem m_find_mem {α : Type} {L : List (List α)} {o : Nat} {p : α → Bool} {e : α} (h : (L[o]?.getD []).find? p = some e) : ∃ l, L[o]? = some l ∧ e ∈ l ∧ p e = true := by
  cases hl : L[o]? with
  | none => rw [hl] at h; simp at h
  | some l =>
    rw [hl] at h
    exact ⟨l, rfl, List.mem_of_find?_eq_some h, List.find?_some h⟩
end
section
/-! The small machine's heap and locals, as they stand in the real one. -/
def m_rv (base b : Nat) : Value → Value
  | .ref i => .ref (base + i)
  | .float _ => .ref b
  | v => v
def m_cell (base b : Nat) (cI cC : ClassId) : mC → va_E
  | .inl (ch, n, f) => .inl ((if ch = true then cC else cI), n, .inl f)
  | .inr (ci, fs) => .inr (ci, fs.map (m_rv base b))
def m_ws (base b : Nat) (cI cC : ClassId) (h : List mC) : va_W := h.zipIdx.map (fun p => (base + p.2, m_cell base b cI cC p.1))
theorem m_ws_get {base b : Nat} {cI cC : ClassId} {h : List mC} (a : Nat) : (m_ws base b cI cC h)[a]? = (h[a]?).map (fun c => (base + a, m_cell base b cI cC c)) := by
  simp only [m_ws, List.getElem?_map, List.getElem?_zipIdx, Option.map_map]
  congr 1
  funext c
  simp
theorem m_ws_len {base b : Nat} {cI cC : ClassId} {h : List mC} : (m_ws base b cI cC h).length = h.length := by simp [m_ws]
theorem m_ws_set {base b : Nat} {cI cC : ClassId} {h : List mC} {a : Nat} {c : mC} : m_ws base b cI cC (h.set a c) = (m_ws base b cI cC h).set a (base + a, m_cell base b cI cC c) := by
  apply List.ext_getElem?
  intro k
  rw [List.getElem?_set, m_ws_get, m_ws_get, List.getElem?_set, m_ws_len]
  by_cases hk : a = k
  · subst hk
    by_cases hl : a < h.length
    · simp [hl]
    · simp [hl]
  · simp [hk]
theorem m_ws_push {base b : Nat} {cI cC : ClassId} {h : List mC} {c : mC} : m_ws base b cI cC (h ++ [c]) = m_ws base b cI cC h ++ [(base + h.length, m_cell base b cI cC c)] := by
  simp [m_ws, List.zipIdx_append]
abbrev m_A (base : Nat) : Nat → Prop := fun q => base ≤ q
theorem m_ws_D {base b : Nat} {cI cC : ClassId} {h : List mC} : va_D (m_A base) (m_ws base b cI cC h) := by
  have key : ∀ (k : Nat) (q : Nat × va_E), (m_ws base b cI cC h)[k]? = some q → q.1 = base + k := by
    intro k q hq
    rw [m_ws_get] at hq
    cases hk : h[k]? with
    | none => rw [hk] at hq; cases hq
    | some c => rw [hk] at hq; cases hq; rfl
  refine ⟨fun i j p q hp hq hpq => ?_, fun k q hq => ?_⟩
  · rw [key i p hp, key j q hq] at hpq
    omega
  · rw [key k q hq]
    exact Nat.le_add_right _ _
def m_hp (D : va_G) (cI cC : ClassId) (b : Nat) (H00 : Heap) (h : mH) (H : Heap) (locs : List Loc) : Prop :=
  va_P D m_cls (m_ws H00.size b cI cC h.1) H ∧ H.size = H00.size + h.1.length ∧ va_S (m_A H00.size) H00 H locs
def m_lo (base b nL : Nat) (ls : Array Slot) (L : mL) : Prop :=
  L.length = nL ∧ lv_has ls nL [] ∧ ∀ (i : Nat) (v : Value), L[i]? = some (some v) → m_c1 v = true ∧ ls[i]? = some (.val (m_rv base b v))
theorem m_ldl_at {L : mL} {i : Nat} {v : Value} (h : m_ldl L i = some v) : L[i]? = some (some v) := by
  unfold m_ldl at h
  split at h
  next w hw => cases h; exact hw
  next => cases h
theorem m_c1_cat {base b : Nat} {v : Value} (h : m_c1 v = true) : (m_rv base b v).category = 1 := by
  cases v <;> first | rfl | (simp [m_c1] at h)
theorem m_isref_c1 {v : Value} (h : m_isref v = true) : m_c1 v = true := by
  cases v <;> first | rfl | (simp [m_isref] at h)
theorem m_isint_c1 {v : Value} (h : m_isint v = true) : m_c1 v = true := by
  cases v <;> first | rfl | (simp [m_isint] at h)
theorem m_isref_rv {base b : Nat} {v : Value} (h : m_isref v = true) : ∃ a, m_rv base b v = .ref a := by
  cases v <;> first | exact ⟨_, rfl⟩ | (simp [m_isref] at h)
theorem m_isint_rv {base b : Nat} {v : Value} (h : m_isint v = true) : ∃ x, v = .int x ∧ m_rv base b v = .int x := by
  cases v <;> first | exact ⟨_, rfl, rfl⟩ | (simp [m_isint] at h)
/-- the locals as a list of places and values -/
def m_ll (base b : Nat) (L : mL) : List (Nat × Value) := (List.range L.length).filterMap (fun i => (m_ldl L i).map (fun v => (i, m_rv base b v)))
theorem m_ldl_of {L : mL} {i : Nat} {v : Value} (h : L[i]? = some (some v)) : m_ldl L i = some v := by
  unfold m_ldl
  rw [h]
theorem m_ll_mem {base b : Nat} {L : mL} {q : Nat × Value} : q ∈ m_ll base b L ↔ ∃ v, L[q.1]? = some (some v) ∧ q.2 = m_rv base b v := by
  unfold m_ll
  rw [List.mem_filterMap]
  constructor
  · rintro ⟨i, -, hi⟩
    cases hv : m_ldl L i with
    | none => rw [hv] at hi; cases hi
    | some v =>
      rw [hv] at hi
      cases hi
      exact ⟨v, m_ldl_at hv, rfl⟩
  · rintro ⟨v, h1, h2⟩
    refine ⟨q.1, List.mem_range.mpr (List.getElem?_eq_some_iff.mp h1).1, ?_⟩
    rw [m_ldl_of h1]
    show some (q.1, m_rv base b v) = some q
    rw [← h2]
theorem m_lo_has {base b nL : Nat} {ls : Array Slot} {L : mL} (h : m_lo base b nL ls L) : lv_has ls nL (m_ll base b L) := by
  obtain ⟨-, ⟨h1, h2, -⟩, h3⟩ := h
  refine ⟨h1, h2, fun q hq => ?_⟩
  obtain ⟨v, e1, e2⟩ := m_ll_mem.mp hq
  rw [e2]
  exact (h3 _ _ e1).2
/-- behind a store -/
theorem m_lo_set {base b nL i : Nat} {ls ls' : Array Slot} {L : mL} {v : Value} (h : m_lo base b nL ls L) (hv : m_c1 v = true)
    (h' : lv_has ls' nL ((i, m_rv base b v) :: (m_ll base b L).filter (fun q => !(q.1 == i) && !(q.1 + 1 == i && q.2.category == 2)))) : m_lo base b nL ls' (L.set i (some v)) := by
  obtain ⟨h0, -, h3⟩ := h
  refine ⟨by rw [List.length_set]; exact h0, ⟨h'.1, h'.2.1, fun q hq => by cases hq⟩, fun k w hk => ?_⟩
  rw [List.getElem?_set] at hk
  by_cases hik : i = k
  · subst hik
    rw [if_pos rfl] at hk
    by_cases hl : i < L.length
    · rw [if_pos hl] at hk
      cases hk
      exact ⟨hv, h'.2.2 (i, m_rv base b v) List.mem_cons_self⟩
    · rw [if_neg hl] at hk
      cases hk
  · rw [if_neg hik] at hk
    obtain ⟨g1, g2⟩ := h3 k w hk
    refine ⟨g1, h'.2.2 (k, m_rv base b w) (List.mem_cons_of_mem _ (List.mem_filter.mpr ⟨m_ll_mem.mpr ⟨w, hk, rfl⟩, ?_⟩))⟩
    have hc := m_c1_cat (base := base) (b := b) g1
    simp [hc, Ne.symm hik]
theorem m_cats {base b : Nat} {vs : List Value} (h : vs.all m_c1 = true) : ((vs.map (m_rv base b)).map fun v => v.category).sum = vs.length := by
  induction vs with
  | nil => rfl
  | cons v vs ih =>
    simp only [List.all_cons, Bool.and_eq_true] at h
    simp only [List.map_cons, List.sum_cons, List.length_cons]
    rw [ih h.2, m_c1_cat h.1]
    omega
theorem m_lg {base b : Nat} {vs : List Value} (h : vs.all m_c1 = true) : lg_sl (vs.map (m_rv base b)) = vs.map (fun v => Slot.val (m_rv base b v)) := by
  induction vs with
  | nil => rfl
  | cons v vs ih =>
    simp only [List.all_cons, Bool.and_eq_true] at h
    have hc := m_c1_cat (base := base) (b := b) h.1
    have e := ih h.2
    unfold lg_sl at e ⊢
    rw [List.map_cons, List.flatMap_cons, e, if_neg (by rw [hc]; decide)]
    rfl
theorem m_entry_lo {base b j : Nat} {as : List Value} (h : as.all m_c1 = true) (hn : as.length ≤ m_nl j) :
    m_lo base b (m_nl j) ((lg_sl (as.map (m_rv base b)) ++ List.replicate (m_nl j - (lg_sl (as.map (m_rv base b))).length) Slot.unset).toArray) (m_entry j as) := by
  have hlen : (lg_sl (as.map (m_rv base b))).length = as.length := by rw [m_lg h, List.length_map]
  have hl := lv_entry (as.map (m_rv base b)) (n := m_nl j) (by rw [hlen]; exact hn)
  refine ⟨by simp [m_entry]; omega, ⟨hl.1, hl.2.1, fun q hq => by cases hq⟩, fun i v hv => ?_⟩
  unfold m_entry at hv
  by_cases hi : i < as.length
  · rw [List.getElem?_append_left (by rw [List.length_map]; exact hi), List.getElem?_map] at hv
    have hv2 : as[i]? = some v := by
      cases ha : as[i]? with
      | none => rw [ha] at hv; cases hv
      | some w => rw [ha] at hv; cases hv; rfl
    refine ⟨List.all_eq_true.mp h v (List.mem_of_getElem? hv2), ?_⟩
    rw [List.getElem?_toArray, List.getElem?_append_left (by rw [hlen]; exact hi), m_lg h, List.getElem?_map, hv2]
    rfl
  · rw [List.getElem?_append_right (by rw [List.length_map]; omega)] at hv
    rw [List.getElem?_replicate] at hv
    split at hv <;> cases hv
/-- the context of a method's body -/
def m_cx (D : va_G) (cI cC : ClassId) (b : Nat) (X : mX) (H00 : Heap) (p : Program) (R : Room) (s : State) (m : MethodId) (args : Array Value) (meth : Method) (c : Code) (j : Nat) : Prop :=
  p.tables.exec = Jvm.exec ∧ c.code = m_code j ∧ c.maxLocals = m_nl j ∧ s.vm.findClass (m_ownS (m_own j)) = some m.cls ∧ (∀ w ∈ m_tg, w.before args s = true) ∧ (∀ w ∈ m_nw, va_Nw w s) ∧
  m_fr j ≤ R.frames ∧ 28 * m_fr j + 18 ≤ R.locals ∧ va_K D m_cls [(cI, .int), (cC, .char)] s ∧ va_X b X.1 X.2 s H00 ∧ b < H00.size ∧ ((m_y j).name = "<init>" → meth.name = "<init>")
/-- a return's instruction, by the answer -/
def m_rok (j pc : Nat) (v : Option Value) : Prop :=
  match v with
  | some (.int x) => decode (m_code j) pc = .ok (.ireturn, 1) ∧ (m_ret j = some .int ∨ (m_ret j = some .boolean ∧ (x = 0 ∨ x = 1)))
  | some (.ref _) => decode (m_code j) pc = .ok (.areturn, 1) ∧ m_ret j = some (.array .int)
  | none => decode (m_code j) pc = .ok (.return_, 1) ∧ m_ret j = none
  | _ => False
def m_at (l : Launch) (D : va_G) (cI cC : ClassId) (b : Nat) (X : mX) (H00 : Heap) (j pc : Nat) (L : mL) (st : List Value) (h : mH) (r : mR) : Prop :=
  h.1.length ≤ r.2.1.length ∧ h.2 ≤ r.2.2 ∧
  ∀ (p : Program) (e : Env) (R : Room) (s : State) (m : MethodId) (args : Array Value) (below : List Frame) (meth : Method) (c : Code) (H : Heap) (locs : List Loc) (cells slots : Nat) (Q : State → Prop) (ls : Array Slot) (n0 z0 : Nat),
    m_cx D cI cC b X H00 p R s m args meth c j → m_hp D cI cC b H00 h H locs → m_lo H00.size b (m_nl j) ls L →
    cells + n0 = h.1.length → slots + z0 = h.2 → r.2.1.length ≤ n0 + R.cells → r.2.2 ≤ z0 + R.slots →
    (∀ (H' : Heap) (locs' : List Loc) (cells' slots' : Nat) (ls' : Array Slot) (pc' : Nat), cells' + n0 = r.2.1.length → slots' + z0 = r.2.2 → m_hp D cI cC b H00 r.2 H' locs' → m_rok j pc' r.1 →
      W p l e R s m args below meth c H' locs' cells' slots' Q (F0 m pc' ls' (r.1.toList.map (m_rv H00.size b)))) →
    W p l e R s m args below meth c H locs cells slots Q (F0 m pc ls (st.map (m_rv H00.size b)))
def m_SG (l : Launch) (D : va_G) (cI cC : ClassId) (b : Nat) (X : mX) (H00 : Heap) (go : mG) : Prop :=
  ∀ (j pc : Nat) (L : mL) (st : List Value) (h : mH) (r : mR), go j pc L st h = some r → m_at l D cI cC b X H00 j pc L st h r
/-- one instruction ahead of a state that is sound -/
theorem m_step {l : Launch} {D : va_G} {cI cC : ClassId} {b : Nat} {X : mX} {H00 : Heap} {j pc pc2 : Nat} {L L2 : mL} {st st2 : List Value} {h h2 : mH} {r : mR} (hB : m_at l D cI cC b X H00 j pc2 L2 st2 h2 r) (hle : h.1.length ≤ h2.1.length ∧ h.2 ≤ h2.2)
    (hstep : ∀ (p : Program) (e : Env) (R : Room) (s : State) (m : MethodId) (args : Array Value) (below : List Frame) (meth : Method) (c : Code) (H : Heap) (locs : List Loc) (cells slots : Nat) (Q : State → Prop) (ls : Array Slot),
      m_cx D cI cC b X H00 p R s m args meth c j → m_hp D cI cC b H00 h H locs → m_lo H00.size b (m_nl j) ls L → cells + (h2.1.length - h.1.length) ≤ R.cells → slots + (h2.2 - h.2) ≤ R.slots →
      (∀ (H' : Heap) (locs' : List Loc) (ls' : Array Slot), m_hp D cI cC b H00 h2 H' locs' → m_lo H00.size b (m_nl j) ls' L2 → W p l e R s m args below meth c H' locs' (cells + (h2.1.length - h.1.length)) (slots + (h2.2 - h.2)) Q (F0 m pc2 ls' (st2.map (m_rv H00.size b)))) →
      W p l e R s m args below meth c H locs cells slots Q (F0 m pc ls (st.map (m_rv H00.size b)))) : m_at l D cI cC b X H00 j pc L st h r := by
  obtain ⟨b1, b2, bW⟩ := hB
  refine ⟨Nat.le_trans hle.1 b1, Nat.le_trans hle.2 b2, ?_⟩
  intro p e R s m args below meth c H locs cells slots Q ls n0 z0 hcx hhp hlo e1 e2 e3 e4 hret
  refine hstep p e R s m args below meth c H locs cells slots Q ls hcx hhp hlo (by omega) (by omega) fun H' locs' ls' hhp' hlo' => ?_
  exact bW p e R s m args below meth c H' locs' _ _ Q ls' n0 z0 hcx hhp' hlo' (by omega) (by omega) e3 e4 hret
/-- ... that leaves the heap -/
theorem m_stepS {l : Launch} {D : va_G} {cI cC : ClassId} {b : Nat} {X : mX} {H00 : Heap} {j pc pc2 : Nat} {L L2 : mL} {st st2 : List Value} {h : mH} {r : mR} (hB : m_at l D cI cC b X H00 j pc2 L2 st2 h r)
    (hstep : ∀ (p : Program) (e : Env) (R : Room) (s : State) (m : MethodId) (args : Array Value) (below : List Frame) (meth : Method) (c : Code) (H : Heap) (locs : List Loc) (cells slots : Nat) (Q : State → Prop) (ls : Array Slot),
      m_cx D cI cC b X H00 p R s m args meth c j → m_hp D cI cC b H00 h H locs → m_lo H00.size b (m_nl j) ls L → cells ≤ R.cells → slots ≤ R.slots →
      (∀ (ls' : Array Slot), m_lo H00.size b (m_nl j) ls' L2 → W p l e R s m args below meth c H locs cells slots Q (F0 m pc2 ls' (st2.map (m_rv H00.size b)))) →
      W p l e R s m args below meth c H locs cells slots Q (F0 m pc ls (st.map (m_rv H00.size b)))) : m_at l D cI cC b X H00 j pc L st h r := by
  refine m_step hB ⟨Nat.le_refl _, Nat.le_refl _⟩ ?_
  intro p e R s m args below meth c H locs cells slots Q ls hcx hhp hlo h1 h2 kk
  simp only [Nat.sub_self, Nat.add_zero] at h1 h2 kk
  exact hstep p e R s m args below meth c H locs cells slots Q ls hcx hhp hlo h1 h2 fun ls' hl => kk H locs ls' hhp hl
end
section
/-! what the tables say, row by row: by program -/
theorem m_lt_of {α : Type} {L : List (List α)} {o : Nat} {l : List α} (h : L[o]? = some l) : o < L.length := (List.getElem?_eq_some_iff.mp h).1
set_option maxRecDepth 100000 in
theorem m_fl_words : ∀ o, o < 17 → ∀ e ∈ m_fl[o]?.getD [], m_fw o e ∈ lw_tbl := by
  intro o ho e he
  rcases (show o = 0 ∨ o = 1 ∨ o = 2 ∨ o = 3 ∨ o = 4 ∨ o = 5 ∨ o = 6 ∨ o = 7 ∨ o = 8 ∨ o = 9 ∨ o = 10 ∨ o = 11 ∨ o = 12 ∨ o = 13 ∨ o = 14 ∨ o = 15 ∨ o = 16 by omega) with rfl | rfl | rfl | rfl | rfl | rfl | rfl | rfl | rfl | rfl | rfl | rfl | rfl | rfl | rfl | rfl | rfl
  · exact absurd (show e ∈ ([] : List (Nat × Nat × Nat × Bool)) from he) List.not_mem_nil
  · exact m_of_places m_fw1 (List.mem_map_of_mem he)
  · exact m_of_places m_fw2 (List.mem_map_of_mem he)
  · exact m_of_places m_fw3 (List.mem_map_of_mem he)
  · exact m_of_places m_fw4 (List.mem_map_of_mem he)
  · exact m_of_places m_fw5 (List.mem_map_of_mem he)
  · exact m_of_places m_fw6 (List.mem_map_of_mem he)
  · exact m_of_places m_fw7 (List.mem_map_of_mem he)
  · exact m_of_places m_fw8 (List.mem_map_of_mem he)
  · exact m_of_places m_fw9 (List.mem_map_of_mem he)
  · exact m_of_places m_fw10 (List.mem_map_of_mem he)
  · exact m_of_places m_fw11 (List.mem_map_of_mem he)
  · exact m_of_places m_fw12 (List.mem_map_of_mem he)
  · exact m_of_places m_fw13 (List.mem_map_of_mem he)
  · exact absurd (show e ∈ ([] : List (Nat × Nat × Nat × Bool)) from he) List.not_mem_nil
  · exact absurd (show e ∈ ([] : List (Nat × Nat × Nat × Bool)) from he) List.not_mem_nil
  · exact absurd (show e ∈ ([] : List (Nat × Nat × Nat × Bool)) from he) List.not_mem_nil
set_option maxRecDepth 100000 in
theorem m_ml_words : ∀ o, o < 17 → ∀ e ∈ m_ml[o]?.getD [], ∀ w ∈ m_mws o e, w ∈ lw_tbl := by
  intro o ho e he w hw
  rcases (show o = 0 ∨ o = 1 ∨ o = 2 ∨ o = 3 ∨ o = 4 ∨ o = 5 ∨ o = 6 ∨ o = 7 ∨ o = 8 ∨ o = 9 ∨ o = 10 ∨ o = 11 ∨ o = 12 ∨ o = 13 ∨ o = 14 ∨ o = 15 ∨ o = 16 by omega) with rfl | rfl | rfl | rfl | rfl | rfl | rfl | rfl | rfl | rfl | rfl | rfl | rfl | rfl | rfl | rfl | rfl
  · have he : e ∈ m_ml0_0 ++ m_ml0_1 ++ m_ml0_2 ++ m_ml0_3 := he
    rcases List.mem_append.mp he with he | he
    rotate_left
    · exact m_of_places m_ml0_3_ok (List.mem_flatMap.mpr ⟨e, he, hw⟩)
    rcases List.mem_append.mp he with he | he
    rotate_left
    · exact m_of_places m_ml0_2_ok (List.mem_flatMap.mpr ⟨e, he, hw⟩)
    rcases List.mem_append.mp he with he | he
    rotate_left
    · exact m_of_places m_ml0_1_ok (List.mem_flatMap.mpr ⟨e, he, hw⟩)
    exact m_of_places m_ml0_0_ok (List.mem_flatMap.mpr ⟨e, he, hw⟩)
  · have he : e ∈ m_ml1_0 ++ m_ml1_1 ++ m_ml1_2 ++ m_ml1_3 ++ m_ml1_4 := he
    rcases List.mem_append.mp he with he | he
    rotate_left
    · exact m_of_places m_ml1_4_ok (List.mem_flatMap.mpr ⟨e, he, hw⟩)
    rcases List.mem_append.mp he with he | he
    rotate_left
    · exact m_of_places m_ml1_3_ok (List.mem_flatMap.mpr ⟨e, he, hw⟩)
    rcases List.mem_append.mp he with he | he
    rotate_left
    · exact m_of_places m_ml1_2_ok (List.mem_flatMap.mpr ⟨e, he, hw⟩)
    rcases List.mem_append.mp he with he | he
    rotate_left
    · exact m_of_places m_ml1_1_ok (List.mem_flatMap.mpr ⟨e, he, hw⟩)
    exact m_of_places m_ml1_0_ok (List.mem_flatMap.mpr ⟨e, he, hw⟩)
  · have he : e ∈ m_ml2_0 ++ m_ml2_1 ++ m_ml2_2 := he
    rcases List.mem_append.mp he with he | he
    rotate_left
    · exact m_of_places m_ml2_2_ok (List.mem_flatMap.mpr ⟨e, he, hw⟩)
    rcases List.mem_append.mp he with he | he
    rotate_left
    · exact m_of_places m_ml2_1_ok (List.mem_flatMap.mpr ⟨e, he, hw⟩)
    exact m_of_places m_ml2_0_ok (List.mem_flatMap.mpr ⟨e, he, hw⟩)
  · have he : e ∈ m_ml3_0 := he
    exact m_of_places m_ml3_0_ok (List.mem_flatMap.mpr ⟨e, he, hw⟩)
  · have he : e ∈ m_ml4_0 := he
    exact m_of_places m_ml4_0_ok (List.mem_flatMap.mpr ⟨e, he, hw⟩)
  · have he : e ∈ m_ml5_0 := he
    exact m_of_places m_ml5_0_ok (List.mem_flatMap.mpr ⟨e, he, hw⟩)
  · have he : e ∈ m_ml6_0 := he
    exact m_of_places m_ml6_0_ok (List.mem_flatMap.mpr ⟨e, he, hw⟩)
  · have he : e ∈ m_ml7_0 := he
    exact m_of_places m_ml7_0_ok (List.mem_flatMap.mpr ⟨e, he, hw⟩)
  · have he : e ∈ m_ml8_0 := he
    exact m_of_places m_ml8_0_ok (List.mem_flatMap.mpr ⟨e, he, hw⟩)
  · have he : e ∈ m_ml9_0 := he
    exact m_of_places m_ml9_0_ok (List.mem_flatMap.mpr ⟨e, he, hw⟩)
  · have he : e ∈ m_ml10_0 := he
    exact m_of_places m_ml10_0_ok (List.mem_flatMap.mpr ⟨e, he, hw⟩)
  · have he : e ∈ m_ml11_0 := he
    exact m_of_places m_ml11_0_ok (List.mem_flatMap.mpr ⟨e, he, hw⟩)
  · have he : e ∈ m_ml12_0 := he
    exact m_of_places m_ml12_0_ok (List.mem_flatMap.mpr ⟨e, he, hw⟩)
  · have he : e ∈ m_ml13_0 ++ m_ml13_1 := he
    rcases List.mem_append.mp he with he | he
    rotate_left
    · exact m_of_places m_ml13_1_ok (List.mem_flatMap.mpr ⟨e, he, hw⟩)
    exact m_of_places m_ml13_0_ok (List.mem_flatMap.mpr ⟨e, he, hw⟩)
  · have he : e ∈ m_ml14_0 := he
    exact m_of_places m_ml14_0_ok (List.mem_flatMap.mpr ⟨e, he, hw⟩)
  · exact absurd (show e ∈ ([] : List (Nat × Nat × Nat)) from he) List.not_mem_nil
  · exact absurd (show e ∈ ([] : List (Nat × Nat × Nat)) from he) List.not_mem_nil
theorem m_cls_len : m_cls.length = 13 := rfl
theorem m_cls_at {ci : Nat} (h : ci < m_cls.length) : m_cls[ci]? = some ((m_clsQ ci).1, (m_clsQ ci).2.1, (m_clsQ ci).2.2) := by
  unfold m_clsQ
  rw [List.getElem?_eq_getElem h]
  rfl
theorem m_lay_in {ci : Nat} (h : ci < m_cls.length) : ∀ w ∈ u_ws (m_clsQ ci).1 (m_clsQ ci).2.1 (m_clsQ ci).2.2, w ∈ m_tg := by
  intro w hw
  have hq : (m_clsQ ci) ∈ m_cls := List.mem_of_getElem? (m_cls_at h)
  have h1 : w ∈ m_lw := List.mem_flatMap.mpr ⟨_, hq, hw⟩
  refine m_in_tg (m_of_places m_lw_ok h1) ?_
  obtain ⟨k, -, rfl⟩ := List.mem_map.mp hw
  unfold u_lay
  split <;> rfl
theorem m_cok_of {ci : Nat} (h : ci < m_cls.length) : m_cok ci = true := List.all_eq_true.mp m_cls_ok ci (List.mem_range.mpr h)
theorem m_ty_of {ci : Nat} (h : ci < m_cls.length) : ∀ k, k < (m_clsQ ci).2.2 → parseFieldDescriptor ((m_clsQ ci).2.1 k).2.2.1 = some (((m_tys[ci]?.getD [])[k]?).getD .int) := by
  intro k hk
  have h1 := List.all_eq_true.mp (m_cok_of h) k (List.mem_range.mpr hk)
  simp only [Bool.and_eq_true, decide_eq_true_eq] at h1
  exact h1.1
theorem m_nm_of {ci : Nat} (h : ci < m_cls.length) : ∀ a, a < (m_clsQ ci).2.2 → ∀ b, b < (m_clsQ ci).2.2 → a ≠ b → ((m_clsQ ci).2.1 a).2.1 ≠ ((m_clsQ ci).2.1 b).2.1 := by
  intro a ha b hb hab
  have h1 := List.all_eq_true.mp (m_cok_of h) a (List.mem_range.mpr ha)
  simp only [Bool.and_eq_true, decide_eq_true_eq] at h1
  have h2 := List.all_eq_true.mp h1.2 b (List.mem_range.mpr hb)
  simp only [Bool.or_eq_true, decide_eq_true_eq] at h2
  exact h2.resolve_left hab
theorem m_findF_ok {o idx e ci k : Nat} {nest : Bool} (h : m_findF o idx = some (e, ci, k, nest)) : e = idx ∧ ci < m_cls.length ∧ k < (m_clsQ ci).2.2 ∧ ((m_clsQ ci).2.1 k).1 = (m_clsQ ci).1 ∧ m_fw o (idx, ci, k, nest) ∈ lw_tbl := by
  obtain ⟨l, h1, h2, h3⟩ := m_find_mem h
  have he : e = idx := by simpa using h3
  subst he
  have h4 := List.all_eq_true.mp (List.all_eq_true.mp m_fl_ok l (List.mem_of_getElem? h1)) _ h2
  simp only [m_fok, Bool.and_eq_true, decide_eq_true_eq] at h4
  exact ⟨rfl, h4.1.1, h4.1.2, h4.2, m_fl_words o (m_lt_of h1) _ (by rw [h1]; exact h2)⟩
theorem m_findM_ok {o idx e kind j : Nat} (h : m_findM o idx = some (e, kind, j)) : e = idx ∧ (∀ w ∈ m_mws o (idx, kind, j), w ∈ lw_tbl) ∧ kind ≤ 7 ∧ (kind ≤ 3 → 0 < j ∧ j < 292 ∧ (m_y j).cls ≠ "java/lang/Math") ∧ (kind ≤ 1 → (m_y j).name = "<init>" ∧ m_ret j = none) := by
  obtain ⟨l, h1, h2, h3⟩ := m_find_mem h
  have he : e = idx := by simpa using h3
  subst he
  have h4 := List.all_eq_true.mp (List.all_eq_true.mp m_kind_ok l (List.mem_of_getElem? h1)) _ h2
  simp only [m_kindok, Bool.and_eq_true, Bool.or_eq_true, decide_eq_true_eq] at h4
  refine ⟨rfl, m_ml_words o (m_lt_of h1) _ (by rw [h1]; exact h2), h4.1, fun hk => ?_, fun hk => ?_⟩
  · rcases h4.2 with h5 | h5
    · omega
    · exact ⟨h5.1.1.1, h5.1.1.2, h5.1.2⟩
  · rcases h4.2 with h5 | h5
    · omega
    · rcases h5.2 with h6 | h6
      · omega
      · exact h6
theorem m_findK_ok {o idx e ci : Nat} (h : m_findK o idx = some (e, ci)) : e = idx ∧ ci < m_cls.length ∧ ∀ w ∈ m_kw o (idx, ci), w ∈ lw_tbl := by
  obtain ⟨l, h1, h2, h3⟩ := m_find_mem h
  have he : e = idx := by simpa using h3
  subst he
  have h4 := List.all_eq_true.mp (List.all_eq_true.mp m_kl_ok l (List.mem_of_getElem? h1)) _ h2
  simp only [decide_eq_true_eq] at h4
  refine ⟨rfl, h4, fun w hw => m_of_places m_kw_ok (List.mem_flatMap.mpr ⟨(l, o), ?_, List.mem_flatMap.mpr ⟨_, h2, hw⟩⟩)⟩
  exact List.mem_iff_getElem?.mpr ⟨o, by rw [List.getElem?_zipIdx, h1]; simp⟩
theorem m_findC_ok {o idx e : Nat} {v : Int32} (h : m_findC o idx = some (e, v)) : e = idx ∧ Cond.constant (m_ownS o) idx v ∈ lw_tbl := by
  obtain ⟨l, h1, h2, h3⟩ := m_find_mem h
  have he : e = idx := by simpa using h3
  subst he
  refine ⟨rfl, m_of_places m_cl_ok (List.mem_flatMap.mpr ⟨(l, o), ?_, List.mem_map.mpr ⟨_, h2, rfl⟩⟩)⟩
  exact List.mem_iff_getElem?.mpr ⟨o, by rw [List.getElem?_zipIdx, h1]; simp⟩
theorem m_jok_of {j : Nat} (h : j < 292) : m_jok j = true := by
  by_cases h1 : j < 100
  · exact List.all_eq_true.mp m_jok1 j (List.mem_range.mpr h1)
  · by_cases h2 : j < 200
    · exact List.all_eq_true.mp m_jok2 j (List.mem_range'_1.mpr ⟨by omega, by omega⟩)
    · exact List.all_eq_true.mp m_jok3 j (List.mem_range'_1.mpr ⟨by omega, by omega⟩)
theorem m_jok_at {j : Nat} (h : j < 292) : m_ownS (m_own j) = (m_y j).cls ∧ (m_y j).cls ≠ "java/lang/invoke/MethodHandle" ∧ (m_y j).cls ≠ "java/lang/invoke/VarHandle" ∧ (parseMethodDescriptor (m_y j).desc).map (fun d => d.parameters.length) = some (m_np j) ∧ m_nl j ≤ 9 ∧ ((m_y j).cls ≠ "java/lang/Math" → plainName (m_y j).cls = true) := by
  have h1 := m_jok_of h
  simp only [m_jok, Bool.and_eq_true, Bool.or_eq_true, decide_eq_true_eq] at h1
  exact ⟨h1.1.1.1.1.1, h1.1.1.1.1.2, h1.1.1.1.2, h1.1.1.2, h1.1.2, fun h2 => h1.2.resolve_left h2⟩
theorem m_sys {w : Cond} (h : w ∈ m_sysw) (hg : goodWord w = true) : w ∈ m_tg := m_in_tg (m_of_places m_sys_ok h) hg
def m_cwj (j : Nat) : Cond := .code (m_y j) (m_code j) (m_nl j) (m_ret j)
set_option maxRecDepth 100000 in
theorem m_cwj_in {j : Nat} (h0 : 0 < j) (h : j < 292) : m_cwj j ∈ m_tg := by
  refine m_in_tg ?_ rfl
  have hq : j / 40 < 8 := by omega
  have hm : j % 40 < 40 := Nat.mod_lt _ (by omega)
  have key : ∀ (q : Nat) (l : List (MethodName × ByteArray × Nat × Option FieldType × Nat × Nat × Nat)), m_mt[q]? = some l → j / 40 = q → j % 40 < l.length → m_row j ∈ l := by
    intro q l h1 h2 h3
    unfold m_row
    rw [h2, h1]
    show (l[j % 40]?).getD _ ∈ l
    rw [List.getElem?_eq_getElem h3]
    exact List.getElem_mem h3
  rcases (show j / 40 = 0 ∨ j / 40 = 1 ∨ j / 40 = 2 ∨ j / 40 = 3 ∨ j / 40 = 4 ∨ j / 40 = 5 ∨ j / 40 = 6 ∨ j / 40 = 7 by omega) with hz | hz | hz | hz | hz | hz | hz | hz
  · have hr : m_row j ∈ m_mt0.drop 1 := by
      have e : m_row j = (m_mt0[j % 40]?).getD (x, code, maxLocals, ret, 8, 0, 1) := by unfold m_row; rw [hz]; rfl
      have hl : j % 40 < m_mt0.length := hm
      rw [e, List.getElem?_eq_getElem hl]
      refine List.mem_iff_getElem?.mpr ⟨j % 40 - 1, ?_⟩
      rw [List.getElem?_drop, show 1 + (j % 40 - 1) = j % 40 by omega, List.getElem?_eq_getElem hl]
      rfl
    exact m_of_places m_cw0 (List.mem_map_of_mem (f := m_cwr) hr)
  · exact m_of_places m_cw1 (List.mem_map_of_mem (f := m_cwr) (key 1 m_mt1 rfl hz (by show j % 40 < 40; omega)))
  · exact m_of_places m_cw2 (List.mem_map_of_mem (f := m_cwr) (key 2 m_mt2 rfl hz (by show j % 40 < 40; omega)))
  · exact m_of_places m_cw3 (List.mem_map_of_mem (f := m_cwr) (key 3 m_mt3 rfl hz (by show j % 40 < 40; omega)))
  · exact m_of_places m_cw4 (List.mem_map_of_mem (f := m_cwr) (key 4 m_mt4 rfl hz (by show j % 40 < 40; omega)))
  · exact m_of_places m_cw5 (List.mem_map_of_mem (f := m_cwr) (key 5 m_mt5 rfl hz (by show j % 40 < 40; omega)))
  · exact m_of_places m_cw6 (List.mem_map_of_mem (f := m_cwr) (key 6 m_mt6 rfl hz (by show j % 40 < 40; omega)))
  · exact m_of_places m_cw7 (List.mem_map_of_mem (f := m_cwr) (key 7 m_mt7 rfl hz (by show j % 40 < 12; omega)))
end
section
/-! One instruction after the other: what the small machine does, the real one does. -/
section SND
variable {l : Launch} {D : va_G} {cI cC : ClassId} {b : Nat} {X : mX} {H00 : Heap} {go : mG} {j pc len : Nat} {L : mL} {st : List Value} {h : mH} {r : mR}
theorem sd_jump (hgo : m_SG l D cI cC b X H00 go) {off : Int} (hr : m_jump go j pc off L st h = some r) : ∃ tgt : Nat, (pc : Int) + off = (tgt : Int) ∧ m_at l D cI cC b X H00 j tgt L st h r := by
  unfold m_jump at hr
  split at hr
  next h0 => exact ⟨_, (Int.toNat_of_nonneg h0).symm, hgo _ _ _ _ _ _ hr⟩
  next => cases hr
theorem sd_load (hgo : m_SG l D cI cC b X H00 go) {q : Value → Bool} {want i : Nat} (hr : m_load go q j pc len want i L st h = some r) : len = want ∧ ∃ v, m_ldl L i = some v ∧ q v = true ∧ m_at l D cI cC b X H00 j (pc + want) L (v :: st) h r := by
  unfold m_load at hr
  split at hr
  next h0 =>
    split at hr
    next v hv =>
      split at hr
      next hq => exact ⟨h0, v, hv, hq, hgo _ _ _ _ _ _ hr⟩
      next => cases hr
    next => cases hr
  next => cases hr
theorem sd_iload_n (hgo : m_SG l D cI cC b X H00 go) {n : Fin 4} (hr : m_load go m_isint j pc len 1 n.val L st h = some r) (hdg : decode (m_code j) pc = .ok (.iload_n n, len)) : m_at l D cI cC b X H00 j pc L st h r := by
  obtain ⟨rfl, v, hv, hq, hB⟩ := sd_load hgo hr
  obtain ⟨x, rfl, -⟩ := m_isint_rv (base := 0) (b := 0) hq
  refine m_stepS hB fun p e R s m args below meth c H locs cells slots Q ls hcx hhp hlo _ _ kk => ?_
  obtain ⟨hx, hb, -⟩ := hcx
  exact lv_iload_n hx hb hdg rfl (hlo.2.2 _ _ (m_ldl_at hv)).2 (kk ls hlo)
theorem sd_iload (hgo : m_SG l D cI cC b X H00 go) {n : Nat} (hr : m_load go m_isint j pc len 2 n L st h = some r) (hdg : decode (m_code j) pc = .ok (.iload n, len)) : m_at l D cI cC b X H00 j pc L st h r := by
  obtain ⟨rfl, v, hv, hq, hB⟩ := sd_load hgo hr
  obtain ⟨x, rfl, -⟩ := m_isint_rv (base := 0) (b := 0) hq
  refine m_stepS hB fun p e R s m args below meth c H locs cells slots Q ls hcx hhp hlo _ _ kk => ?_
  obtain ⟨hx, hb, -⟩ := hcx
  exact lv_iload hx hb hdg (hlo.2.2 _ _ (m_ldl_at hv)).2 (kk ls hlo)
theorem sd_aload_n (hgo : m_SG l D cI cC b X H00 go) {n : Fin 4} (hr : m_load go m_isref j pc len 1 n.val L st h = some r) (hdg : decode (m_code j) pc = .ok (.aload_n n, len)) : m_at l D cI cC b X H00 j pc L st h r := by
  obtain ⟨rfl, v, hv, hq, hB⟩ := sd_load hgo hr
  obtain ⟨a, ha⟩ := m_isref_rv (base := H00.size) (b := b) hq
  refine m_stepS hB fun p e R s m args below meth c H locs cells slots Q ls hcx hhp hlo _ _ kk => ?_
  obtain ⟨hx, hb, -⟩ := hcx
  refine lv_aload_n hx hb hdg rfl (x := a) (by rw [← ha]; exact (hlo.2.2 _ _ (m_ldl_at hv)).2) ?_
  rw [← ha]
  exact kk ls hlo
theorem sd_store (hgo : m_SG l D cI cC b X H00 go) {q : Value → Bool} {want i : Nat} (hr : m_store go q j pc len want i L st h = some r) : len = want ∧ ∃ v rest, st = v :: rest ∧ q v = true ∧ i < L.length ∧ m_at l D cI cC b X H00 j (pc + want) (L.set i (some v)) rest h r := by
  unfold m_store at hr
  split at hr
  next h0 =>
    split at hr
    next v rest =>
      split at hr
      next hq => exact ⟨h0, v, rest, rfl, hq.1, hq.2, hgo _ _ _ _ _ _ hr⟩
      next => cases hr
    next => cases hr
  next => cases hr
theorem sd_istore_n (hgo : m_SG l D cI cC b X H00 go) {n : Fin 4} (hr : m_store go m_isint j pc len 1 n.val L st h = some r) (hdg : decode (m_code j) pc = .ok (.istore_n n, len)) : m_at l D cI cC b X H00 j pc L st h r := by
  obtain ⟨rfl, v, rest, rfl, hq, hi, hB⟩ := sd_store hgo hr
  obtain ⟨x, rfl, -⟩ := m_isint_rv (base := 0) (b := 0) hq
  refine m_stepS hB fun p e R s m args below meth c H locs cells slots Q ls hcx hhp hlo _ _ kk => ?_
  obtain ⟨hx, hb, -⟩ := hcx
  exact lv_istore_n hx hb hdg rfl (m_lo_has hlo) (by rw [← hlo.1]; exact hi) rfl fun ls' hl => kk ls' (m_lo_set hlo rfl hl)
theorem sd_istore (hgo : m_SG l D cI cC b X H00 go) {n : Nat} (hr : m_store go m_isint j pc len 2 n L st h = some r) (hdg : decode (m_code j) pc = .ok (.istore n, len)) : m_at l D cI cC b X H00 j pc L st h r := by
  obtain ⟨rfl, v, rest, rfl, hq, hi, hB⟩ := sd_store hgo hr
  obtain ⟨x, rfl, -⟩ := m_isint_rv (base := 0) (b := 0) hq
  refine m_stepS hB fun p e R s m args below meth c H locs cells slots Q ls hcx hhp hlo _ _ kk => ?_
  obtain ⟨hx, hb, -⟩ := hcx
  exact lv_istore hx hb hdg (m_lo_has hlo) (by rw [← hlo.1]; exact hi) rfl fun ls' hl => kk ls' (m_lo_set hlo rfl hl)
theorem sd_astore_n (hgo : m_SG l D cI cC b X H00 go) {n : Fin 4} (hr : m_store go m_isref j pc len 1 n.val L st h = some r) (hdg : decode (m_code j) pc = .ok (.astore_n n, len)) : m_at l D cI cC b X H00 j pc L st h r := by
  obtain ⟨rfl, v, rest, rfl, hq, hi, hB⟩ := sd_store hgo hr
  obtain ⟨a, ha⟩ := m_isref_rv (base := H00.size) (b := b) hq
  refine m_stepS hB fun p e R s m args below meth c H locs cells slots Q ls hcx hhp hlo _ _ kk => ?_
  obtain ⟨hx, hb, -⟩ := hcx
  rw [List.map_cons, ha]
  exact lv_astore_n hx hb hdg rfl (m_lo_has hlo) (by rw [← hlo.1]; exact hi) rfl fun ls' hl => kk ls' (m_lo_set hlo (m_isref_c1 hq) (by rw [ha]; exact hl))
theorem sd_push (hgo : m_SG l D cI cC b X H00 go) {want : Nat} {v : Int32} (hr : m_push go j pc len want v L st h = some r) : len = want ∧ m_at l D cI cC b X H00 j (pc + want) L (.int v :: st) h r := by
  unfold m_push at hr
  split at hr
  next h0 => exact ⟨h0, hgo _ _ _ _ _ _ hr⟩
  next => cases hr
theorem sd_iconst (hgo : m_SG l D cI cC b X H00 go) {n : Int} (hr : m_push go j pc len 1 (Int32.ofInt n) L st h = some r) (hdg : decode (m_code j) pc = .ok (.iconst n, len)) : m_at l D cI cC b X H00 j pc L st h r := by
  obtain ⟨rfl, hB⟩ := sd_push hgo hr
  refine m_stepS hB fun p e R s m args below meth c H locs cells slots Q ls hcx hhp hlo _ _ kk => ?_
  exact lv_iconst hcx.1 hcx.2.1 hdg rfl (kk ls hlo)
theorem sd_bipush (hgo : m_SG l D cI cC b X H00 go) {n : Int} (hr : m_push go j pc len 2 (Int8.ofInt n).toInt32 L st h = some r) (hdg : decode (m_code j) pc = .ok (.bipush n, len)) : m_at l D cI cC b X H00 j pc L st h r := by
  obtain ⟨rfl, hB⟩ := sd_push hgo hr
  refine m_stepS hB fun p e R s m args below meth c H locs cells slots Q ls hcx hhp hlo _ _ kk => ?_
  exact lv_bipush hcx.1 hcx.2.1 hdg rfl (kk ls hlo)
theorem sd_sipush (hgo : m_SG l D cI cC b X H00 go) {n : Int} (hr : m_push go j pc len 3 (Int16.ofInt n).toInt32 L st h = some r) (hdg : decode (m_code j) pc = .ok (.sipush n, len)) : m_at l D cI cC b X H00 j pc L st h r := by
  obtain ⟨rfl, hB⟩ := sd_push hgo hr
  refine m_stepS hB fun p e R s m args below meth c H locs cells slots Q ls hcx hhp hlo _ _ kk => ?_
  exact lv_sipush hcx.1 hcx.2.1 hdg rfl (kk ls hlo)
theorem sd_ldcw (hgo : m_SG l D cI cC b X H00 go) {idx e : Nat} {v : Int32} (hf : m_findC (m_own j) idx = some (e, v)) (hr : m_push go j pc len 3 v L st h = some r) (hdg : decode (m_code j) pc = .ok (.ldc_w idx, len)) : m_at l D cI cC b X H00 j pc L st h r := by
  obtain ⟨rfl, hB⟩ := sd_push hgo hr
  refine m_stepS hB fun p e R s m args below meth c H locs cells slots Q ls hcx hhp hlo _ _ kk => ?_
  obtain ⟨hx, hb, -, hown, hts, -⟩ := hcx
  exact lv_ldcw hx hb hown (hts _ (m_in_tg (m_findC_ok hf).2 rfl)) hdg (kk ls hlo)
theorem sd_bin (hgo : m_SG l D cI cC b X H00 go) {f : Int32 → Int32 → Int32} {ok : Int32 → Bool} (hr : m_bin go j pc len f ok L st h = some r)
    (hrow : ∀ (x y : Int32) (rest : List Value), len = 1 → ok y = true → ∀ (p : Program) (e : Env) (R : Room) (s : State) (m : MethodId) (args : Array Value) (below : List Frame) (meth : Method) (c : Code) (H : Heap) (locs : List Loc) (cells slots : Nat) (Q : State → Prop) (ls : Array Slot),
      p.tables.exec = Jvm.exec → c.code = m_code j → W p l e R s m args below meth c H locs cells slots Q (F0 m (pc + 1) ls (.int (f x y) :: rest)) → W p l e R s m args below meth c H locs cells slots Q (F0 m pc ls (.int y :: .int x :: rest))) :
    m_at l D cI cC b X H00 j pc L st h r := by
  unfold m_bin at hr
  split at hr
  next y x rest =>
    split at hr
    next h0 =>
      refine m_stepS (hgo _ _ _ _ _ _ hr) fun p e R s m args below meth c H locs cells slots Q ls hcx hhp hlo _ _ kk => ?_
      exact hrow x y _ h0.1 h0.2 p e R s m args below meth c H locs cells slots Q ls hcx.1 hcx.2.1 (kk ls hlo)
    next => cases hr
  next => cases hr
theorem sd_i2c (hgo : m_SG l D cI cC b X H00 go) {x : Int32} {rest : List Value} (h1 : len = 1) (hr : go j (pc + 1) L (.int (x.toUInt32 % 65536).toInt32 :: rest) h = some r) (hdg : decode (m_code j) pc = .ok (.i2c, len)) : m_at l D cI cC b X H00 j pc L (.int x :: rest) h r := by
  subst h1
  refine m_stepS (hgo _ _ _ _ _ _ hr) fun p e R s m args below meth c H locs cells slots Q ls hcx hhp hlo _ _ kk => ?_
  exact lv_i2c hcx.1 hcx.2.1 hdg rfl (kk ls hlo)
theorem sd_iinc (hgo : m_SG l D cI cC b X H00 go) {i : Nat} {n : Int} (hr : m_iinc go j pc len i n L st h = some r) (hdg : decode (m_code j) pc = .ok (.iinc i n, len)) : m_at l D cI cC b X H00 j pc L st h r := by
  unfold m_iinc at hr
  split at hr
  next x hx0 =>
    split at hr
    next h0 =>
      obtain ⟨rfl, hi⟩ := h0
      refine m_stepS (hgo _ _ _ _ _ _ hr) fun p e R s m args below meth c H locs cells slots Q ls hcx hhp hlo _ _ kk => ?_
      have hm : (i, m_rv H00.size b (.int x)) ∈ m_ll H00.size b L := m_ll_mem.mpr ⟨_, m_ldl_at hx0, rfl⟩
      obtain ⟨k, hk⟩ := List.getElem?_of_mem hm
      exact lv_iinc hcx.1 hcx.2.1 hdg (m_lo_has hlo) hk rfl (by rw [← hlo.1]; exact hi) rfl fun ls' hl => kk ls' (m_lo_set hlo rfl hl)
    next => cases hr
  next => cases hr
theorem sd_goto (hgo : m_SG l D cI cC b X H00 go) {off : Int} (h1 : len = 3) (hr : m_jump go j pc off L st h = some r) (hdg : decode (m_code j) pc = .ok (.goto off, len)) : m_at l D cI cC b X H00 j pc L st h r := by
  subst h1
  obtain ⟨tgt, ht, hB⟩ := sd_jump hgo hr
  refine m_stepS hB fun p e R s m args below meth c H locs cells slots Q ls hcx hhp hlo _ _ kk => ?_
  exact lv_goto hcx.1 hcx.2.1 hdg ht (kk ls hlo)
theorem sd_cond (hgo : m_SG l D cI cC b X H00 go) {st0 : List Value} {t : Bool} {off : Int} (hr : m_cond go j pc len t off L st h = some r)
    (hrow : len = 3 → ∀ tgt : Nat, (pc : Int) + off = (tgt : Int) → ∀ (p : Program) (e : Env) (R : Room) (s : State) (m : MethodId) (args : Array Value) (below : List Frame) (meth : Method) (c : Code) (H : Heap) (locs : List Loc) (cells slots : Nat) (Q : State → Prop) (ls : Array Slot),
      p.tables.exec = Jvm.exec → c.code = m_code j → (t = true → W p l e R s m args below meth c H locs cells slots Q (F0 m tgt ls (st.map (m_rv H00.size b)))) → (t = false → W p l e R s m args below meth c H locs cells slots Q (F0 m (pc + 3) ls (st.map (m_rv H00.size b)))) → W p l e R s m args below meth c H locs cells slots Q (F0 m pc ls (st0.map (m_rv H00.size b)))) :
    m_at l D cI cC b X H00 j pc L st0 h r := by
  unfold m_cond at hr
  split at hr
  next h0 =>
    obtain ⟨h0, h1⟩ := h0
    have htg : (pc : Int) + off = ((((pc : Int) + off).toNat : Nat) : Int) := (Int.toNat_of_nonneg h1).symm
    split at hr
    next ht =>
      refine m_stepS (hgo _ _ _ _ _ _ hr) fun p e R s m args below meth c H locs cells slots Q ls hcx hhp hlo _ _ kk => ?_
      exact hrow h0 _ htg p e R s m args below meth c H locs cells slots Q ls hcx.1 hcx.2.1 (fun _ => kk ls hlo) (fun q => absurd (ht.symm.trans q) (by decide))
    next ht =>
      have ht' : t = false := by simpa using ht
      refine m_stepS (hgo _ _ _ _ _ _ hr) fun p e R s m args below meth c H locs cells slots Q ls hcx hhp hlo _ _ kk => ?_
      exact hrow h0 _ htg p e R s m args below meth c H locs cells slots Q ls hcx.1 hcx.2.1 (fun q => absurd (ht'.symm.trans q) (by decide)) (fun _ => kk ls hlo)
  next => cases hr
end SND
end
section
section SNE
variable {l : Launch} {D : va_G} {cI cC : ClassId} {b : Nat} {X : mX} {H00 : Heap} {go : mG} {j pc len : Nat} {L : mL} {st : List Value} {h : mH} {r : mR}
theorem sd_if (hgo : m_SG l D cI cC b X H00 go) {cd : Jvm.ClassFile.Cond} {x : Int32} {off : Int} (hr : m_cond go j pc len (m_cb cd x 0) off L st h = some r) (hdg : decode (m_code j) pc = .ok (.ifCond cd off, len)) : m_at l D cI cC b X H00 j pc L (.int x :: st) h r := by
  refine sd_cond hgo hr ?_
  intro h3 tgt htg p e R s m args below meth c H locs cells slots Q ls hx hb kt kf
  subst h3
  cases cd
  · exact lv_if_eq hx hb hdg htg (fun q => kt (decide_eq_true q)) (fun q => kf (decide_eq_false q))
  · exact lv_if_ne hx hb hdg htg (fun q => kt (decide_eq_true q)) (fun q => kf (decide_eq_false (fun z => z q)))
  · exact lv_if_lt hx hb hdg htg (fun q => kt (decide_eq_true q)) (fun q => kf (decide_eq_false q))
  · exact lv_if_ge hx hb hdg htg (fun q => kt (decide_eq_true q)) (fun q => kf (decide_eq_false q))
  · exact lv_if_gt hx hb hdg htg (fun q => kt (decide_eq_true q)) (fun q => kf (decide_eq_false q))
  · exact lv_if_le hx hb hdg htg (fun q => kt (decide_eq_true q)) (fun q => kf (decide_eq_false q))
theorem sd_icmp (hgo : m_SG l D cI cC b X H00 go) {cd : Jvm.ClassFile.Cond} {x y : Int32} {off : Int} (hr : m_cond go j pc len (m_cb cd x y) off L st h = some r) (hdg : decode (m_code j) pc = .ok (.if_icmp cd off, len)) : m_at l D cI cC b X H00 j pc L (.int y :: .int x :: st) h r := by
  refine sd_cond hgo hr ?_
  intro h3 tgt htg p e R s m args below meth c H locs cells slots Q ls hx hb kt kf
  subst h3
  cases cd
  · exact lv_icmp_eq hx hb hdg htg (fun q => kt (decide_eq_true q)) (fun q => kf (decide_eq_false q))
  · exact lv_icmp_ne hx hb hdg htg (fun q => kt (decide_eq_true q)) (fun q => kf (decide_eq_false (fun z => z q)))
  · exact lv_icmp_lt hx hb hdg htg (fun q => kt (decide_eq_true q)) (fun q => kf (decide_eq_false q))
  · exact lv_icmp_ge hx hb hdg htg (fun q => kt (decide_eq_true q)) (fun q => kf (decide_eq_false q))
  · exact lv_icmp_gt hx hb hdg htg (fun q => kt (decide_eq_true q)) (fun q => kf (decide_eq_false q))
  · exact lv_icmp_le hx hb hdg htg (fun q => kt (decide_eq_true q)) (fun q => kf (decide_eq_false q))
theorem sd_tsw (hgo : m_SG l D cI cC b X H00 go) {d lo hi : Int} {offs : Array Int} (hr : m_tsw go j pc d lo hi offs L st h = some r) (hdg : decode (m_code j) pc = .ok (.tableswitch d lo hi offs, len)) : m_at l D cI cC b X H00 j pc L st h r := by
  unfold m_tsw at hr
  split at hr
  next x rest =>
    split at hr
    next h0 =>
      obtain ⟨tgt, htg, hB⟩ := sd_jump hgo hr
      refine m_stepS hB fun p e R s m args below meth c H locs cells slots Q ls hcx hhp hlo _ _ kk => ?_
      exact lv_tableOut hcx.1 hcx.2.1 hdg h0 htg (kk ls hlo)
    next h0 =>
      split at hr
      next off ho =>
        obtain ⟨tgt, htg, hB⟩ := sd_jump hgo hr
        refine m_stepS hB fun p e R s m args below meth c H locs cells slots Q ls hcx hhp hlo _ _ kk => ?_
        exact lv_tableIn hcx.1 hcx.2.1 hdg (fun z => h0 (Or.inl z)) (fun z => h0 (Or.inr z)) ho htg (kk ls hlo)
      next => cases hr
  next => cases hr
theorem sd_lsw (hgo : m_SG l D cI cC b X H00 go) {d : Int} {ps : Array (Int × Int)} (hr : m_lsw go j pc d ps L st h = some r) (hdg : decode (m_code j) pc = .ok (.lookupswitch d ps, len)) : m_at l D cI cC b X H00 j pc L st h r := by
  unfold m_lsw at hr
  split at hr
  next x rest =>
    split at hr
    next h0 =>
      obtain ⟨tgt, htg, hB⟩ := sd_jump hgo hr
      refine m_stepS hB fun p e R s m args below meth c H locs cells slots Q ls hcx hhp hlo _ _ kk => ?_
      exact lv_lookup hcx.1 hcx.2.1 hdg h0 rfl htg (kk ls hlo)
    next => cases hr
  next => cases hr
theorem sd_dup (hgo : m_SG l D cI cC b X H00 go) {v : Value} (h1 : len = 1) (hc : m_c1 v = true) (hr : go j (pc + 1) L (v :: v :: st) h = some r) (hdg : decode (m_code j) pc = .ok (.dup, len)) : m_at l D cI cC b X H00 j pc L (v :: st) h r := by
  subst h1
  refine m_stepS (hgo _ _ _ _ _ _ hr) fun p e R s m args below meth c H locs cells slots Q ls hcx hhp hlo _ _ kk => ?_
  exact lv_dup hcx.1 hcx.2.1 hdg (m_c1_cat hc) (kk ls hlo)
theorem sd_dup2 (hgo : m_SG l D cI cC b X H00 go) {v w : Value} (h1 : len = 1) (hc : m_c1 v = true) (hc2 : m_c1 w = true) (hr : go j (pc + 1) L (v :: w :: v :: w :: st) h = some r) (hdg : decode (m_code j) pc = .ok (.dup2, len)) : m_at l D cI cC b X H00 j pc L (v :: w :: st) h r := by
  subst h1
  refine m_stepS (hgo _ _ _ _ _ _ hr) fun p e R s m args below meth c H locs cells slots Q ls hcx hhp hlo _ _ kk => ?_
  exact lv_dup2_11 hcx.1 hcx.2.1 hdg (m_c1_cat hc) (m_c1_cat hc2) (kk ls hlo)
theorem m_at_of {base : Nat} {hh : List mC} {a : Nat} {cl : mC} (hg : hh[a]? = some cl) : (m_ws base b cI cC hh)[a]? = some (base + a, m_cell base b cI cC cl) := by
  rw [m_ws_get, hg]
  rfl
theorem sd_getf (hgo : m_SG l D cI cC b X H00 go) {idx : Nat} (hr : m_getf go j pc len idx L st h = some r) (hdg : decode (m_code j) pc = .ok (.getfield idx, len)) : m_at l D cI cC b X H00 j pc L st h r := by
  unfold m_getf at hr
  split at hr
  next a rest e ci k nest hf =>
    split at hr
    next c2 fs hg =>
      split at hr
      next v hv =>
        split at hr
        next h0 =>
          obtain ⟨h3, h4⟩ := h0
          subst h3
          subst h4
          obtain ⟨rfl, hci, hk, hdecl, hw⟩ := m_findF_ok hf
          refine m_stepS (hgo _ _ _ _ _ _ hr) fun p e R s m args below meth c H locs cells slots Q ls hcx hhp hlo _ _ kk => ?_
          obtain ⟨hx, hb, hml, hown, hts, hnw, hfr, hlo2, hK, -⟩ := hcx
          have he := m_at_of (b := b) (cI := cI) (cC := cC) (base := H00.size) hg
          have hv' : (fs.map (m_rv H00.size b))[k]? = some (m_rv H00.size b v) := by rw [List.getElem?_map, hv]; rfl
          have hsame : ∀ x, s.fieldFound? ((m_clsQ c2).2.1 k).1 ((m_clsQ c2).2.1 k).2.1 ((m_clsQ c2).2.1 k).2.2.1 = some x → s.fieldFound? (m_clsQ c2).1 ((m_clsQ c2).2.1 k).2.1 ((m_clsQ c2).2.1 k).2.2.1 = some x := by
            rw [hdecl]
            exact fun _ z => z
          cases nest with
          | true => exact va_getN hx hb hts (m_lay_in hci) hown hK hhp.1 a he (m_cls_at hci) k hk (va_Nw.use rfl (hnw _ (m_in_nw hw rfl))) hsame hv' hdg (kk ls hlo)
          | false => exact va_get hx hb hts (m_lay_in hci) hown hK hhp.1 a he (m_cls_at hci) k hk (hts _ (m_in_tg hw rfl)) hsame hv' hdg (kk ls hlo)
        next => cases hr
      next => cases hr
    next => cases hr
  next => cases hr
theorem sd_ald (hgo : m_SG l D cI cC b X H00 go) {ch : Bool} (hr : m_ald go X ch j pc len L st h = some r) (hdg : decode (m_code j) pc = .ok ((if ch = true then .caload else .iaload), len)) : m_at l D cI cC b X H00 j pc L st h r := by
  unfold m_ald at hr
  split at hr
  next i a rest =>
    split at hr
    next c2 n f hg =>
      split at hr
      next h0 =>
        obtain ⟨h3, h4, h5⟩ := h0
        subst h3
        subst h4
        refine m_stepS (hgo _ _ _ _ _ _ hr) fun p e R s m args below meth c H locs cells slots Q ls hcx hhp hlo _ _ kk => ?_
        obtain ⟨hx, hb, hml, hown, hts, hnw, hfr, hlo2, hK, -⟩ := hcx
        have he := m_at_of (b := b) (cI := cI) (cC := cC) (base := H00.size) hg
        cases c2 with
        | true => exact va_cald hx hb hK hhp.1 a 1 he rfl h5 hdg (kk ls hlo)
        | false => exact va_iald hx hb hK hhp.1 a 0 he rfl h5 hdg (kk ls hlo)
      next => cases hr
    next => cases hr
  next i q rest =>
    split at hr
    next h0 =>
      obtain ⟨h3, h4, h5⟩ := h0
      subst h3
      subst h4
      refine m_stepS (hgo _ _ _ _ _ _ hr) fun p e R s m args below meth c H locs cells slots Q ls hcx hhp hlo _ _ kk => ?_
      obtain ⟨hx, hb, hml, hown, hts, hnw, hfr, hlo2, hK, hX, hbl, -⟩ := hcx
      exact va_sld hx hb hX hbl (by show ¬ H00.size ≤ b; omega) hhp.2.2 h5 hdg (kk ls hlo)
    next => cases hr
  next => cases hr
theorem sd_alen (hgo : m_SG l D cI cC b X H00 go) (hr : m_alen go X j pc len L st h = some r) (hdg : decode (m_code j) pc = .ok (.arraylength, len)) : m_at l D cI cC b X H00 j pc L st h r := by
  unfold m_alen at hr
  split at hr
  next a rest =>
    split at hr
    next c2 n f hg =>
      split at hr
      next h0 =>
        subst h0
        refine m_stepS (hgo _ _ _ _ _ _ hr) fun p e R s m args below meth c H locs cells slots Q ls hcx hhp hlo _ _ kk => ?_
        obtain ⟨hx, hb, hml, hown, hts, hnw, hfr, hlo2, hK, -⟩ := hcx
        have he := m_at_of (b := b) (cI := cI) (cC := cC) (base := H00.size) hg
        cases c2 with
        | true => exact va_alen hx hb hK hhp.1 a 1 he rfl rfl hdg (kk ls hlo)
        | false => exact va_alen hx hb hK hhp.1 a 0 he rfl rfl hdg (kk ls hlo)
      next => cases hr
    next => cases hr
  next q rest =>
    split at hr
    next h0 =>
      subst h0
      refine m_stepS (hgo _ _ _ _ _ _ hr) fun p e R s m args below meth c H locs cells slots Q ls hcx hhp hlo _ _ kk => ?_
      obtain ⟨hx, hb, hml, hown, hts, hnw, hfr, hlo2, hK, hX, hbl, -⟩ := hcx
      exact va_slen hx hb hX hbl (by show ¬ H00.size ≤ b; omega) hhp.2.2 hdg (kk ls hlo)
    next => cases hr
  next => cases hr
/-- a cell written anew -/
theorem m_hp_set {H H1 : Heap} {locs : List Loc} {a k : Nat} {c0 c1 : mC} (hh : m_hp D cI cC b H00 h H locs) (hg : m_get h a = some c0) (he : va_at D m_cls (H00.size + a, m_cell H00.size b cI cC c1) H1) (z : H1.size = H.size) (oq : ∀ q : Nat, q ≠ H00.size + a → H1[q]? = H[q]?) : m_hp D cI cC b H00 (m_set h a c1) H1 (locs ++ [⟨H00.size + a, k⟩]) := by
  obtain ⟨h1, h2, h3⟩ := hh
  refine ⟨?_, ?_, h3.put z oq (Nat.le_add_right _ _)⟩
  · show va_P D m_cls (m_ws H00.size b cI cC (h.1.set a c1)) H1
    rw [m_ws_set]
    exact h1.set m_ws_D (m_at_of hg) he oq
  · show H1.size = H00.size + (h.1.set a c1).length
    rw [List.length_set, z, h2]
theorem m_set_len {a : Nat} {c1 : mC} : h.1.length ≤ (m_set h a c1).1.length ∧ h.2 ≤ (m_set h a c1).2 := by
  unfold m_set
  rw [List.length_set]
  exact ⟨Nat.le_refl _, Nat.le_refl _⟩
theorem m_set_len0 {a : Nat} {c1 : mC} : (m_set h a c1).1.length - h.1.length = 0 ∧ (m_set h a c1).2 - h.2 = 0 := by
  unfold m_set
  rw [List.length_set]
  exact ⟨Nat.sub_self _, Nat.sub_self _⟩
theorem sd_ast (hgo : m_SG l D cI cC b X H00 go) {ch : Bool} (hr : m_ast go ch (if ch = true then vp_nar .char else fun x => x) j pc len L st h = some r) (hdg : decode (m_code j) pc = .ok ((if ch = true then .castore else .iastore), len)) : m_at l D cI cC b X H00 j pc L st h r := by
  unfold m_ast at hr
  split at hr
  next x i a rest =>
    split at hr
    next c2 n f hg =>
      split at hr
      next h0 =>
        obtain ⟨h3, h4, h5⟩ := h0
        subst h3
        subst h4
        refine m_step (hgo _ _ _ _ _ _ hr) m_set_len fun p e R s m args below meth c H locs cells slots Q ls hcx hhp hlo _ _ kk => ?_
        obtain ⟨hx, hb, hml, hown, hts, hnw, hfr, hlo2, hK, -⟩ := hcx
        have he := m_at_of (b := b) (cI := cI) (cC := cC) (base := H00.size) hg
        simp only [m_set_len0.1, m_set_len0.2, Nat.add_zero] at kk
        cases c2 with
        | true =>
          refine W.cast hx hb (hhp.1 a _ he) ((hK.2 1 _ rfl).1 n (fun j => .int (f j))) (fun q => by cases q) (by show ¬ (i < 0 ∨ (arrV _ _ _).slots.size ≤ _); rw [arrV_size]; exact h5) rfl rfl hdg fun H1 e1 z oq => ?_
          refine kk H1 _ ls (m_hp_set hhp hg ?_ z oq) hlo
          show H1[_]? = some (vp_cell _ _)
          rw [e1]
          congr 1
          show (arrV cC n (fun j => .int (f j))).setSlot _ _ = _
          rw [arrV_store, vp_cell_i]
          congr 1
          funext q
          simp only [updV, upd]
          split <;> rfl
        | false =>
          refine W.iast hx hb (hhp.1 a _ he) ((hK.2 0 _ rfl).1 n (fun j => .int (f j))) (fun q => by cases q) (by show ¬ (i < 0 ∨ (arrV _ _ _).slots.size ≤ _); rw [arrV_size]; exact h5) rfl rfl hdg fun H1 e1 z oq => ?_
          refine kk H1 _ ls (m_hp_set hhp hg ?_ z oq) hlo
          show H1[_]? = some (vp_cell _ _)
          rw [e1]
          congr 1
          show (arrV cI n (fun j => .int (f j))).setSlot _ _ = _
          rw [arrV_store, vp_cell_i]
          congr 1
          funext q
          simp only [updV, upd]
          split <;> rfl
      next => cases hr
    next => cases hr
  next => cases hr
end SNE
end
section
section SNF
variable {l : Launch} {D : va_G} {cI cC : ClassId} {b : Nat} {X : mX} {H00 : Heap} {go : mG} {j pc len : Nat} {L : mL} {st : List Value} {h : mH} {r : mR}
theorem m_fit_ok {base : Nat} {ty : FieldType} {v : Value} (hf : m_fit ty v = true) : narrow ty (m_rv base b v) = m_rv base b v ∧ fits ty (m_rv base b v) = true := by
  cases ty <;> cases v <;> first | (simp [m_fit] at hf; done) | exact ⟨rfl, rfl⟩ | skip
  simp only [m_fit, Bool.or_eq_true, decide_eq_true_eq] at hf
  rcases hf with rfl | rfl <;> exact ⟨rfl, rfl⟩
theorem sd_putf (hgo : m_SG l D cI cC b X H00 go) {idx : Nat} (hr : m_putf go j pc len idx L st h = some r) (hdg : decode (m_code j) pc = .ok (.putfield idx, len)) : m_at l D cI cC b X H00 j pc L st h r := by
  unfold m_putf at hr
  split at hr
  next v a rest e ci k nest hf =>
    split at hr
    next c2 fs hg =>
      split at hr
      next h0 =>
        obtain ⟨h3, h4, hkl, hfit, hfin⟩ := h0
        subst h3
        subst h4
        obtain ⟨rfl, hci, hk, hdecl, hw⟩ := m_findF_ok hf
        obtain ⟨hn, hfi⟩ := m_fit_ok (b := b) (base := H00.size) hfit
        refine m_step (hgo _ _ _ _ _ _ hr) m_set_len fun p e2 R s m args below meth c H locs cells slots Q ls hcx hhp hlo _ _ kk => ?_
        simp only [m_set_len0.1, m_set_len0.2, Nat.add_zero] at kk
        obtain ⟨hx, hb, hml, hown, hts, hnw, hfr, hlo2, hK, hX, hbl, hname⟩ := hcx
        have he := m_at_of (b := b) (cI := cI) (cC := cC) (base := H00.size) hg
        have hc := m_cls_at hci
        have hap := va_apart (own := "") hts (m_lay_in hci) (fun k => ((m_tys[c2]?.getD [])[k]?).getD .int) (m_ty_of hci) (m_nm_of hci) hK hc
        obtain ⟨q, hq1, cell, q1, q2, q3, q4⟩ := hhp.1 a _ he
        have hqe : q = ((m_clsQ c2).1, (m_clsQ c2).2.1, (m_clsQ c2).2.2) := Option.some.inj (hq1.symm.trans hc)
        subst hqe
        obtain ⟨hS, hfc, kC, hkC, hkind⟩ := hK.1 c2 _ hc
        obtain ⟨cf, kf, fi, f, hi, hsl⟩ := hS k hk
        have hlay := hts _ (m_lay_in hci _ (u_in_lay hk))
        have hst := (u_facts hfc hkC (u_lays hts (m_lay_in hci) hk) hi).1
        have hsame : s.fieldFound? (m_clsQ c2).1 ((m_clsQ c2).2.1 k).2.1 ((m_clsQ c2).2.1 k).2.2.1 = some (cf, kf, fi, f) := by
          rw [← hdecl]
          exact hi
        have hlt : f.slot < cell.slots.size := by
          rw [hsl]
          exact k2_hasslot (q4 k hk)
        have hfits := u_fits hfc hkC hkind (u_lays hts (m_lay_in hci) hk) hi (m_ty_of hci k hk) hn hfi
        have hfin2 : hasFlag f.accessFlags Acc.final = false ∨ (m.cls = cf ∧ meth.name = "<init>") := by
          rcases hfin with z | ⟨z1, z2, z3⟩
          · unfold u_lay at hlay
            rw [if_neg (by rw [z]; decide)] at hlay
            exact Or.inl (u_store hfc hkC hkind hlay hi (m_ty_of hci k hk) hn hfi).1
          · cases hz : ((m_clsQ c2).2.1 k).2.2.2 with
            | false =>
              unfold u_lay at hlay
              rw [if_neg (by rw [hz]; decide)] at hlay
              exact Or.inl (u_store hfc hkC hkind hlay hi (m_ty_of hci k hk) hn hfi).1
            | true =>
              unfold u_lay at hlay
              rw [if_pos hz] at hlay
              refine Or.inr ⟨?_, hname z2⟩
              obtain ⟨_, _, c', _, _, _, -, -, hf', -, -, -, hown2, -⟩ := Cond.laysFinal_spec hlay
              have e1 : c' = cf := by
                have := hi.symm.trans hf'
                simp at this
                exact this.1.symm
              rw [hdecl, z3] at hown2
              rw [← e1]
              exact Option.some.inj (hown.symm.trans hown2)
        have hat : va_at D m_cls (H00.size + a, m_cell H00.size b cI cC (.inr (c2, fs.set k v))) (H.setIfInBounds (H00.size + a) (cell.setSlot f.slot (m_rv H00.size b v))) := by
          refine ⟨_, hc, t_OB.to (V := updV (vp_V (fs.map (m_rv H00.size b))) k (m_rv H00.size b v)) ⟨cell.setSlot f.slot (m_rv H00.size b v), ?_, q2, q3, ?_⟩ fun i _ => ?_⟩
          · have hl : H00.size + a < H.size := (Array.getElem?_eq_some_iff.mp q1).1
            simp [Array.getElem?_setIfInBounds, hl]
          · rw [hsl]
            exact t_set q4 hap hk _
          · show updV _ k _ i = vp_V ((fs.set k v).map (m_rv H00.size b)) i
            rw [List.map_set]
            exact vp_updV_set (by rw [List.length_map]; exact hkl) _ i
        have hh2 := m_hp_set (k := f.slot) hhp hg hat (by simp) (fun q hq => by simp [Array.getElem?_setIfInBounds, Ne.symm hq])
        have hfs : s.fitsSlot cell.cls cell.vm f.slot (m_rv H00.size b v) = true := by
          rw [q2, q3]
          exact hfits.2
        cases nest with
        | true => exact va_Wputf hx hb hown (va_Nw.use rfl (hnw _ (m_in_nw hw rfl))) hsame hst hfin2 q1 (by rw [q3]; exact fun h => by cases h) hlt hfits.1 hfs rfl rfl hdg (kk _ _ ls hh2 hlo)
        | false => exact W.putf hx hb hown (hts _ (m_in_tg hw rfl)) hsame hst hfin2 q1 (by rw [q3]; exact fun h => by cases h) hlt hfits.1 hfs rfl rfl hdg (kk _ _ ls hh2 hlo)
      next => cases hr
    next => cases hr
  next => cases hr
/-- a new cell -/
theorem m_hp_new {H H1 : Heap} {locs : List Loc} {n : Nat} {c1 : mC} (hh : m_hp D cI cC b H00 h H locs) (he : va_at D m_cls (H.size, m_cell H00.size b cI cC c1) H1) (z : H1.size = H.size + 1) (oq : ∀ q : Nat, q < H.size → H1[q]? = H[q]?) : m_hp D cI cC b H00 (m_new h c1 n) H1 locs := by
  obtain ⟨h1, h2, h3⟩ := hh
  refine ⟨?_, ?_, ⟨by rw [z]; exact Nat.le_succ_of_le h3.1, fun q g1 g2 => (oq q (Nat.lt_of_lt_of_le g1 h3.1)).trans (h3.2.1 q g1 g2), h3.2.2⟩⟩
  · show va_P D m_cls (m_ws H00.size b cI cC (h.1 ++ [c1])) H1
    rw [m_ws_push, ← h2]
    refine (h1.kept fun k x hx => oq x.1 ((h1 k x hx).lt)).app fun k x hx => ?_
    have hz : k < 1 := (List.getElem?_eq_some_iff.mp hx).1
    rw [show k = 0 by omega] at hx
    cases hx
    exact he
  · show H1.size = H00.size + (h.1 ++ [c1]).length
    rw [z, h2, List.length_append, List.length_singleton]
    omega
theorem m_new_len {n : Nat} {c1 : mC} : h.1.length ≤ (m_new h c1 n).1.length ∧ h.2 ≤ (m_new h c1 n).2 := by
  unfold m_new
  rw [List.length_append]
  exact ⟨Nat.le_add_right _ _, Nat.le_add_right _ _⟩
theorem m_new_len1 {n : Nat} {c1 : mC} : (m_new h c1 n).1.length - h.1.length = 1 ∧ (m_new h c1 n).2 - h.2 = n := by
  unfold m_new
  rw [List.length_append, List.length_singleton]
  exact ⟨by omega, by omega⟩
theorem sd_newa (hgo : m_SG l D cI cC b X H00 go) {ch : Bool} (hr : m_newa go ch j pc len L st h = some r) (hdg : decode (m_code j) pc = .ok (.newarray (if ch = true then .char else .int), len)) : m_at l D cI cC b X H00 j pc L st h r := by
  unfold m_newa at hr
  split at hr
  next n rest =>
    split at hr
    next h0 =>
      obtain ⟨h3, h4, h5⟩ := h0
      subst h3
      refine m_step (hgo _ _ _ _ _ _ hr) m_new_len fun p e R s m args below meth c H locs cells slots Q ls hcx hhp hlo hc1 hc2 kk => ?_
      simp only [m_new_len1.1, m_new_len1.2] at kk hc1 hc2
      obtain ⟨hx, hb, hml, hown, hts, hnw, hfr, hlo2, hK, -⟩ := hcx
      cases ch with
      | true =>
        refine va_newaK (atype := .char) hx hb (hts _ (m_sys (w := .arrayClass .char) (by simp [m_sysw]) rfl)) rfl hdg rfl h4 rfl (Nat.le_trans (Nat.mul_le_mul_right _ h5) (Nat.le_of_ble_eq_true rfl)) hc1 hc2 rfl fun H1 cA e1 z1 o1 hAr hNm => ?_
        have hcA : cA = cC := by
          have h7 : s.vm.findClass ("[" ++ (FieldType.char).toString) = some cC := (hK.2 1 _ rfl).2
          exact Option.some.inj (hNm.symm.trans h7)
        subst hcA
        have := kk H1 locs ls (m_hp_new hhp (by show H1[H.size]? = some (vp_cell _ _); rw [e1]; rfl) z1 o1) hlo
        rw [List.map_cons] at this
        rw [hhp.2.1]
        exact this
      | false =>
        refine va_newaK (atype := .int) hx hb (hts _ (m_sys (w := .arrayClass .int) (by simp [m_sysw]) rfl)) rfl hdg rfl h4 rfl (Nat.le_trans (Nat.mul_le_mul_right _ h5) (Nat.le_of_ble_eq_true rfl)) hc1 hc2 rfl fun H1 cA e1 z1 o1 hAr hNm => ?_
        have hcA : cA = cI := by
          have h7 : s.vm.findClass ("[" ++ (FieldType.int).toString) = some cI := (hK.2 0 _ rfl).2
          exact Option.some.inj (hNm.symm.trans h7)
        subst hcA
        have := kk H1 locs ls (m_hp_new hhp (by show H1[H.size]? = some (vp_cell _ _); rw [e1]; rfl) z1 o1) hlo
        rw [List.map_cons] at this
        rw [hhp.2.1]
        exact this
    next => cases hr
  next => cases hr
theorem m_dv_ok : (m_tys.all fun t => t.all fun ty => decide (defaultValue ty = .int 0) || decide (defaultValue ty = .null)) = true := by decide +kernel
theorem m_df_at {base ci : Nat} (hci : ci < m_cls.length) (i : Nat) (hi : i < (m_clsQ ci).2.2) : defaultValue (((m_tys[ci]?.getD [])[i]?).getD .int) = vp_V ((m_df ci).map (m_rv base b)) i := by
  have key : ∀ c, c < m_cls.length → (m_clsQ c).2.2 = (m_tys[c]?.getD []).length := by decide +kernel
  have hl : i < (m_tys[ci]?.getD []).length := by rw [← key ci hci]; exact hi
  unfold vp_V m_df
  rw [List.getD_eq_getElem?_getD, List.getElem?_map, List.getElem?_map, List.getElem?_eq_getElem hl]
  show defaultValue _ = m_rv base b (defaultValue _)
  have hm : (m_tys[ci]?.getD [])[i] ∈ m_tys[ci]?.getD [] := List.getElem_mem hl
  have hm2 : m_tys[ci]?.getD [] ∈ m_tys := by
    have hc : ci < m_tys.length := hci
    rw [List.getElem?_eq_getElem hc]
    exact List.getElem_mem hc
  have h1 := List.all_eq_true.mp (List.all_eq_true.mp m_dv_ok _ hm2) _ hm
  simp only [Bool.or_eq_true, decide_eq_true_eq] at h1
  show defaultValue ((m_tys[ci]?.getD [])[i]) = m_rv base b (defaultValue ((m_tys[ci]?.getD [])[i]))
  rcases h1 with h1 | h1 <;> rw [h1] <;> rfl
theorem sd_newo (hgo : m_SG l D cI cC b X H00 go) {idx : Nat} (hr : m_newo go j pc len idx L st h = some r) (hdg : decode (m_code j) pc = .ok (.new idx, len)) : m_at l D cI cC b X H00 j pc L st h r := by
  unfold m_newo at hr
  split at hr
  next e ci hf =>
    split at hr
    next h3 =>
      subst h3
      obtain ⟨rfl, hci, hw⟩ := m_findK_ok hf
      refine m_step (hgo _ _ _ _ _ _ hr) m_new_len fun p e2 R s m args below meth c H locs cells slots Q ls hcx hhp hlo hc1 hc2 kk => ?_
      simp only [m_new_len1.1, m_new_len1.2] at kk hc1 hc2
      obtain ⟨hx, hb, hml, hown, hts, hnw, hfr, hlo2, hK, -⟩ := hcx
      have hc := m_cls_at hci
      have hKn := hK.1 ci _ hc
      refine W.newcK hx hb hown (hts _ (m_in_tg (hw (.classLink (m_ownS (m_own j)) e (m_clsQ ci).1) (by simp [m_kw])) rfl)) (hts _ (m_in_tg (hw (.instantiable (m_clsQ ci).1 (m_clsQ ci).2.2) (by simp [m_kw])) rfl)) (hts _ (m_in_tg (hw (.initialized (m_clsQ ci).1) (by simp [m_kw])) rfl)) rfl hdg hc1 hc2 hKn.2.1 rfl fun H1 kC hkC e1 z1 o1 => ?_
      have hat : va_at D m_cls (H.size, m_cell H00.size b cI cC (.inr (ci, m_df ci))) H1 := by
        refine ⟨_, hc, (u_born (fun k => ((m_tys[ci]?.getD [])[k]?).getD .int) hts (m_lay_in hci) hKn hkC e1 (m_ty_of hci)).to fun i hi => ?_⟩
        exact m_df_at hci i hi
      have := kk H1 locs ls (m_hp_new hhp hat z1 o1) hlo
      rw [List.map_cons] at this
      rw [hhp.2.1]
      exact this
    next => cases hr
  next => cases hr
end SNF
end
section
section SNG
variable {l : Launch} {D : va_G} {cI cC : ClassId} {b : Nat} {X : mX} {H00 : Heap} {go : mG} {j pc len : Nat} {L : mL} {st : List Value} {h : mH} {r : mR}
theorem m_nonneg {z : Int32} (hz : ¬ z < 0) : z.toInt = (z.toNatClampNeg : Int) := by
  have h0 : (0 : Int) ≤ z.toInt := by
    have := Int32.not_lt.mp hz
    simpa using Int32.le_iff_toInt_le.mp this
  show z.toInt = ((z.toInt.toNat : Nat) : Int)
  omega
theorem m_room {j : Nat} {R : Room} (h1 : 1 ≤ m_fr j) (h2 : 28 * m_fr j + 18 ≤ R.locals) {n k : Nat} (hn : n ≤ 8) (hk : k ≤ 18) : n + k ≤ R.locals := by omega
theorem sd_copy (hgo : m_SG l D cI cC b X H00 go) {idx e kind j2 : Nat} {n dp sp : Int32} {a a0 n0 n1 : Nat} {f g : Nat → Int32} {rest : List Value} (hf : m_findM (m_own j) idx = some (e, kind, j2)) (hkind : kind = 5) (hg0 : m_get h a0 = some (.inl (false, n0, f))) (hg1 : m_get h a = some (.inl (false, n1, g)))
    (h0 : len = 3 ∧ ¬ sp < 0 ∧ ¬ dp < 0 ∧ ¬ n < 0 ∧ sp.toNatClampNeg + n.toNatClampNeg ≤ n0 ∧ dp.toNatClampNeg + n.toNatClampNeg ≤ n1 ∧ rest.length ≤ 8 ∧ rest.all m_c1 = true ∧ 1 ≤ m_fr j)
    (hr : go j (pc + 3) L rest (m_set h a (.inl (false, n1, va_cpy f g sp.toNatClampNeg dp.toNatClampNeg n.toNatClampNeg))) = some r) (hdg : decode (m_code j) pc = .ok (.invokestatic idx, len)) : m_at l D cI cC b X H00 j pc L (.int n :: .int dp :: .ref a :: .int sp :: .ref a0 :: rest) h r := by
  subst hkind
  obtain ⟨h3, h1, h2, h4, h5, h6, h7, h8, h9⟩ := h0
  subst h3
  obtain ⟨rfl, hw, -⟩ := m_findM_ok hf
  refine m_step (hgo _ _ _ _ _ _ hr) m_set_len fun p e2 R s m args below meth c H locs cells slots Q ls hcx hhp hlo _ _ kk => ?_
  simp only [m_set_len0.1, m_set_len0.2, Nat.add_zero] at kk
  obtain ⟨hx, hb, hml, hown, hts, hnw, hfr, hlo2, hK, hX, hbl, hname⟩ := hcx
  have he0 := hhp.1 a0 _ (m_at_of (b := b) (cI := cI) (cC := cC) (base := H00.size) hg0)
  have he1 := hhp.1 a _ (m_at_of (b := b) (cI := cI) (cC := cC) (base := H00.size) hg1)
  have hc0 : H[H00.size + a0]? = some (vp_cell cI (n0, .inl f)) := he0
  have hc1 : H[H00.size + a]? = some (vp_cell cI (n1, .inl g)) := he1
  obtain ⟨-, k0, hk0, cm0, hkk0⟩ := (hK.2 0 _ rfl).1 n0 (fun j => .int (f j))
  obtain ⟨-, k1, hk1, cm1, hkk1⟩ := (hK.2 0 _ rfl).1 n1 (fun j => .int (g j))
  intro T hT Xs
  obtain ⟨vm', X', step⟩ := Xs.arraycopy hx hown (hts _ (m_in_tg (hw (.methodLink (m_ownS (m_own j)) e arraycopyName) (by simp [m_mws])) rfl))
    (hts _ (m_sys (w := .native arraycopyName) (by simp [m_sysw]) rfl)) (hts _ (m_sys (w := .static arraycopyName) (by simp [m_sysw]) rfl)) (hts _ (m_sys (w := .initialized "java/lang/System") (by simp [m_sysw]) rfl))
    (src := H00.size + a0) (dst := H00.size + a) (cs := vp_cell cI (n0, .inl f)) (cd := vp_cell cI (n1, .inl g)) (srcPos := sp) (destPos := dp) (n := n) (by rw [hT]; exact hc0) (by rw [hT]; exact hc1)
    (fun _ h => by cases h) (fun _ h => by cases h) (fun h => by cases h) (fun h => by cases h) hk0 hk1 hkk0 hkk1 rfl h1 h2 h4
    (by rw [m_nonneg h1, m_nonneg h4]; show ¬ _ > ((arrV cI n0 (fun j => .int (f j))).slots.size : Int); rw [arrV_size]; omega)
    (by rw [m_nonneg h2, m_nonneg h4]; show ¬ _ > ((arrV cI n1 (fun j => .int (g j))).slots.size : Int); rw [arrV_size]; omega)
    (fun vm₁ _ i hi => by
      have e9 : (vp_cell cI (n0, .inl f)).slots.getD (sp.toNatClampNeg + i) .null = .int (f (sp.toNatClampNeg + i)) := by
        show (arrV cI n0 (fun j => .int (f j))).slots.getD _ _ = _
        rw [Array.getD_eq_getD_getElem?, arrV_read _ _ (by omega)]
        rfl
      refine ⟨?_, ?_⟩
      · rw [e9]
        rfl
      · rw [e9]
        exact trivial)
    (g := F0 m pc ls ((.int n :: .int dp :: .ref a :: .int sp :: .ref a0 :: rest : List Value).map (m_rv H00.size b))) rfl (by show ls.size = _; rw [hml, ← hlo.2.1.1]) (rest := rest.map (m_rv H00.size b)) rfl (by rw [hb]; exact hdg) (Nat.le_trans h9 hfr)
    (by show 2 * 0 + ((rest.map (m_rv H00.size b)).map fun v => v.category).sum + 18 ≤ _; rw [m_cats h8]; have := m_room h9 hlo2 h7 (Nat.le_refl 18); omega)
  have e1 : copied (vp_cell cI (n0, .inl f)) (vp_cell cI (n1, .inl g)) sp dp n = vp_cell cI (n1, .inl (va_cpy f g sp.toNatClampNeg dp.toNatClampNeg n.toNatClampNeg)) := va_copied (fun z => .int z) cI cI f g h5
  rw [e1] at X' step
  have hl : H00.size + a < H.size := (Array.getElem?_eq_some_iff.mp hc1).1
  have hP2 : va_P D m_cls (m_ws H00.size b cI cC (m_set h a (.inl (false, n1, va_cpy f g sp.toNatClampNeg dp.toNatClampNeg n.toNatClampNeg))).1) (H.setIfInBounds (H00.size + a) (vp_cell cI (n1, .inl (va_cpy f g sp.toNatClampNeg dp.toNatClampNeg n.toNatClampNeg)))) := by
    show va_P D m_cls (m_ws H00.size b cI cC (h.1.set a _)) _
    rw [m_ws_set]
    refine hhp.1.set m_ws_D (m_at_of hg1) ?_ (fun q hq => by simp [Array.getElem?_setIfInBounds, Ne.symm hq])
    show (H.setIfInBounds (H00.size + a) _)[H00.size + a]? = some _
    simp [Array.getElem?_setIfInBounds, hl]
  obtain ⟨t, a1, b1⟩ := kk _ (locs ++ ((vp_cell cI (n0, .inl f)).stretch sp.toNatClampNeg n.toNatClampNeg).zipIdx.map fun q => ⟨H00.size + a, dp.toNatClampNeg + q.2⟩) ls
    ⟨hP2, by rw [Array.size_setIfInBounds, hhp.2.1]; show _ = H00.size + (h.1.set a _).length; rw [List.length_set],
     ⟨by rw [Array.size_setIfInBounds]; exact hhp.2.2.1, fun q g1 g2 => by
        have hne : q ≠ H00.size + a := by omega
        simp only [Array.getElem?_setIfInBounds, Ne.symm hne, if_false]
        exact hhp.2.2.2.1 q g1 g2, fun q hq => by
        rcases List.mem_append.mp hq with hq | hq
        · exact hhp.2.2.2.2 q hq
        · obtain ⟨z, -, hz⟩ := List.mem_map.mp hq
          rw [← hz]
          exact Nat.le_add_right _ _⟩⟩ hlo _ (by rw [← hT]; rfl) X'
  exact ⟨t, step t a1, b1⟩
theorem sd_math (hgo : m_SG l D cI cC b X H00 go) {idx e kind j2 : Nat} {x y : Int32} {rest : List Value} (hf : m_findM (m_own j) idx = some (e, kind, j2)) (hkind : kind = 6 ∨ kind = 7) (h0 : len = 3 ∧ rest.length ≤ 8 ∧ rest.all m_c1 = true ∧ 1 ≤ m_fr j)
    (hr : go j (pc + 3) L (.int (if kind = 6 then (if x < y then y else x) else (if y < x then y else x)) :: rest) h = some r) (hdg : decode (m_code j) pc = .ok (.invokestatic idx, len)) : m_at l D cI cC b X H00 j pc L (.int y :: .int x :: rest) h r := by
  obtain ⟨h3, h7, h8, h9⟩ := h0
  subst h3
  obtain ⟨rfl, hw, -⟩ := m_findM_ok hf
  refine m_stepS (hgo _ _ _ _ _ _ hr) fun p e2 R s m args below meth c H locs cells slots Q ls hcx hhp hlo hc1 hc2 kk => ?_
  obtain ⟨hx, hb, hml, hown, hts, hnw, hfr, hlo2, hK, hX, hbl, hname⟩ := hcx
  have hr13 : ((rest.map (m_rv H00.size b)).map fun v => v.category).sum + 13 ≤ R.locals := by rw [m_cats h8]; exact m_room h9 hlo2 h7 (by omega)
  have hls : c.maxLocals = ls.size := by rw [hml, ← hlo.2.1.1]
  rcases hkind with rfl | rfl
  · exact va_mmax hx hb hls hown (hts _ (m_in_tg (hw (.methodLink (m_ownS (m_own j)) e Lib.Math.max.name) (by simp [m_mws])) rfl)) (hts _ (m_sys (w := .static Lib.Math.max.name) (by simp [m_sysw]) rfl)) (hts _ (m_sys (w := .initialized "java/lang/Math") (by simp [m_sysw]) rfl)) (hts _ (m_sys (w := .code Lib.Math.max.name Lib.Math.max.code 2 (some .int)) (by simp [m_sysw]) rfl)) (Nat.le_trans h9 hfr) hr13 hc1 hc2 hdg (kk ls hlo)
  · exact va_mmin hx hb hls hown (hts _ (m_in_tg (hw (.methodLink (m_ownS (m_own j)) e Lib.Math.min.name) (by simp [m_mws])) rfl)) (hts _ (m_sys (w := .static Lib.Math.min.name) (by simp [m_sysw]) rfl)) (hts _ (m_sys (w := .initialized "java/lang/Math") (by simp [m_sysw]) rfl)) (hts _ (m_sys (w := .code Lib.Math.min.name Lib.Math.min.code 2 (some .int)) (by simp [m_sysw]) rfl)) (Nat.le_trans h9 hfr) hr13 hc1 hc2 hdg (kk ls hlo)
theorem sd_obj (hgo : m_SG l D cI cC b X H00 go) {idx e kind j2 a : Nat} {rest : List Value} (hf : m_findM (m_own j) idx = some (e, kind, j2)) (hkind : kind = 4) (h0 : len = 3 ∧ rest.length ≤ 8 ∧ rest.all m_c1 = true ∧ 1 ≤ m_fr j)
    (hr : go j (pc + 3) L rest h = some r) (hdg : decode (m_code j) pc = .ok (.invokespecial idx, len)) : m_at l D cI cC b X H00 j pc L (.ref a :: rest) h r := by
  subst hkind
  obtain ⟨h3, h7, h8, h9⟩ := h0
  subst h3
  obtain ⟨rfl, hw, -⟩ := m_findM_ok hf
  refine m_stepS (hgo _ _ _ _ _ _ hr) fun p e2 R s m args below meth c H locs cells slots Q ls hcx hhp hlo hc1 hc2 kk => ?_
  obtain ⟨hx, hb, hml, hown, hts, hnw, hfr, hlo2, hK, hX, hbl, hname⟩ := hcx
  have hr12 := m_room h9 hlo2 h7 (show 12 ≤ 18 by omega)
  refine W.objInit hx hb hown (hts _ (m_in_tg (hw (.methodLink (m_ownS (m_own j)) e objectInit) (by simp [m_mws])) rfl)) (hts _ (m_sys (w := .instanceMethod objectInit) (by simp [m_sysw]) rfl)) (hts _ (m_sys (w := .code objectInit ⟨#[0xb1]⟩ 1 none) (by simp [m_sysw]) rfl)) (g := F0 m pc ls ((.ref a :: rest : List Value).map (m_rv H00.size b))) rfl (by show ls.size = _; rw [hml, ← hlo.2.1.1]) (a := H00.size + a) (rest := rest.map (m_rv H00.size b)) rfl hdg (Nat.le_trans h9 hfr) (by show 2 * 0 + ((rest.map (m_rv H00.size b)).map fun v => v.category).sum + 12 ≤ _; rw [m_cats h8]; omega) ?_
  exact kk ls hlo
def m_Pc (D : va_G) (cI cC : ClassId) (b : Nat) (X : mX) (H00 : Heap) (as : List Value) (h : mH) : Array Value → State → Prop := fun v U =>
  v = (as.map (m_rv H00.size b)).toArray ∧ m_hp D cI cC b H00 h U.heap [] ∧ va_K D m_cls [(cI, .int), (cC, .char)] U ∧ va_X b X.1 X.2 U H00 ∧ (∀ w ∈ m_nw, va_Nw w U) ∧ b < H00.size
def m_Qc (D : va_G) (cI cC : ClassId) (b : Nat) (H00 : Heap) (v : Option Value) (h1 : mH) : Array Value → State → Outcome → State → Prop := fun _ _ o t =>
  o = .returned (v.map (m_rv H00.size b)) ∧ m_hp D cI cC b H00 h1 t.heap []
theorem m_hp_nil {H : Heap} {locs : List Loc} (hh : m_hp D cI cC b H00 h H locs) : m_hp D cI cC b H00 h H [] := ⟨hh.1, hh.2.1, hh.2.2.1, hh.2.2.2.1, fun q hq => by cases hq⟩
theorem m_nw_warm {s U : State} (hW : s.WarmedH U.vm) (hn : ∀ w ∈ m_nw, va_Nw w s) : ∀ w ∈ m_nw, va_Nw w U := by
  intro w hw
  have h1 := hn w hw
  have h2 : m_isnest w = true := (List.mem_filter.mp hw).2
  cases w <;> first | exact va_Nw.warmF hW h1 | exact va_Nw.warmM hW h1 | (simp [m_isnest] at h2)
theorem m_nw_tab {w : Cond} (hw : w ∈ m_nw) : w.onTables = true := by
  have h2 : m_isnest w = true := (List.mem_filter.mp hw).2
  cases w <;> first | rfl | (simp [m_isnest] at h2)
theorem m_Pc_blind {as : List Value} : FrameBlind (m_Pc D cI cC b X H00 as h) := by
  intro a U g mk q
  obtain ⟨q0, q1, q2, q3, q4, q5⟩ := q
  exact ⟨q0, q1, va_K.moved (u := U) (U := U.calling g mk a) (Vm.Alike.refl U.vm) q2, va_X.moved (u := U) (U := U.calling g mk a) (Vm.Alike.refl U.vm) q3, fun w hw => va_Nw.same (m_nw_tab hw) (u := U) (U := U.calling g mk a) rfl (q4 w hw), q5⟩
abbrev m_rm (j mc ms : Nat) : Room := { frames := m_fr j, cells := mc, slots := ms, locals := 28 * m_fr j + 18 }
/-- a method's contract, out of its body's soundness -/
theorem m_met {as : List Value} {v : Option Value} {h1 : mH} (hA : m_at l D cI cC b X H00 j 0 (m_entry j as) [] h (v, h1)) (hj : j < 292) (hne : (m_y j).cls ≠ "java/lang/Math") (has : as.all m_c1 = true) (hlen : as.length ≤ m_nl j) :
    Met l (m_y j) (m_cwj j :: m_tg) (m_rm j (h1.1.length - h.1.length) (h1.2 - h.2)) (m_Pc D cI cC b X H00 as h) (m_Qc D cI cC b H00 v h1) (h1.1.length - h.1.length) (h1.2 - h.2) (m_A H00.size) := by
  obtain ⟨hl1, hl2, hW⟩ := hA
  have hjo := m_jok_at hj
  refine Met.ofW (cc := m_code j) (maxL := m_nl j) (ret := m_ret j) (hjo.2.2.2.2.2 hne) rfl ?_
  intro p e s m args below meth c s₁ B hml hv
  obtain ⟨rfl, hhp, hK, hX, hnw, hbl⟩ := hv
  have hts0 := atoms_spec (ws := m_cwj j :: m_tg) B.pre
  have hown : s.vm.findClass (m_y j).cls = some m.cls := findClass_of_methodNamed B.named
  have hname : meth.name = (m_y j).name := (name_of_methodNamed B.named B.method).1
  rw [lg_entry_eq]
  have hlo := m_entry_lo (base := H00.size) (b := b) has hlen
  generalize ((lg_sl (as.map (m_rv H00.size b)) ++ List.replicate (m_nl j - (lg_sl (as.map (m_rv H00.size b))).length) Slot.unset).toArray) = ls at hlo ⊢
  refine hW p e _ s m _ below meth c s.heap [] 0 0 _ ls h.1.length h.2 ⟨B.exec, B.bytes, hml, by rw [hjo.1]; exact hown, fun w hw => hts0 w (List.mem_cons_of_mem _ hw), hnw, Nat.le_refl _, Nat.le_refl _, hK, hX, hbl, fun z => hname.trans z⟩ hhp hlo (Nat.zero_add _) (Nat.zero_add _) (by show h1.1.length ≤ h.1.length + (h1.1.length - h.1.length); have h9 : h.1.length ≤ h1.1.length := hl1; omega) (by show h1.2 ≤ h.2 + (h1.2 - h.2); have h9 : h.2 ≤ h1.2 := hl2; omega) ?_
  intro H' locs' cells' slots' ls' pc' e1 e2 hhp' hrok
  have e1' : cells' = h1.1.length - h.1.length := by have : cells' + h.1.length = h1.1.length := e1; omega
  have e2' : slots' = h1.2 - h.2 := by have : slots' + h.2 = h1.2 := e2; omega
  subst e1'
  subst e2'
  have hlocks := B.notSynchronized
  have hq : ∀ o, o = Outcome.returned (v.map (m_rv H00.size b)) → ∀ t : State, t.heap = H' → s.WarmedH t.vm → m_Qc D cI cC b H00 v h1 (as.map (m_rv H00.size b)).toArray s o t := fun o ho t ht _ => ⟨ho, by rw [ht]; exact m_hp_nil hhp'⟩
  cases v with
  | none =>
    obtain ⟨hd, hret⟩ : decode (m_code j) pc' = .ok (.return_, 1) ∧ m_ret j = none := hrok
    exact W.vret B.exec B.bytes (by rw [B.returns]; exact hret) (hq _ rfl) hhp'.2.2.2.2 hd hlocks
  | some w =>
    cases w with
    | int x =>
      obtain ⟨hd, hret⟩ : decode (m_code j) pc' = .ok (.ireturn, 1) ∧ (m_ret j = some .int ∨ (m_ret j = some .boolean ∧ (x = 0 ∨ x = 1))) := hrok
      rcases hret with hret | ⟨hret, hx⟩
      · exact W.iret B.exec B.bytes (by rw [B.returns]; exact hret) (hq _ rfl) hhp'.2.2.2.2 hd hlocks
      · refine W.zret (ty := .boolean) B.exec B.bytes (by rw [B.returns]; exact hret) ?_ (hq _ rfl) hhp'.2.2.2.2 hd hlocks
        rcases hx with rfl | rfl <;> rfl
    | ref a =>
      obtain ⟨hd, hret⟩ : decode (m_code j) pc' = .ok (.areturn, 1) ∧ m_ret j = some (.array .int) := hrok
      exact W.aret B.exec B.bytes (by rw [B.returns]; exact hret) (Or.inr ⟨_, rfl⟩) (Or.inr ⟨_, rfl⟩) (hq _ rfl) hhp'.2.2.2.2 hd hlocks
    | _ => exact False.elim hrok
end SNG
end
section
section SNH
variable {l : Launch} {D : va_G} {cI cC : ClassId} {b : Nat} {X : mX} {H00 : Heap} {go : mG} {j pc len : Nat} {L : mL} {st : List Value} {h : mH} {r : mR}
theorem m_call_at {j2 : Nat} {as rest : List Value} (hr : m_call go j pc len j2 as rest L h = some r) : len = 3 ∧ rest.length ≤ 8 ∧ rest.all m_c1 = true ∧ as.all m_c1 = true ∧ as.length ≤ m_nl j2 ∧ m_fr j2 + 1 ≤ m_fr j ∧
    ∃ v h1, go j2 0 (m_entry j2 as) [] h = some (v, h1) ∧ go j (pc + 3) L (v.toList ++ rest) h1 = some r := by
  unfold m_call at hr
  split at hr
  next h0 =>
    split at hr
    next v h1 hv => exact ⟨h0.1, h0.2.1, h0.2.2.1, h0.2.2.2.1, h0.2.2.2.2.1, h0.2.2.2.2.2, v, h1, hv, hr⟩
    next => cases hr
  next => cases hr
/-- behind a call that ran -/
theorem m_ran {v : Option Value} {h1 : mH} {rest as : List Value} {st0 : List Value} (hA : h.1.length ≤ h1.1.length ∧ h.2 ≤ h1.2) (hB : m_at l D cI cC b X H00 j (pc + 3) L (v.toList ++ rest) h1 r)
    (hrun : ∀ (p : Program) (e : Env) (R : Room) (s : State) (m : MethodId) (args : Array Value) (below : List Frame) (meth : Method) (c : Code) (H : Heap) (locs : List Loc) (cells slots : Nat) (ls : Array Slot),
      m_cx D cI cC b X H00 p R s m args meth c j → m_hp D cI cC b H00 h H locs → m_lo H00.size b (m_nl j) ls L → cells + (h1.1.length - h.1.length) ≤ R.cells → slots + (h1.2 - h.2) ≤ R.slots →
      va_Run p l e R s m args below meth c H locs cells slots (h1.1.length - h.1.length) (h1.2 - h.2) (F0 m pc ls (st0.map (m_rv H00.size b))) (rest.map (m_rv H00.size b)) (m_Qc D cI cC b H00 v h1 (as.map (m_rv H00.size b)).toArray) (m_A H00.size)) :
    m_at l D cI cC b X H00 j pc L st0 h r := by
  refine m_step hB hA fun p e R s m args below meth c H locs cells slots Q ls hcx hhp hlo hc1 hc2 kk => ?_
  intro T hT Xs
  obtain ⟨v2, st₀, t, T', L2, h0, X', hL, e1, e2, ⟨hq1, hq2⟩, gs⟩ := hrun p e R s m args below meth c H locs cells slots ls hcx hhp hlo hc1 hc2 T hT Xs
  have hv : v2 = v.map (m_rv H00.size b) := by
    cases hq1
    rfl
  subst hv
  have hhp1 : m_hp D cI cC b H00 h1 T'.heap (locs ++ L2) := by
    rw [e1]
    refine ⟨hq2.1, hq2.2.1, hq2.2.2.1, hq2.2.2.2.1, fun q hq => ?_⟩
    rcases List.mem_append.mp hq with hq | hq
    · exact hhp.2.2.2.2 q hq
    · exact hL q hq
  obtain ⟨t2, a1, b1⟩ := kk T'.heap (locs ++ L2) ls hhp1 hlo T' rfl X'
  refine ⟨t2, gs t2 ?_, b1⟩
  have e9 : ((v.map (m_rv H00.size b)).toList ++ rest.map (m_rv H00.size b)) = (v.toList ++ rest).map (m_rv H00.size b) := by cases v <;> rfl
  show Steps p.tables e below (T'.setTop (F0 m (pc + 3) ls ((v.map (m_rv H00.size b)).toList ++ rest.map (m_rv H00.size b)))) t2
  rw [e9]
  exact a1
theorem m_words {o idx kind j2 : Nat} (hj : 0 < j2 ∧ j2 < 292) : ∀ w ∈ m_cwj j2 :: m_tg, w ∈ m_tg := by
  intro w hw
  rcases List.mem_cons.mp hw with rfl | hw
  · exact m_cwj_in hj.1 hj.2
  · exact hw
theorem m_goodIn {j2 : Nat} (hj : 0 < j2 ∧ j2 < 292) : GoodIn m_tg (m_cwj j2 :: m_tg) := by
  intro w hw
  have h1 : w ∈ m_tg := m_words (o := 0) (idx := 0) (kind := 0) hj w hw
  exact ⟨h1, good_of_word (List.mem_filter.mp h1).2⟩
theorem m_lvroom {m : MethodId} {pc : Nat} {ls : Array Slot} {st0 rest : List Value} (h7 : rest.length ≤ 8) (h8 : rest.all m_c1 = true) : 2 * (F0 m pc ls st0).monitorRoom + ((rest.map (m_rv H00.size b)).map fun v => v.category).sum ≤ 8 := by
  refine lv_room ?_
  rw [m_cats h8]
  exact h7
theorem m_pre {s : State} {H : Heap} {locs : List Loc} {as : List Value} {p : Program} {R : Room} {m : MethodId} {args : Array Value} {meth : Method} {c : Code} (hcx : m_cx D cI cC b X H00 p R s m args meth c j) (hhp : m_hp D cI cC b H00 h H locs) :
    ∀ U : State, U.heap = H → s.WarmedH U.vm → m_Pc D cI cC b X H00 as h (as.map (m_rv H00.size b)).toArray U := by
  intro U hU hW
  obtain ⟨hx, hb, hml, hown, hts, hnw, hfr, hlo2, hK, hX, hbl, hname⟩ := hcx
  exact ⟨rfl, by rw [hU]; exact m_hp_nil hhp, va_K.moved hW.alike hK, va_X.moved hW.alike hX, m_nw_warm hW hnw, hbl⟩
theorem m_hR {j2 : Nat} {R : Room} {mc ms : Nat} (h1 : m_fr j2 + 1 ≤ m_fr j) (h2 : m_fr j ≤ R.frames) (h3 : 28 * m_fr j + 18 ≤ R.locals) (h4 : m_nl j2 ≤ 9) : (m_rm j2 mc ms).frames + 1 ≤ R.frames ∧ 8 + (m_nl j2 + 11) + (m_rm j2 mc ms).locals ≤ R.locals := by
  show m_fr j2 + 1 ≤ R.frames ∧ 8 + (m_nl j2 + 11) + (28 * m_fr j2 + 18) ≤ R.locals
  omega
theorem sd_invv (hgo : m_SG l D cI cC b X H00 go) {idx : Nat} (hr : m_invv go j pc len idx L st h = some r) (hdg : decode (m_code j) pc = .ok (.invokevirtual idx, len)) : m_at l D cI cC b X H00 j pc L st h r := by
  unfold m_invv at hr
  split at hr
  next e kind j2 hf =>
    split at hr
    next hk2 =>
      subst hk2
      split at hr
      next a rest hdrop =>
        split at hr
        next ci fs hg =>
          split at hr
          next h0 =>
            obtain ⟨hcl, hci⟩ := h0
            obtain ⟨h3, h7, h8, h9, h10, h11, v, h1, hcall, hnext⟩ := m_call_at hr
            subst h3
            obtain ⟨rfl, hw, -, hj, -⟩ := m_findM_ok hf
            have hj := hj (by omega)
            have hjo := m_jok_at hj.2.1
            have hA := hgo _ _ _ _ _ _ hcall
            have hM := m_met hA hj.2.1 hj.2.2 h9 h10
            have hst : st = ((st.take (m_np j2)).reverse).reverse ++ .ref a :: rest := by rw [List.reverse_reverse, ← hdrop, List.take_append_drop]
            refine m_ran (as := .ref a :: (st.take (m_np j2)).reverse) (rest := rest) ⟨hA.1, hA.2.1⟩ (hgo _ _ _ _ _ _ hnext) fun p e2 R s m args below meth c H locs cells slots ls hcx hhp hlo hc1 hc2 => ?_
            have hcx' := hcx
            obtain ⟨hx, hb, hml, hown, hts, hnw, hfr, hlo2, hK, hX, hbl, hname⟩ := hcx
            have hn : ((st.take (m_np j2)).reverse).length = m_np j2 := by
              rw [List.length_reverse, List.length_take]
              have h12 : (st.drop (m_np j2)).length ≠ 0 := by rw [hdrop]; simp
              rw [List.length_drop] at h12
              omega
            have hrecv := va_recv hK hhp.1 (m_cls_at hci) (m_at_of (b := b) (cI := cI) (cC := cC) (base := H00.size) hg)
            refine va_runV (As := ((st.take (m_np j2)).reverse).map (m_rv H00.size b)) (b := H00.size + a) (C := (m_y j2).cls) ⟨hx, hb, hml, hown, hts⟩ hM
              ⟨callB_of (m_np j2) hts (m_goodIn ⟨hj.1, hj.2.1⟩) rfl rfl rfl (hts _ (m_in_tg (hw (.initialized (m_y j2).cls) (by simp [m_mws])) rfl)) (hts _ (m_in_tg (hw (.methodLink (m_ownS (m_own j)) e (m_y j2)) (by simp [m_mws])) rfl)) ⟨hjo.2.1, hjo.2.2.1, hjo.2.2.2.1⟩ (m_hR h11 hfr hlo2 hjo.2.2.2.2.1),
               hts _ (m_in_tg (hw (.instanceMethod (m_y j2)) (by simp [m_mws])) rfl), hts _ (m_in_tg (hw (.selects (m_y j2).cls (m_y j2) (m_y j2)) (by simp [m_mws])) rfl)⟩
              ⟨m_Pc_blind, ?_, m_pre (as := .ref a :: (st.take (m_np j2)).reverse) hcx' hhp⟩ rfl (by rw [List.length_map]; exact hn) (by show ls.size = _; exact hlo.2.1.1) ?_ (m_lvroom h7 h8) hdg ⟨hc1, hc2⟩
            · obtain ⟨cell, g1, g2, g3⟩ := hrecv
              exact ⟨cell, g1, g2, by rw [← hcl]; exact g3⟩
            · show st.map (m_rv H00.size b) = _
              conv => lhs; rw [hst]
              rw [List.map_append, List.map_reverse, List.map_cons]
              rfl
          next => cases hr
        next => cases hr
      next => cases hr
    next => cases hr
  next => cases hr
theorem sd_invs (hgo : m_SG l D cI cC b X H00 go) {idx : Nat} (hr : m_invs go j pc len idx L st h = some r) (hdg : decode (m_code j) pc = .ok (.invokestatic idx, len)) : m_at l D cI cC b X H00 j pc L st h r := by
  unfold m_invs at hr
  split at hr
  next e kind j2 hf =>
    split at hr
    next hk3 =>
      subst hk3
      split at hr
      next hnp =>
        obtain ⟨h3, h7, h8, h9, h10, h11, v, h1, hcall, hnext⟩ := m_call_at hr
        subst h3
        obtain ⟨rfl, hw, -, hj, -⟩ := m_findM_ok hf
        have hj := hj (by omega)
        have hjo := m_jok_at hj.2.1
        have hA := hgo _ _ _ _ _ _ hcall
        have hM := m_met hA hj.2.1 hj.2.2 h9 h10
        have hst : st = ((st.take (m_np j2)).reverse).reverse ++ st.drop (m_np j2) := by rw [List.reverse_reverse, List.take_append_drop]
        refine m_ran (as := (st.take (m_np j2)).reverse) (rest := st.drop (m_np j2)) ⟨hA.1, hA.2.1⟩ (hgo _ _ _ _ _ _ hnext) fun p e2 R s m args below meth c H locs cells slots ls hcx hhp hlo hc1 hc2 => ?_
        have hcx' := hcx
        obtain ⟨hx, hb, hml, hown, hts, hnw, hfr, hlo2, hK, hX, hbl, hname⟩ := hcx
        have hn : ((st.take (m_np j2)).reverse).length = m_np j2 := by
          rw [List.length_reverse, List.length_take]
          omega
        refine va_runS (As := ((st.take (m_np j2)).reverse).map (m_rv H00.size b)) ⟨hx, hb, hml, hown, hts⟩ hM
          ⟨callB_of (m_np j2) hts (m_goodIn ⟨hj.1, hj.2.1⟩) rfl rfl rfl (hts _ (m_in_tg (hw (.initialized (m_y j2).cls) (by simp [m_mws])) rfl)) (hts _ (m_in_tg (hw (.methodLink (m_ownS (m_own j)) e (m_y j2)) (by simp [m_mws])) rfl)) ⟨hjo.2.1, hjo.2.2.1, hjo.2.2.2.1⟩ (m_hR h11 hfr hlo2 hjo.2.2.2.2.1),
           hts _ (m_in_tg (hw (.static (m_y j2)) (by simp [m_mws])) rfl)⟩
          ⟨m_Pc_blind, m_pre (as := (st.take (m_np j2)).reverse) hcx' hhp⟩ rfl (by rw [List.length_map]; exact hn) (by show ls.size = _; exact hlo.2.1.1) ?_ (m_lvroom h7 h8) hdg ⟨hc1, hc2⟩
        show st.map (m_rv H00.size b) = _
        conv => lhs; rw [hst]
        rw [List.map_append, List.map_reverse]
      next => cases hr
    next =>
      split at hr
      next hk5 =>
        split at hr
        next n dp a sp a0 rest =>
          split at hr
          next n0 f n1 g hg0 hg1 =>
            split at hr
            next h0 => exact sd_copy hgo hf hk5 hg0 hg1 h0 hr hdg
            next => cases hr
          next => cases hr
        next => cases hr
      next =>
        split at hr
        next hk6 =>
          split at hr
          next y x rest =>
            split at hr
            next h0 => exact sd_math hgo hf hk6 h0 hr hdg
            next => cases hr
          next => cases hr
        next => cases hr
  next => cases hr
theorem sd_invi (hgo : m_SG l D cI cC b X H00 go) {idx : Nat} (hr : m_invi go j pc len idx L st h = some r) (hdg : decode (m_code j) pc = .ok (.invokespecial idx, len)) : m_at l D cI cC b X H00 j pc L st h r := by
  unfold m_invi at hr
  split at hr
  next e kind j2 hf =>
    split at hr
    next hk4 =>
      split at hr
      next a rest =>
        split at hr
        next h0 => exact sd_obj hgo hf hk4 h0 hr hdg
        next => cases hr
      next => cases hr
    next =>
      split at hr
      next hk1 =>
        split at hr
        next a rest hdrop =>
          obtain ⟨h3, h7, h8, h9, h10, h11, v, h1, hcall, hnext⟩ := m_call_at hr
          subst h3
          obtain ⟨rfl, hw, -, hj0, hini0⟩ := m_findM_ok hf
          have hj := hj0 (by omega)
          have hini := hini0 hk1
          clear hj0 hini0
          have hjo := m_jok_at hj.2.1
          have hA := hgo _ _ _ _ _ _ hcall
          have hM := m_met hA hj.2.1 hj.2.2 h9 h10
          have hst : st = ((st.take (m_np j2)).reverse).reverse ++ .ref a :: rest := by rw [List.reverse_reverse, ← hdrop, List.take_append_drop]
          refine m_ran (as := .ref a :: (st.take (m_np j2)).reverse) (rest := rest) ⟨hA.1, hA.2.1⟩ (hgo _ _ _ _ _ _ hnext) fun p e2 R s m args below meth c H locs cells slots ls hcx hhp hlo hc1 hc2 => ?_
          have hcx' := hcx
          obtain ⟨hx, hb, hml, hown, hts, hnw, hfr, hlo2, hK, hX, hbl, hname⟩ := hcx
          have hn : ((st.take (m_np j2)).reverse).length = m_np j2 := by
            rw [List.length_reverse, List.length_take]
            have h12 : (st.drop (m_np j2)).length ≠ 0 := by rw [hdrop]; simp
            rw [List.length_drop] at h12
            omega
          have hstack : (F0 m pc ls (st.map (m_rv H00.size b))).stack = (((st.take (m_np j2)).reverse).map (m_rv H00.size b)).reverse ++ .ref (H00.size + a) :: rest.map (m_rv H00.size b) := by
            show st.map (m_rv H00.size b) = _
            conv => lhs; rw [hst]
            rw [List.map_append, List.map_reverse, List.map_cons]
            rfl
          have hR := m_hR (mc := h1.1.length - h.1.length) (ms := h1.2 - h.2) h11 hfr hlo2 hjo.2.2.2.2.1
          have hcw : m_cwj j2 :: m_tg = .code (m_y j2) (m_code j2) (m_nl j2) none :: m_tg := by unfold m_cwj; rw [hini.2]
          rcases (show kind = 0 ∨ kind = 1 by omega) with hk0 | hk0
          · subst hk0
            exact va_runI (As := ((st.take (m_np j2)).reverse).map (m_rv H00.size b)) (b := H00.size + a) ⟨hx, hb, hml, hown, hts⟩ hM
              ⟨callB_of (m_np j2) hts (m_goodIn ⟨hj.1, hj.2.1⟩) hcw rfl rfl (hts _ (m_in_tg (hw (.initialized (m_y j2).cls) (by simp [m_mws])) rfl)) (hts _ (m_in_tg (hw (.methodLink (m_ownS (m_own j)) e (m_y j2)) (by simp [m_mws])) rfl)) ⟨hjo.2.1, hjo.2.2.1, hjo.2.2.2.1⟩ hR,
               hini.1, hts _ (m_in_tg (hw (.instanceMethod (m_y j2)) (by simp [m_mws])) rfl)⟩
              ⟨m_Pc_blind, m_pre (as := .ref a :: (st.take (m_np j2)).reverse) hcx' hhp⟩ rfl (by rw [List.length_map]; exact hn) (by show ls.size = _; exact hlo.2.1.1) hstack (m_lvroom h7 h8) hdg ⟨hc1, hc2⟩
          · subst hk0
            exact va_runIN (host := "MuseumNights") (As := ((st.take (m_np j2)).reverse).map (m_rv H00.size b)) (b := H00.size + a) ⟨hx, hb, hml, hown, hts⟩ hM
              ⟨va_cnB (m_np j2) hts (m_goodIn ⟨hj.1, hj.2.1⟩) hcw rfl rfl (hnw _ (m_in_nw (hw (.methodLinkNest (m_ownS (m_own j)) e (m_y j2) "MuseumNights") (by simp [m_mws])) rfl)) (hts _ (m_in_tg (hw (.initialized (m_y j2).cls) (by simp [m_mws])) rfl)) ⟨hjo.2.1, hjo.2.2.1, hjo.2.2.2.1⟩ hR,
               hini.1, hts _ (m_in_tg (hw (.instanceMethod (m_y j2)) (by simp [m_mws])) rfl)⟩
              ⟨m_Pc_blind, m_pre (as := .ref a :: (st.take (m_np j2)).reverse) hcx' hhp⟩ rfl (by rw [List.length_map]; exact hn) (by show ls.size = _; exact hlo.2.1.1) hstack (m_lvroom h7 h8) hdg ⟨hc1, hc2⟩
        next => cases hr
      next => cases hr
  next => cases hr
end SNH
end
section
section SNI
variable {l : Launch} {D : va_G} {cI cC : ClassId} {b : Nat} {X : mX} {H00 : Heap} {go : mG} {j pc len : Nat} {L : mL} {st : List Value} {h : mH} {r : mR}
theorem sd_ret {v : Option Value} (hrok : m_rok j pc v) : m_at l D cI cC b X H00 j pc L v.toList h (v, h) := by
  refine ⟨Nat.le_refl _, Nat.le_refl _, ?_⟩
  intro p e R s m args below meth c H locs cells slots Q ls n0 z0 hcx hhp hlo e1 e2 e3 e4 hret
  exact hret H locs cells slots ls pc e1 e2 hhp hrok
set_option maxHeartbeats 4000000 in
theorem sd_stp (hgo : m_SG l D cI cC b X H00 go) : m_SG l D cI cC b X H00 (m_stp X go) := by
  intro j pc L st h r hr
  unfold m_stp at hr
  split at hr
  next i len hdg =>
    cases i <;> first | (simp only [m_ins] at hr; cases hr; done) | skip
    case aload_n n => exact sd_aload_n hgo hr hdg
    case iload_n n => exact sd_iload_n hgo hr hdg
    case iload n => exact sd_iload hgo hr hdg
    case istore_n n => exact sd_istore_n hgo hr hdg
    case istore n => exact sd_istore hgo hr hdg
    case astore_n n => exact sd_astore_n hgo hr hdg
    case iconst n => exact sd_iconst hgo hr hdg
    case bipush n => exact sd_bipush hgo hr hdg
    case sipush n => exact sd_sipush hgo hr hdg
    case ldc_w idx =>
      simp only [m_ins] at hr
      split at hr
      next e v hf => exact sd_ldcw hgo hf hr hdg
      next => cases hr
    case iadd => exact sd_bin hgo hr (fun x y rest h1 _ p e R s m args below meth c H locs cells slots Q ls hx hb kk => lv_iadd hx hb (by rw [← h1]; exact hdg) kk)
    case isub => exact sd_bin hgo hr (fun x y rest h1 _ p e R s m args below meth c H locs cells slots Q ls hx hb kk => lv_isub hx hb (by rw [← h1]; exact hdg) kk)
    case imul => exact sd_bin hgo hr (fun x y rest h1 _ p e R s m args below meth c H locs cells slots Q ls hx hb kk => lv_imul hx hb (by rw [← h1]; exact hdg) kk)
    case idiv => exact sd_bin hgo hr (fun x y rest h1 h2 p e R s m args below meth c H locs cells slots Q ls hx hb kk => lv_idiv hx hb (by rw [← h1]; exact hdg) (by simpa using h2) kk)
    case irem => exact sd_bin hgo hr (fun x y rest h1 h2 p e R s m args below meth c H locs cells slots Q ls hx hb kk => lv_irem hx hb (by rw [← h1]; exact hdg) (by simpa using h2) kk)
    case iand => exact sd_bin hgo hr (fun x y rest h1 _ p e R s m args below meth c H locs cells slots Q ls hx hb kk => lv_iand hx hb (by rw [← h1]; exact hdg) kk)
    case ior => exact sd_bin hgo hr (fun x y rest h1 _ p e R s m args below meth c H locs cells slots Q ls hx hb kk => lv_ior hx hb (by rw [← h1]; exact hdg) kk)
    case ixor => exact sd_bin hgo hr (fun x y rest h1 _ p e R s m args below meth c H locs cells slots Q ls hx hb kk => lv_ixor hx hb (by rw [← h1]; exact hdg) kk)
    case ishl => exact sd_bin hgo hr (fun x y rest h1 _ p e R s m args below meth c H locs cells slots Q ls hx hb kk => lv_ishl hx hb (by rw [← h1]; exact hdg) kk)
    case ishr => exact sd_bin hgo hr (fun x y rest h1 _ p e R s m args below meth c H locs cells slots Q ls hx hb kk => lv_ishr hx hb (by rw [← h1]; exact hdg) kk)
    case iushr => exact sd_bin hgo hr (fun x y rest h1 _ p e R s m args below meth c H locs cells slots Q ls hx hb kk => lv_iushr hx hb (by rw [← h1]; exact hdg) rfl kk)
    case i2c =>
      simp only [m_ins] at hr
      split at hr
      next x rest =>
        split at hr
        next h1 => exact sd_i2c hgo h1 hr hdg
        next => cases hr
      next => cases hr
    case iinc n c => exact sd_iinc hgo hr hdg
    case goto off =>
      simp only [m_ins] at hr
      split at hr
      next h1 => exact sd_goto hgo h1 hr hdg
      next => cases hr
    case ifCond c off =>
      simp only [m_ins] at hr
      split at hr
      next x rest => exact sd_if hgo hr hdg
      next => cases hr
    case if_icmp c off =>
      simp only [m_ins] at hr
      split at hr
      next y x rest => exact sd_icmp hgo hr hdg
      next => cases hr
    case tableswitch d lo hi offs => exact sd_tsw hgo hr hdg
    case lookupswitch d ps => exact sd_lsw hgo hr hdg
    case dup =>
      simp only [m_ins] at hr
      split at hr
      next v rest =>
        split at hr
        next h1 => exact sd_dup hgo h1.1 h1.2 hr hdg
        next => cases hr
      next => cases hr
    case dup2 =>
      simp only [m_ins] at hr
      split at hr
      next v w rest =>
        split at hr
        next h1 => exact sd_dup2 hgo h1.1 h1.2.1 h1.2.2 hr hdg
        next => cases hr
      next => cases hr
    case getfield idx => exact sd_getf hgo hr hdg
    case putfield idx => exact sd_putf hgo hr hdg
    case iaload => exact sd_ald (ch := false) hgo hr hdg
    case caload => exact sd_ald (ch := true) hgo hr hdg
    case iastore => exact sd_ast (ch := false) hgo hr hdg
    case castore => exact sd_ast (ch := true) hgo hr hdg
    case arraylength => exact sd_alen hgo hr hdg
    case newarray ty =>
      cases ty <;> first | (simp only [m_ins] at hr; cases hr; done) | skip
      case int => exact sd_newa (ch := false) hgo hr hdg
      case char => exact sd_newa (ch := true) hgo hr hdg
    case new idx => exact sd_newo hgo hr hdg
    case invokevirtual idx => exact sd_invv hgo hr hdg
    case invokestatic idx => exact sd_invs hgo hr hdg
    case invokespecial idx => exact sd_invi hgo hr hdg
    case ireturn =>
      simp only [m_ins, m_retn] at hr
      split at hr
      next x =>
        split at hr
        next h1 =>
          cases hr
          obtain ⟨h1, h2⟩ := h1
          subst h1
          exact sd_ret (v := some (.int x)) ⟨hdg, h2⟩
        next => cases hr
      next => cases hr
    case return_ =>
      simp only [m_ins] at hr
      split at hr
      next =>
        split at hr
        next h1 =>
          cases hr
          obtain ⟨h1, h2⟩ := h1
          subst h1
          exact sd_ret (v := none) ⟨hdg, h2⟩
        next => cases hr
      next => cases hr
    case areturn =>
      simp only [m_ins] at hr
      split at hr
      next a =>
        split at hr
        next h1 =>
          cases hr
          obtain ⟨h1, h2⟩ := h1
          subst h1
          exact sd_ret (v := some (.ref a)) ⟨hdg, h2⟩
        next => cases hr
      next => cases hr
  next => cases hr
theorem sd_run (k : Nat) : m_SG l D cI cC b X H00 (m_run X k) := by
  induction k with
  | zero =>
    intro j pc L st h r hr
    cases hr
  | succ k ih => exact sd_stp ih
end SNI
/-! THE LAW's BODY OUT OF A RUN OF THE SMALL MACHINE (the rest is the skeleton's) -/
def R_law : String := "MuseumNightsLaw"
def lw_P (b : Addr) (xs : List Int32) (args : Array Value) (s : State) : Prop := args = #[.ref b] ∧ s.IntsAt b xs ∧ xs.length ≤ 2560 ∧ (Jvm.Cond.and given_1 narrow_1).before args s = true
def lw_Q (_ : Array Value) (s : State) (o : Outcome) (t : State) : Prop := o = .returned (some (.int 1)) ∧ Framed s o t [] 600000 7302250
def lw_Z (below : List Frame) (a : Array Value) (s : State) : State → Prop := fun t => ∃ o, t.status = .running ∧ Ended t below o ∧ lw_Q a s o t
/-- the law's own end, with 1 on the stack, nothing written that was there before, its room as the claim has it -/
theorem lw_ret {p : Program} {l : Launch} {e : Env} {s : State} {m : MethodId} {below : List Frame} {meth : Method} {c : Code} {b : Nat} (hx : p.tables.exec = Jvm.exec) (hb : c.code = code) (hr : meth.sig.returnType = ret) (hlocks : meth.locks = false) {pc : Nat} {H : Heap} {ls : Array Slot} (hdg : decode code pc = .ok (.ireturn, 1)) : W p l e room_1 s m #[Value.ref b] below meth c H [] 600000 7302250 (lw_Z below #[Value.ref b] s) (F0 m pc ls [.int 1]) := by
  intro T hT X
  obtain ⟨fs, hret, hrun, hended, hW, hframe⟩ := X.leave (v := some (.int 1)) (hlocks := hlocks) (fun h => by rw [hr] at h; cases h)
  have hmeth' : T.vm.method? m = some meth := X.method'
  refine ⟨T.setFrames fs, ?_, .returned (some (.int 1)), hrun, hended, rfl, ⟨_, rfl⟩, hW, hframe⟩
  jvm_step X.here [X.here.top, hx, hb, hdg, hmeth', hr, ret, narrow_b1]
  (try refine ⟨rfl, ?_⟩); (try refine ⟨rfl, ?_⟩)
  first | (intro acts; rw [hret _ acts rfl rfl rfl]) | rw [hret _ _ rfl rfl rfl]
  exact Steps.refl _
/-- what holds at the law's entry -/
def lw_At (p : Program) (s : State) (m : MethodId) (meth : Method) (c : Code) (b L : Nat) (xs : Nat → Int32) : Prop :=
  p.tables.exec = Jvm.exec ∧ c.code = code ∧ meth.sig.returnType = ret ∧ c.maxLocals = 4 ∧ s.vm.findClass R_law = some m.cls ∧ (∀ w ∈ lw_tbl, w.before #[Value.ref b] s = true) ∧ va_X b L xs s s.heap ∧ b < s.heap.size ∧ meth.locks = false ∧ (Jvm.Cond.and given_1 narrow_1).before #[Value.ref b] s = true
/-- the classes' numbers and slots, of all that the worlds hold -/
theorem m_known {s : State} {args : Array Value} (hts : ∀ w ∈ lw_tbl, w.before args s = true) : ∃ D : va_G, ∀ (c : Nat) (q : vw_C), m_cls[c]? = some q → u_Kn s q.1 q.2.1 q.2.2 (D.1 c) (D.2 c) := by
  have hts' : ∀ w ∈ m_tg, w.before args s = true := fun w hw => hts w (List.mem_filter.mp hw).1
  have hinst : ∀ ci, ci < m_cls.length → Cond.instantiable (m_clsQ ci).1 (m_clsQ ci).2.2 ∈ lw_tbl := by
    intro ci hci
    have key : ∀ ci, ci < m_cls.length → ∃ (o : Nat) (idx : Nat), (m_findK o idx) = some (idx, ci) := by
      intro ci hci
      have key2 : ((List.range m_cls.length).all fun ci => (List.range 17).any fun o => (List.range 70).any fun idx => decide (m_findK o idx = some (idx, ci))) = true := by decide +kernel
      have h1 := List.all_eq_true.mp key2 ci (List.mem_range.mpr hci)
      obtain ⟨o, -, h2⟩ := List.any_eq_true.mp h1
      obtain ⟨idx, -, h3⟩ := List.any_eq_true.mp h2
      exact ⟨o, idx, by simpa using h3⟩
    obtain ⟨o, idx, h1⟩ := key ci hci
    exact (m_findK_ok h1).2.2 _ (by simp [m_kw])
  have h1 : ∀ ci : Nat, ∃ z : ClassId × (Nat → Nat), ci < m_cls.length → u_Kn s (m_clsQ ci).1 (m_clsQ ci).2.1 (m_clsQ ci).2.2 z.1 z.2 := by
    intro ci
    by_cases hci : ci < m_cls.length
    · obtain ⟨cC, iS, hk⟩ := u_known hts' (m_lay_in hci) (hts _ (hinst ci hci))
      exact ⟨(cC, iS), fun _ => hk⟩
    · exact ⟨(0, fun _ => 0), fun z => absurd z hci⟩
  obtain ⟨F, hF⟩ := Classical.axiomOfChoice h1
  refine ⟨(fun c => (F c).1, fun c => (F c).2), fun c q hq => ?_⟩
  have hc : c < m_cls.length := (List.getElem?_eq_some_iff.mp hq).1
  have e : q = ((m_clsQ c).1, (m_clsQ c).2.1, (m_clsQ c).2.2) := Option.some.inj (hq.symm.trans (m_cls_at hc))
  rw [e]
  exact hF c hc
theorem m_arr {s : State} {args : Array Value} {ty : FieldType} (h : (Cond.arrayClass ty).before args s = true) (hty : ty = .int ∨ ty = .char) : ∃ cA : ClassId, ArrOfT s cA ty ∧ va_RA s cA ty := by
  obtain ⟨cA, kA, comp, hf, hk, hkind⟩ := Cond.arrayClass_spec h
  refine ⟨cA, fun n z => ⟨fun k h => (by cases h), kA, hk, comp, hkind⟩, ?_⟩
  rcases hty with rfl | rfl <;> exact hf
theorem m_whole {p : Program} {e : Env} {s : State} {m : MethodId} {below : List Frame} {meth : Method} {c : Code} (l : Launch) {b L : Nat} {xs : Nat → Int32} (C0 : lw_At p s m meth c b L xs) {h1 : mH} (hrun : Runs (L, xs) 0 0 (m_entry 0 [.float 0]) [] ([], 0) (some (.int 1), h1)) (hc : h1.1.length ≤ 600000) (hs : h1.2 ≤ 7302250) :
    W p l e room_1 s m #[Value.ref b] below meth c s.heap [] 0 0 (lw_Z below #[Value.ref b] s) (entryFrame m ([Value.ref b] : List Value).toArray 4) := by
  obtain ⟨hx, hbd, hr, hml, hown, hts, hX, hbl, hlocks, -⟩ := C0
  have hts' : ∀ w ∈ m_tg, w.before #[Value.ref b] s = true := fun w hw => hts w (List.mem_filter.mp hw).1
  obtain ⟨D, hD⟩ := m_known hts
  obtain ⟨cI, hI1, hI2⟩ := m_arr (hts' _ (m_sys (w := .arrayClass .int) (by simp [m_sysw]) rfl)) (Or.inl rfl)
  obtain ⟨cC, hC1, hC2⟩ := m_arr (hts' _ (m_sys (w := .arrayClass .char) (by simp [m_sysw]) rfl)) (Or.inr rfl)
  obtain ⟨k, hk⟩ := hrun
  obtain ⟨-, -, hW⟩ := sd_run (l := l) (D := D) (cI := cI) (cC := cC) (b := b) (X := (L, xs)) (H00 := s.heap) k 0 0 _ _ _ _ hk
  have hK : va_K D m_cls [(cI, .int), (cC, .char)] s := by
    refine ⟨hD, fun k q hq => ?_⟩
    have hk : k < 2 := (List.getElem?_eq_some_iff.mp hq).1
    rcases (show k = 0 ∨ k = 1 by omega) with rfl | rfl
    · cases hq; exact ⟨hI1, hI2⟩
    · cases hq; exact ⟨hC1, hC2⟩
  rw [lg_entry_eq]
  have hlo := m_entry_lo (base := s.heap.size) (b := b) (j := 0) (as := [.float 0]) rfl (by decide +kernel)
  refine hW p e room_1 s m #[Value.ref b] below meth c s.heap [] 0 0 _ _ 0 0 ⟨hx, hbd, hml, hown, hts', fun w hw => va_Nw.of (m_nw_tab hw) (hts w (List.mem_filter.mp hw).1), by decide +kernel, by decide +kernel, hK, hX, hbl, fun z => absurd z (by decide +kernel)⟩ ⟨fun k q hq => (by cases hq), rfl, va_S.rf⟩ hlo rfl rfl (by show h1.1.length ≤ 0 + 600000; omega) (by show h1.2 ≤ 0 + 7302250; omega) ?_
  intro H' locs' cells' slots' ls' pc' e1 e2 hhp' hrok
  have e1' : cells' + 0 = h1.1.length := e1
  have e2' : slots' + 0 = h1.2 := e2
  have hd : decode code pc' = .ok (.ireturn, 1) := hrok.1
  refine va_forget (fun q hq => hhp'.2.2.2.2 q hq) (W.widen (k := 600000) (n := 7302250) (by omega) (by omega) ?_)
  exact lw_ret hx hbd hr hlocks hd
end
section
/-! More steps find what fewer found. -/
def m_le (g1 g2 : mG) : Prop := ∀ j pc L st h r, g1 j pc L st h = some r → g2 j pc L st h = some r
theorem m_le_ap {g1 g2 : mG} (h12 : m_le g1 g2) {j pc : Nat} {L : mL} {st : List Value} {h : mH} {r : mR} (hr : g1 j pc L st h = some r) : g2 j pc L st h = some r := h12 _ _ _ _ _ _ hr
theorem m_le_jump {g1 g2 : mG} (h12 : m_le g1 g2) {j pc : Nat} {off : Int} {L : mL} {st : List Value} {h : mH} {r : mR} (hr : m_jump g1 j pc off L st h = some r) : m_jump g2 j pc off L st h = some r := by
  unfold m_jump at hr ⊢
  split at hr
  next h0 => rw [if_pos h0]; exact h12 _ _ _ _ _ _ hr
  next => cases hr
theorem m_le_call {g1 g2 : mG} (h12 : m_le g1 g2) {j pc len j2 : Nat} {as rest : List Value} {L : mL} {h : mH} {r : mR} (hr : m_call g1 j pc len j2 as rest L h = some r) : m_call g2 j pc len j2 as rest L h = some r := by
  obtain ⟨a1, a2, a3, a4, a5, a6, v, h1, hv, hn⟩ := m_call_at hr
  unfold m_call
  rw [if_pos ⟨a1, a2, a3, a4, a5, a6⟩, h12 _ _ _ _ _ _ hv]
  exact h12 _ _ _ _ _ _ hn
set_option maxHeartbeats 4000000 in
theorem m_le_stp {X : mX} {g1 g2 : mG} (h12 : m_le g1 g2) : m_le (m_stp X g1) (m_stp X g2) := by
  intro j pc L st h r hr
  unfold m_stp at hr ⊢
  split at hr
  next i len hd =>
    show m_ins X g2 j pc len i L st h = some r
    cases i <;> first | (simp only [m_ins] at hr; cases hr; done) | exact hr | skip
    case invokestatic idx =>
      simp only [m_ins, m_invs] at hr ⊢
      split at hr
      next e kind j2 hf =>
        by_cases h3 : kind = 3
        · rw [if_pos h3] at hr ⊢
          split at hr
          next hn => rw [if_pos hn]; exact m_le_call h12 hr
          next => cases hr
        · rw [if_neg h3] at hr ⊢
          by_cases h5 : kind = 5
          · rw [if_pos h5] at hr ⊢
            split at hr
            next =>
              split at hr
              next hg0 hg1 =>
                split at hr
                next hc => rw [if_pos hc]; exact m_le_ap h12 hr
                next => cases hr
              next => cases hr
            next => cases hr
          · rw [if_neg h5] at hr ⊢
            by_cases h6 : kind = 6 ∨ kind = 7
            · rw [if_pos h6] at hr ⊢
              split at hr
              next =>
                split at hr
                next hc => rw [if_pos hc]; exact m_le_ap h12 hr
                next => cases hr
              next => cases hr
            · rw [if_neg h6] at hr
              cases hr
      next => cases hr
    all_goals
      simp only [m_ins, m_load, m_store, m_push, m_bin, m_iinc, m_getf, m_putf, m_ald, m_ast, m_alen, m_newo, m_cond, m_invv, m_invs, m_invi, m_tsw, m_lsw, m_newa] at hr ⊢
      repeat' split at hr
    all_goals first | (cases hr; done) | skip
    all_goals first | exact m_le_ap h12 hr | exact m_le_jump h12 hr | exact m_le_call h12 hr | skip
    all_goals first | (simp only [*]; first | exact m_le_ap h12 hr | exact m_le_jump h12 hr | exact m_le_call h12 hr; done) | skip
    all_goals first | (simp_all; done) | (simp_all; first | exact m_le_ap h12 hr | exact m_le_jump h12 hr | exact m_le_call h12 hr; done) | skip
  next => cases hr
theorem m_le_run {X : mX} {k k' : Nat} (h : k ≤ k') : m_le (m_run X k) (m_run X k') := by
  induction h with
  | refl => exact fun _ _ _ _ _ _ h => h
  | step h ih =>
    intro j pc L st h r hr
    have key : ∀ n, m_le (m_run X n) (m_run X (n + 1)) := by
      intro n
      induction n with
      | zero =>
        intro j pc L st h r hr
        cases hr
      | succ n ihn => exact m_le_stp ihn
    exact key _ _ _ _ _ _ _ (ih _ _ _ _ _ _ hr)
/-- from here some run ends with an answer v and a heap h1, and Q v h1 -/
def m_wp (X : mX) (j pc : Nat) (L : mL) (st : List Value) (h : mH) (Q : Option Value → mH → Prop) : Prop := ∃ k v h1, m_run X k j pc L st h = some (v, h1) ∧ Q v h1
section WPR
variable {X : mX} {j pc : Nat} {L : mL} {st rest : List Value} {h : mH} {Q : Option Value → mH → Prop}
theorem wp_one {pc2 : Nat} {L2 : mL} {st2 : List Value} {h2 : mH} (hs : ∀ (go : mG) (r : mR), go j pc2 L2 st2 h2 = some r → m_stp X go j pc L st h = some r) (K : m_wp X j pc2 L2 st2 h2 Q) : m_wp X j pc L st h Q := by
  obtain ⟨k, v, h1, hk, hq⟩ := K
  exact ⟨k + 1, v, h1, hs _ _ hk, hq⟩
theorem wp_mono {Q2 : Option Value → mH → Prop} (K : m_wp X j pc L st h Q) (hQ : ∀ v h1, Q v h1 → Q2 v h1) : m_wp X j pc L st h Q2 := by
  obtain ⟨k, v, h1, hk, hq⟩ := K
  exact ⟨k, v, h1, hk, hQ _ _ hq⟩
theorem wp_iload_n {n : Fin 4} {x : Int32} (hd : decode (m_code j) pc = .ok (.iload_n n, 1)) (hl : L[n.val]? = some (some (.int x))) (K : m_wp X j (pc + 1) L (.int x :: st) h Q) : m_wp X j pc L st h Q := by
  refine wp_one (fun go r hr => ?_) K
  simp only [m_stp, hd, m_ins, m_load, m_ldl_of hl, m_isint, if_true]
  exact hr
theorem wp_iload {n : Nat} {x : Int32} (hd : decode (m_code j) pc = .ok (.iload n, 2)) (hl : L[n]? = some (some (.int x))) (K : m_wp X j (pc + 2) L (.int x :: st) h Q) : m_wp X j pc L st h Q := by
  refine wp_one (fun go r hr => ?_) K
  simp only [m_stp, hd, m_ins, m_load, m_ldl_of hl, m_isint, if_true]
  exact hr
theorem wp_aload_n {n : Fin 4} {a : Nat} (hd : decode (m_code j) pc = .ok (.aload_n n, 1)) (hl : L[n.val]? = some (some (.ref a))) (K : m_wp X j (pc + 1) L (.ref a :: st) h Q) : m_wp X j pc L st h Q := by
  refine wp_one (fun go r hr => ?_) K
  simp only [m_stp, hd, m_ins, m_load, m_ldl_of hl, m_isref, if_true]
  exact hr
theorem wp_sload_n {n : Fin 4} {a : UInt32} (hd : decode (m_code j) pc = .ok (.aload_n n, 1)) (hl : L[n.val]? = some (some (.float a))) (K : m_wp X j (pc + 1) L (.float a :: st) h Q) : m_wp X j pc L st h Q := by
  refine wp_one (fun go r hr => ?_) K
  simp only [m_stp, hd, m_ins, m_load, m_ldl_of hl, m_isref, if_true]
  exact hr
theorem wp_istore_n {n : Fin 4} {x : Int32} {L2 : mL} (hd : decode (m_code j) pc = .ok (.istore_n n, 1)) (hn : n.val < L.length) (hl : L.set n.val (some (.int x)) = L2) (K : m_wp X j (pc + 1) L2 st h Q) : m_wp X j pc L (.int x :: st) h Q := by
  subst hl
  refine wp_one (fun go r hr => ?_) K
  simp only [m_stp, hd, m_ins, m_store, m_isint, if_true, true_and, if_pos hn]
  exact hr
theorem wp_istore {n : Nat} {x : Int32} {L2 : mL} (hd : decode (m_code j) pc = .ok (.istore n, 2)) (hn : n < L.length) (hl : L.set n (some (.int x)) = L2) (K : m_wp X j (pc + 2) L2 st h Q) : m_wp X j pc L (.int x :: st) h Q := by
  subst hl
  refine wp_one (fun go r hr => ?_) K
  simp only [m_stp, hd, m_ins, m_store, m_isint, if_true, true_and, if_pos hn]
  exact hr
theorem wp_astore_n {n : Fin 4} {a : Nat} {L2 : mL} (hd : decode (m_code j) pc = .ok (.astore_n n, 1)) (hn : n.val < L.length) (hl : L.set n.val (some (.ref a)) = L2) (K : m_wp X j (pc + 1) L2 st h Q) : m_wp X j pc L (.ref a :: st) h Q := by
  subst hl
  refine wp_one (fun go r hr => ?_) K
  simp only [m_stp, hd, m_ins, m_store, m_isref, if_true, true_and, if_pos hn]
  exact hr
theorem wp_iconst {n : Int} {v : Int32} (hd : decode (m_code j) pc = .ok (.iconst n, 1)) (hv : Int32.ofInt n = v) (K : m_wp X j (pc + 1) L (.int v :: st) h Q) : m_wp X j pc L st h Q := by
  subst hv
  refine wp_one (fun go r hr => ?_) K
  simp only [m_stp, hd, m_ins, m_push, if_true]
  exact hr
theorem wp_bipush {n : Int} {v : Int32} (hd : decode (m_code j) pc = .ok (.bipush n, 2)) (hv : (Int8.ofInt n).toInt32 = v) (K : m_wp X j (pc + 2) L (.int v :: st) h Q) : m_wp X j pc L st h Q := by
  subst hv
  refine wp_one (fun go r hr => ?_) K
  simp only [m_stp, hd, m_ins, m_push, if_true]
  exact hr
theorem wp_sipush {n : Int} {v : Int32} (hd : decode (m_code j) pc = .ok (.sipush n, 3)) (hv : (Int16.ofInt n).toInt32 = v) (K : m_wp X j (pc + 3) L (.int v :: st) h Q) : m_wp X j pc L st h Q := by
  subst hv
  refine wp_one (fun go r hr => ?_) K
  simp only [m_stp, hd, m_ins, m_push, if_true]
  exact hr
theorem wp_ldcw {idx e : Nat} {v : Int32} (hd : decode (m_code j) pc = .ok (.ldc_w idx, 3)) (hf : m_findC (m_own j) idx = some (e, v)) (K : m_wp X j (pc + 3) L (.int v :: st) h Q) : m_wp X j pc L st h Q := by
  refine wp_one (fun go r hr => ?_) K
  simp only [m_stp, hd, m_ins, hf, m_push, if_true]
  exact hr
theorem wp_iadd {x y : Int32} (hd : decode (m_code j) pc = .ok (.iadd, 1)) (K : m_wp X j (pc + 1) L (.int (x + y) :: st) h Q) : m_wp X j pc L (.int y :: .int x :: st) h Q :=
  wp_one (fun go r hr => by simp only [m_stp, hd, m_ins, m_bin]; exact hr) K
theorem wp_isub {x y : Int32} (hd : decode (m_code j) pc = .ok (.isub, 1)) (K : m_wp X j (pc + 1) L (.int (x - y) :: st) h Q) : m_wp X j pc L (.int y :: .int x :: st) h Q :=
  wp_one (fun go r hr => by simp only [m_stp, hd, m_ins, m_bin]; exact hr) K
theorem wp_imul {x y : Int32} (hd : decode (m_code j) pc = .ok (.imul, 1)) (K : m_wp X j (pc + 1) L (.int (x * y) :: st) h Q) : m_wp X j pc L (.int y :: .int x :: st) h Q :=
  wp_one (fun go r hr => by simp only [m_stp, hd, m_ins, m_bin]; exact hr) K
theorem wp_iand {x y : Int32} (hd : decode (m_code j) pc = .ok (.iand, 1)) (K : m_wp X j (pc + 1) L (.int (x &&& y) :: st) h Q) : m_wp X j pc L (.int y :: .int x :: st) h Q :=
  wp_one (fun go r hr => by simp only [m_stp, hd, m_ins, m_bin]; exact hr) K
theorem wp_ior {x y : Int32} (hd : decode (m_code j) pc = .ok (.ior, 1)) (K : m_wp X j (pc + 1) L (.int (x ||| y) :: st) h Q) : m_wp X j pc L (.int y :: .int x :: st) h Q :=
  wp_one (fun go r hr => by simp only [m_stp, hd, m_ins, m_bin]; exact hr) K
theorem wp_ixor {x y : Int32} (hd : decode (m_code j) pc = .ok (.ixor, 1)) (K : m_wp X j (pc + 1) L (.int (x ^^^ y) :: st) h Q) : m_wp X j pc L (.int y :: .int x :: st) h Q :=
  wp_one (fun go r hr => by simp only [m_stp, hd, m_ins, m_bin]; exact hr) K
theorem wp_ishl {x y : Int32} (hd : decode (m_code j) pc = .ok (.ishl, 1)) (K : m_wp X j (pc + 1) L (.int (x <<< (y &&& 31)) :: st) h Q) : m_wp X j pc L (.int y :: .int x :: st) h Q :=
  wp_one (fun go r hr => by simp only [m_stp, hd, m_ins, m_bin]; exact hr) K
theorem wp_ishr {x y : Int32} (hd : decode (m_code j) pc = .ok (.ishr, 1)) (K : m_wp X j (pc + 1) L (.int (x >>> (y &&& 31)) :: st) h Q) : m_wp X j pc L (.int y :: .int x :: st) h Q :=
  wp_one (fun go r hr => by simp only [m_stp, hd, m_ins, m_bin]; exact hr) K
theorem wp_iushr {x y : Int32} (hd : decode (m_code j) pc = .ok (.iushr, 1)) (K : m_wp X j (pc + 1) L (.int (x.toUInt32 >>> (y.toUInt32 &&& Int32.toUInt32 31)).toInt32 :: st) h Q) : m_wp X j pc L (.int y :: .int x :: st) h Q :=
  wp_one (fun go r hr => by simp only [m_stp, hd, m_ins, m_bin]; exact hr) K
theorem wp_idiv {x y : Int32} (hd : decode (m_code j) pc = .ok (.idiv, 1)) (hy : ¬ y = 0) (K : m_wp X j (pc + 1) L (.int (x / y) :: st) h Q) : m_wp X j pc L (.int y :: .int x :: st) h Q :=
  wp_one (fun go r hr => by simp only [m_stp, hd, m_ins, m_bin]; rw [if_pos ⟨trivial, by simpa using hy⟩]; exact hr) K
theorem wp_irem {x y : Int32} (hd : decode (m_code j) pc = .ok (.irem, 1)) (hy : ¬ y = 0) (K : m_wp X j (pc + 1) L (.int (x - x / y * y) :: st) h Q) : m_wp X j pc L (.int y :: .int x :: st) h Q :=
  wp_one (fun go r hr => by simp only [m_stp, hd, m_ins, m_bin]; rw [if_pos ⟨trivial, by simpa using hy⟩]; exact hr) K
theorem wp_i2c {x : Int32} (hd : decode (m_code j) pc = .ok (.i2c, 1)) (K : m_wp X j (pc + 1) L (.int (x.toUInt32 % 65536).toInt32 :: st) h Q) : m_wp X j pc L (.int x :: st) h Q :=
  wp_one (fun go r hr => by simp only [m_stp, hd, m_ins, if_true]; exact hr) K
theorem wp_iinc {i : Nat} {c : Int} {x v : Int32} {L2 : mL} (hd : decode (m_code j) pc = .ok (.iinc i c, 3)) (hl : L[i]? = some (some (.int x))) (hv : x + Int32.ofInt c = v) (hn : i < L.length) (hL : L.set i (some (.int v)) = L2) (K : m_wp X j (pc + 3) L2 st h Q) : m_wp X j pc L st h Q := by
  subst hv
  subst hL
  refine wp_one (fun go r hr => ?_) K
  simp only [m_stp, hd, m_ins, m_iinc, m_ldl_of hl, true_and, if_pos hn]
  exact hr
theorem wp_goto {off : Int} {tgt : Nat} (hd : decode (m_code j) pc = .ok (.goto off, 3)) (ht : (pc : Int) + off = (tgt : Int)) (K : m_wp X j tgt L st h Q) : m_wp X j pc L st h Q := by
  refine wp_one (fun go r hr => ?_) K
  simp only [m_stp, hd, m_ins, m_jump, if_true, ht]
  rw [if_pos (Int.natCast_nonneg _)]
  exact hr
theorem wp_cond {st0 : List Value} {t : Bool} {off : Int} {tgt : Nat} (hs : ∀ go : mG, m_stp X go j pc L st0 h = m_cond go j pc 3 t off L st h) (ht : (pc : Int) + off = (tgt : Int)) (kt : t = true → m_wp X j tgt L st h Q) (kf : t = false → m_wp X j (pc + 3) L st h Q) : m_wp X j pc L st0 h Q := by
  have hn : 0 ≤ (pc : Int) + off := by rw [ht]; exact Int.natCast_nonneg _
  cases t with
  | true =>
    refine wp_one (fun go r hr => ?_) (kt rfl)
    rw [hs, m_cond, if_pos ⟨rfl, hn⟩, if_pos rfl, ht]
    exact hr
  | false =>
    refine wp_one (fun go r hr => ?_) (kf rfl)
    rw [hs, m_cond, if_pos ⟨rfl, hn⟩, if_neg (by decide)]
    exact hr
theorem wp_if_eq {x : Int32} {off : Int} {tgt : Nat} (hd : decode (m_code j) pc = .ok (.ifCond .eq off, 3)) (ht : (pc : Int) + off = (tgt : Int)) (kt : x = 0 → m_wp X j tgt L st h Q) (kf : ¬ x = 0 → m_wp X j (pc + 3) L st h Q) : m_wp X j pc L (.int x :: st) h Q :=
  wp_cond (fun go => by simp only [m_stp, hd, m_ins, m_cb]) ht (fun z => kt (of_decide_eq_true z)) (fun z => kf (by have := of_decide_eq_false z; simpa using this))
theorem wp_icmp_eq {x y : Int32} {off : Int} {tgt : Nat} (hd : decode (m_code j) pc = .ok (.if_icmp .eq off, 3)) (ht : (pc : Int) + off = (tgt : Int)) (kt : x = y → m_wp X j tgt L st h Q) (kf : ¬ x = y → m_wp X j (pc + 3) L st h Q) : m_wp X j pc L (.int y :: .int x :: st) h Q :=
  wp_cond (fun go => by simp only [m_stp, hd, m_ins, m_cb]) ht (fun z => kt (of_decide_eq_true z)) (fun z => kf (by have := of_decide_eq_false z; simpa using this))
theorem wp_if_ne {x : Int32} {off : Int} {tgt : Nat} (hd : decode (m_code j) pc = .ok (.ifCond .ne off, 3)) (ht : (pc : Int) + off = (tgt : Int)) (kt : ¬ x = 0 → m_wp X j tgt L st h Q) (kf : x = 0 → m_wp X j (pc + 3) L st h Q) : m_wp X j pc L (.int x :: st) h Q :=
  wp_cond (fun go => by simp only [m_stp, hd, m_ins, m_cb]) ht (fun z => kt (of_decide_eq_true z)) (fun z => kf (by have := of_decide_eq_false z; simpa using this))
theorem wp_icmp_ne {x y : Int32} {off : Int} {tgt : Nat} (hd : decode (m_code j) pc = .ok (.if_icmp .ne off, 3)) (ht : (pc : Int) + off = (tgt : Int)) (kt : ¬ x = y → m_wp X j tgt L st h Q) (kf : x = y → m_wp X j (pc + 3) L st h Q) : m_wp X j pc L (.int y :: .int x :: st) h Q :=
  wp_cond (fun go => by simp only [m_stp, hd, m_ins, m_cb]) ht (fun z => kt (of_decide_eq_true z)) (fun z => kf (by have := of_decide_eq_false z; simpa using this))
theorem wp_if_lt {x : Int32} {off : Int} {tgt : Nat} (hd : decode (m_code j) pc = .ok (.ifCond .lt off, 3)) (ht : (pc : Int) + off = (tgt : Int)) (kt : x < 0 → m_wp X j tgt L st h Q) (kf : ¬ x < 0 → m_wp X j (pc + 3) L st h Q) : m_wp X j pc L (.int x :: st) h Q :=
  wp_cond (fun go => by simp only [m_stp, hd, m_ins, m_cb]) ht (fun z => kt (of_decide_eq_true z)) (fun z => kf (by have := of_decide_eq_false z; simpa using this))
theorem wp_icmp_lt {x y : Int32} {off : Int} {tgt : Nat} (hd : decode (m_code j) pc = .ok (.if_icmp .lt off, 3)) (ht : (pc : Int) + off = (tgt : Int)) (kt : x < y → m_wp X j tgt L st h Q) (kf : ¬ x < y → m_wp X j (pc + 3) L st h Q) : m_wp X j pc L (.int y :: .int x :: st) h Q :=
  wp_cond (fun go => by simp only [m_stp, hd, m_ins, m_cb]) ht (fun z => kt (of_decide_eq_true z)) (fun z => kf (by have := of_decide_eq_false z; simpa using this))
theorem wp_if_ge {x : Int32} {off : Int} {tgt : Nat} (hd : decode (m_code j) pc = .ok (.ifCond .ge off, 3)) (ht : (pc : Int) + off = (tgt : Int)) (kt : 0 ≤ x → m_wp X j tgt L st h Q) (kf : ¬ 0 ≤ x → m_wp X j (pc + 3) L st h Q) : m_wp X j pc L (.int x :: st) h Q :=
  wp_cond (fun go => by simp only [m_stp, hd, m_ins, m_cb]) ht (fun z => kt (of_decide_eq_true z)) (fun z => kf (by have := of_decide_eq_false z; simpa using this))
theorem wp_icmp_ge {x y : Int32} {off : Int} {tgt : Nat} (hd : decode (m_code j) pc = .ok (.if_icmp .ge off, 3)) (ht : (pc : Int) + off = (tgt : Int)) (kt : y ≤ x → m_wp X j tgt L st h Q) (kf : ¬ y ≤ x → m_wp X j (pc + 3) L st h Q) : m_wp X j pc L (.int y :: .int x :: st) h Q :=
  wp_cond (fun go => by simp only [m_stp, hd, m_ins, m_cb]) ht (fun z => kt (of_decide_eq_true z)) (fun z => kf (by have := of_decide_eq_false z; simpa using this))
theorem wp_if_gt {x : Int32} {off : Int} {tgt : Nat} (hd : decode (m_code j) pc = .ok (.ifCond .gt off, 3)) (ht : (pc : Int) + off = (tgt : Int)) (kt : 0 < x → m_wp X j tgt L st h Q) (kf : ¬ 0 < x → m_wp X j (pc + 3) L st h Q) : m_wp X j pc L (.int x :: st) h Q :=
  wp_cond (fun go => by simp only [m_stp, hd, m_ins, m_cb]) ht (fun z => kt (of_decide_eq_true z)) (fun z => kf (by have := of_decide_eq_false z; simpa using this))
theorem wp_icmp_gt {x y : Int32} {off : Int} {tgt : Nat} (hd : decode (m_code j) pc = .ok (.if_icmp .gt off, 3)) (ht : (pc : Int) + off = (tgt : Int)) (kt : y < x → m_wp X j tgt L st h Q) (kf : ¬ y < x → m_wp X j (pc + 3) L st h Q) : m_wp X j pc L (.int y :: .int x :: st) h Q :=
  wp_cond (fun go => by simp only [m_stp, hd, m_ins, m_cb]) ht (fun z => kt (of_decide_eq_true z)) (fun z => kf (by have := of_decide_eq_false z; simpa using this))
theorem wp_if_le {x : Int32} {off : Int} {tgt : Nat} (hd : decode (m_code j) pc = .ok (.ifCond .le off, 3)) (ht : (pc : Int) + off = (tgt : Int)) (kt : x ≤ 0 → m_wp X j tgt L st h Q) (kf : ¬ x ≤ 0 → m_wp X j (pc + 3) L st h Q) : m_wp X j pc L (.int x :: st) h Q :=
  wp_cond (fun go => by simp only [m_stp, hd, m_ins, m_cb]) ht (fun z => kt (of_decide_eq_true z)) (fun z => kf (by have := of_decide_eq_false z; simpa using this))
theorem wp_icmp_le {x y : Int32} {off : Int} {tgt : Nat} (hd : decode (m_code j) pc = .ok (.if_icmp .le off, 3)) (ht : (pc : Int) + off = (tgt : Int)) (kt : x ≤ y → m_wp X j tgt L st h Q) (kf : ¬ x ≤ y → m_wp X j (pc + 3) L st h Q) : m_wp X j pc L (.int y :: .int x :: st) h Q :=
  wp_cond (fun go => by simp only [m_stp, hd, m_ins, m_cb]) ht (fun z => kt (of_decide_eq_true z)) (fun z => kf (by have := of_decide_eq_false z; simpa using this))
end WPR
end
section
section WPS
variable {X : mX} {j pc : Nat} {L : mL} {st rest : List Value} {h : mH} {Q : Option Value → mH → Prop}
theorem wp_tswOut {x : Int32} {d lo hi : Int} {offs : Array Int} {len tgt : Nat} (hd : decode (m_code j) pc = .ok (.tableswitch d lo hi offs, len)) (hx : x.toInt < lo ∨ hi < x.toInt) (ht : (pc : Int) + d = (tgt : Int)) (K : m_wp X j tgt L st h Q) : m_wp X j pc L (.int x :: st) h Q := by
  refine wp_one (fun go r hr => ?_) K
  simp only [m_stp, hd, m_ins, m_tsw, m_jump, if_pos hx, ht]
  rw [if_pos (Int.natCast_nonneg _)]
  exact hr
theorem wp_tswIn {x : Int32} {d lo hi off : Int} {offs : Array Int} {len tgt : Nat} (hd : decode (m_code j) pc = .ok (.tableswitch d lo hi offs, len)) (h1 : ¬ x.toInt < lo) (h2 : ¬ hi < x.toInt) (ho : offs[(x.toInt - lo).toNat]? = some off) (ht : (pc : Int) + off = (tgt : Int)) (K : m_wp X j tgt L st h Q) : m_wp X j pc L (.int x :: st) h Q := by
  refine wp_one (fun go r hr => ?_) K
  simp only [m_stp, hd, m_ins, m_tsw, m_jump, if_neg (not_or.mpr ⟨h1, h2⟩), ho, ht]
  rw [if_pos (Int.natCast_nonneg _)]
  exact hr
theorem wp_lsw {x : Int32} {d off : Int} {ps : Array (Int × Int)} {len tgt : Nat} (hd : decode (m_code j) pc = .ok (.lookupswitch d ps, len)) (hp : (ps.toList.zip (ps.toList.drop 1)).all (fun (a, next) => a.1 < next.1) = true) (ho : Op.lookupswitch.offset ps.toList d x.toInt = off) (ht : (pc : Int) + off = (tgt : Int)) (K : m_wp X j tgt L st h Q) : m_wp X j pc L (.int x :: st) h Q := by
  refine wp_one (fun go r hr => ?_) K
  simp only [m_stp, hd, m_ins, m_lsw, m_jump, ho, ht]
  rw [if_pos hp, if_pos (Int.natCast_nonneg _)]
  exact hr
theorem wp_dup {v : Value} (hd : decode (m_code j) pc = .ok (.dup, 1)) (hc : m_c1 v = true) (K : m_wp X j (pc + 1) L (v :: v :: st) h Q) : m_wp X j pc L (v :: st) h Q := by
  refine wp_one (fun go r hr => ?_) K
  simp only [m_stp, hd, m_ins]
  rw [if_pos ⟨trivial, hc⟩]
  exact hr
theorem wp_dup2 {v w : Value} (hd : decode (m_code j) pc = .ok (.dup2, 1)) (hc : m_c1 v = true) (hc2 : m_c1 w = true) (K : m_wp X j (pc + 1) L (v :: w :: v :: w :: st) h Q) : m_wp X j pc L (v :: w :: st) h Q := by
  refine wp_one (fun go r hr => ?_) K
  simp only [m_stp, hd, m_ins]
  rw [if_pos ⟨trivial, hc, hc2⟩]
  exact hr
theorem wp_getf {idx a e ci k : Nat} {nest : Bool} {fs : List Value} {v : Value} (hd : decode (m_code j) pc = .ok (.getfield idx, 3)) (hf : m_findF (m_own j) idx = some (e, ci, k, nest)) (hg : m_get h a = some (.inr (ci, fs))) (hv : fs[k]? = some v) (K : m_wp X j (pc + 3) L (v :: st) h Q) : m_wp X j pc L (.ref a :: st) h Q := by
  refine wp_one (fun go r hr => ?_) K
  simp only [m_stp, hd, m_ins, m_getf, hf, hg, hv, and_self, if_true]
  exact hr
theorem wp_putf {idx a e ci k : Nat} {nest : Bool} {fs : List Value} {v : Value} (hd : decode (m_code j) pc = .ok (.putfield idx, 3)) (hf : m_findF (m_own j) idx = some (e, ci, k, nest)) (hg : m_get h a = some (.inr (ci, fs))) (hk : k < fs.length) (hfit : m_fit (((m_tys[ci]?.getD [])[k]?).getD .int) v = true)
    (hfin : ((m_clsQ ci).2.1 k).2.2.2 = false ∨ (nest = false ∧ (m_y j).name = "<init>" ∧ (m_clsQ ci).1 = m_ownS (m_own j))) (K : m_wp X j (pc + 3) L st (m_set h a (.inr (ci, fs.set k v))) Q) : m_wp X j pc L (v :: .ref a :: st) h Q := by
  refine wp_one (fun go r hr => ?_) K
  simp only [m_stp, hd, m_ins, m_putf, hf, hg]
  rw [if_pos ⟨trivial, trivial, hk, hfit, hfin⟩]
  exact hr
theorem wp_iald {a n : Nat} {f : Nat → Int32} {i v : Int32} (hd : decode (m_code j) pc = .ok (.iaload, 1)) (hg : m_get h a = some (.inl (false, n, f))) (hi : ¬ (i < 0 ∨ n ≤ i.toNatClampNeg)) (hv : f i.toNatClampNeg = v) (K : m_wp X j (pc + 1) L (.int v :: st) h Q) : m_wp X j pc L (.int i :: .ref a :: st) h Q := by
  subst hv
  refine wp_one (fun go r hr => ?_) K
  simp only [m_stp, hd, m_ins, m_ald, hg]
  rw [if_pos ⟨trivial, trivial, hi⟩]
  exact hr
theorem wp_cald {a n : Nat} {f : Nat → Int32} {i v : Int32} (hd : decode (m_code j) pc = .ok (.caload, 1)) (hg : m_get h a = some (.inl (true, n, f))) (hi : ¬ (i < 0 ∨ n ≤ i.toNatClampNeg)) (hv : f i.toNatClampNeg = v) (K : m_wp X j (pc + 1) L (.int v :: st) h Q) : m_wp X j pc L (.int i :: .ref a :: st) h Q := by
  subst hv
  refine wp_one (fun go r hr => ?_) K
  simp only [m_stp, hd, m_ins, m_ald, hg]
  rw [if_pos ⟨trivial, trivial, hi⟩]
  exact hr
theorem wp_sald {q : UInt32} {i v : Int32} (hd : decode (m_code j) pc = .ok (.iaload, 1)) (hi : ¬ (i < 0 ∨ X.1 ≤ i.toNatClampNeg)) (hv : X.2 i.toNatClampNeg = v) (K : m_wp X j (pc + 1) L (.int v :: st) h Q) : m_wp X j pc L (.int i :: .float q :: st) h Q := by
  subst hv
  refine wp_one (fun go r hr => ?_) K
  simp only [m_stp, hd, m_ins, m_ald]
  rw [if_pos ⟨trivial, trivial, hi⟩]
  exact hr
theorem wp_iast {a n : Nat} {f : Nat → Int32} {i x : Int32} (hd : decode (m_code j) pc = .ok (.iastore, 1)) (hg : m_get h a = some (.inl (false, n, f))) (hi : ¬ (i < 0 ∨ n ≤ i.toNatClampNeg)) (K : m_wp X j (pc + 1) L st (m_set h a (.inl (false, n, upd f i.toNatClampNeg x))) Q) : m_wp X j pc L (.int x :: .int i :: .ref a :: st) h Q := by
  refine wp_one (fun go r hr => ?_) K
  simp only [m_stp, hd, m_ins, m_ast, hg]
  rw [if_pos ⟨trivial, trivial, hi⟩]
  exact hr
theorem wp_cast {a n : Nat} {f : Nat → Int32} {i x : Int32} (hd : decode (m_code j) pc = .ok (.castore, 1)) (hg : m_get h a = some (.inl (true, n, f))) (hi : ¬ (i < 0 ∨ n ≤ i.toNatClampNeg)) (K : m_wp X j (pc + 1) L st (m_set h a (.inl (true, n, upd f i.toNatClampNeg (vp_nar .char x)))) Q) : m_wp X j pc L (.int x :: .int i :: .ref a :: st) h Q := by
  refine wp_one (fun go r hr => ?_) K
  simp only [m_stp, hd, m_ins, m_ast, hg]
  rw [if_pos ⟨trivial, trivial, hi⟩]
  exact hr
theorem wp_alen {a n : Nat} {b : Bool} {f : Nat → Int32} {v : Int32} (hd : decode (m_code j) pc = .ok (.arraylength, 1)) (hg : m_get h a = some (.inl (b, n, f))) (hv : Int32.ofNat n = v) (K : m_wp X j (pc + 1) L (.int v :: st) h Q) : m_wp X j pc L (.ref a :: st) h Q := by
  subst hv
  refine wp_one (fun go r hr => ?_) K
  simp only [m_stp, hd, m_ins, m_alen, hg, if_true]
  exact hr
theorem wp_slen {q : UInt32} {v : Int32} (hd : decode (m_code j) pc = .ok (.arraylength, 1)) (hv : Int32.ofNat X.1 = v) (K : m_wp X j (pc + 1) L (.int v :: st) h Q) : m_wp X j pc L (.float q :: st) h Q := by
  subst hv
  refine wp_one (fun go r hr => ?_) K
  simp only [m_stp, hd, m_ins, m_alen, if_true]
  exact hr
theorem wp_newi {n : Int32} {N : Nat} (hd : decode (m_code j) pc = .ok (.newarray .int, 2)) (hn : ¬ n < 0) (hN : n.toNatClampNeg = N) (hb : N ≤ 100000) (K : m_wp X j (pc + 2) L (.ref h.1.length :: st) (m_new h (.inl (false, N, fun _ => 0)) N) Q) : m_wp X j pc L (.int n :: st) h Q := by
  subst hN
  refine wp_one (fun go r hr => ?_) K
  simp only [m_stp, hd, m_ins, m_newa]
  rw [if_pos ⟨trivial, hn, hb⟩]
  exact hr
theorem wp_newc {n : Int32} {N : Nat} (hd : decode (m_code j) pc = .ok (.newarray .char, 2)) (hn : ¬ n < 0) (hN : n.toNatClampNeg = N) (hb : N ≤ 100000) (K : m_wp X j (pc + 2) L (.ref h.1.length :: st) (m_new h (.inl (true, N, fun _ => 0)) N) Q) : m_wp X j pc L (.int n :: st) h Q := by
  subst hN
  refine wp_one (fun go r hr => ?_) K
  simp only [m_stp, hd, m_ins, m_newa]
  rw [if_pos ⟨trivial, hn, hb⟩]
  exact hr
theorem wp_newo {idx e ci : Nat} (hd : decode (m_code j) pc = .ok (.new idx, 3)) (hf : m_findK (m_own j) idx = some (e, ci)) (K : m_wp X j (pc + 3) L (.ref h.1.length :: st) (m_new h (.inr (ci, m_df ci)) (m_clsQ ci).2.2) Q) : m_wp X j pc L st h Q := by
  refine wp_one (fun go r hr => ?_) K
  simp only [m_stp, hd, m_ins, m_newo, hf, if_true]
  exact hr
/-- a call: the callee's answer is what its contract says; go on from there -/
theorem wp_call {j2 : Nat} {as : List Value} {st0 : List Value} {Q2 : Option Value → mH → Prop} (hs : ∀ (go : mG), m_stp X go j pc L st0 h = m_call go j pc 3 j2 as rest L h) (h1 : rest.length ≤ 8) (h2 : rest.all m_c1 = true) (h3 : as.all m_c1 = true) (h4 : as.length ≤ m_nl j2) (h5 : m_fr j2 + 1 ≤ m_fr j)
    (hC : m_wp X j2 0 (m_entry j2 as) [] h Q2) (K : ∀ v h1, Q2 v h1 → m_wp X j (pc + 3) L (v.toList ++ rest) h1 Q) : m_wp X j pc L st0 h Q := by
  obtain ⟨k, v, hh, hk, hq⟩ := hC
  obtain ⟨k2, v2, h6, hk2, hq2⟩ := K v hh hq
  refine ⟨max k k2 + 1, v2, h6, ?_, hq2⟩
  show m_stp X (m_run X (max k k2)) j pc L st0 h = _
  rw [hs, m_call, if_pos ⟨rfl, h1, h2, h3, h4, h5⟩, m_le_run (Nat.le_max_left k k2) _ _ _ _ _ _ hk]
  exact m_le_run (Nat.le_max_right k k2) _ _ _ _ _ _ hk2
theorem wp_invv {idx e j2 a ci n : Nat} {fs : List Value} {asr as : List Value} {st0 : List Value} {Q2 : Option Value → mH → Prop} (hd : decode (m_code j) pc = .ok (.invokevirtual idx, 3)) (hf : m_findM (m_own j) idx = some (e, 2, j2)) (hn : m_np j2 = n) (ht : st0.take n = asr) (hdr : st0.drop n = .ref a :: rest) (has : asr.reverse = as)
    (hg : m_get h a = some (.inr (ci, fs))) (hc : (m_clsQ ci).1 = (m_y j2).cls ∧ ci < m_cls.length) (h1 : rest.length ≤ 8) (h2 : rest.all m_c1 = true) (h3 : as.all m_c1 = true) (h4 : as.length + 1 ≤ m_nl j2) (h5 : m_fr j2 + 1 ≤ m_fr j)
    (hC : m_wp X j2 0 (m_entry j2 (.ref a :: as)) [] h Q2) (K : ∀ v h1, Q2 v h1 → m_wp X j (pc + 3) L (v.toList ++ rest) h1 Q) : m_wp X j pc L st0 h Q := by
  refine wp_call (as := .ref a :: as) (fun go => ?_) h1 h2 (by rw [List.all_cons, h3]; rfl) (by rw [List.length_cons]; exact h4) h5 hC K
  simp only [m_stp, hd, m_ins, m_invv, hf, hn, hdr, hg, if_true]
  rw [if_pos hc, ht, has]
theorem wp_invs {idx e j2 n : Nat} {asr as : List Value} {st0 : List Value} {Q2 : Option Value → mH → Prop} (hd : decode (m_code j) pc = .ok (.invokestatic idx, 3)) (hf : m_findM (m_own j) idx = some (e, 3, j2)) (hn : m_np j2 = n) (ht : st0.take n = asr) (hdr : st0.drop n = rest) (has : asr.reverse = as) (hl : n ≤ st0.length)
    (h1 : rest.length ≤ 8) (h2 : rest.all m_c1 = true) (h3 : as.all m_c1 = true) (h4 : as.length ≤ m_nl j2) (h5 : m_fr j2 + 1 ≤ m_fr j)
    (hC : m_wp X j2 0 (m_entry j2 as) [] h Q2) (K : ∀ v h1, Q2 v h1 → m_wp X j (pc + 3) L (v.toList ++ rest) h1 Q) : m_wp X j pc L st0 h Q := by
  refine wp_call (as := as) (fun go => ?_) h1 h2 h3 h4 h5 hC K
  simp only [m_stp, hd, m_ins, m_invs, hf, hn, hdr, if_true]
  rw [if_pos hl, ht, has]
theorem wp_invi {idx e j2 a n kind : Nat} {asr as : List Value} {st0 : List Value} {Q2 : Option Value → mH → Prop} (hd : decode (m_code j) pc = .ok (.invokespecial idx, 3)) (hf : m_findM (m_own j) idx = some (e, kind, j2)) (hk : kind ≤ 1) (hn : m_np j2 = n) (ht : st0.take n = asr) (hdr : st0.drop n = .ref a :: rest) (has : asr.reverse = as)
    (h1 : rest.length ≤ 8) (h2 : rest.all m_c1 = true) (h3 : as.all m_c1 = true) (h4 : as.length + 1 ≤ m_nl j2) (h5 : m_fr j2 + 1 ≤ m_fr j)
    (hC : m_wp X j2 0 (m_entry j2 (.ref a :: as)) [] h Q2) (K : ∀ v h1, Q2 v h1 → m_wp X j (pc + 3) L (v.toList ++ rest) h1 Q) : m_wp X j pc L st0 h Q := by
  refine wp_call (as := .ref a :: as) (fun go => ?_) h1 h2 (by rw [List.all_cons, h3]; rfl) (by rw [List.length_cons]; exact h4) h5 hC K
  simp only [m_stp, hd, m_ins, m_invi, hf]
  rw [if_neg (by omega), if_pos hk, hn, hdr]
  simp only []
  rw [ht, has]
theorem wp_obj {idx e j2 a : Nat} (hd : decode (m_code j) pc = .ok (.invokespecial idx, 3)) (hf : m_findM (m_own j) idx = some (e, 4, j2)) (h1 : st.length ≤ 8) (h2 : st.all m_c1 = true) (h3 : 1 ≤ m_fr j) (K : m_wp X j (pc + 3) L st h Q) : m_wp X j pc L (.ref a :: st) h Q := by
  refine wp_one (fun go r hr => ?_) K
  simp only [m_stp, hd, m_ins, m_invi, hf, if_true]
  rw [if_pos ⟨trivial, h1, h2, h3⟩]
  exact hr
theorem wp_max {idx e j2 : Nat} {x y v : Int32} (hd : decode (m_code j) pc = .ok (.invokestatic idx, 3)) (hf : m_findM (m_own j) idx = some (e, 6, j2)) (h1 : st.length ≤ 8) (h2 : st.all m_c1 = true) (h3 : 1 ≤ m_fr j) (hv : (if x < y then y else x) = v) (K : m_wp X j (pc + 3) L (.int v :: st) h Q) : m_wp X j pc L (.int y :: .int x :: st) h Q := by
  subst hv
  refine wp_one (fun go r hr => ?_) K
  simp only [m_stp, hd, m_ins, m_invs, hf, if_true, true_or]
  rw [if_neg (by decide), if_neg (by decide), if_pos ⟨trivial, h1, h2, h3⟩]
  exact hr
theorem wp_min {idx e j2 : Nat} {x y v : Int32} (hd : decode (m_code j) pc = .ok (.invokestatic idx, 3)) (hf : m_findM (m_own j) idx = some (e, 7, j2)) (h1 : st.length ≤ 8) (h2 : st.all m_c1 = true) (h3 : 1 ≤ m_fr j) (hv : (if y < x then y else x) = v) (K : m_wp X j (pc + 3) L (.int v :: st) h Q) : m_wp X j pc L (.int y :: .int x :: st) h Q := by
  subst hv
  refine wp_one (fun go r hr => ?_) K
  simp only [m_stp, hd, m_ins, m_invs, hf, or_true, if_true]
  rw [if_neg (by decide), if_neg (by decide), if_pos ⟨trivial, h1, h2, h3⟩, if_neg (by decide)]
  exact hr
theorem wp_copy {idx e j2 a a0 n0 n1 : Nat} {f g : Nat → Int32} {sp dp n : Int32} {sn dn nn : Nat} (hd : decode (m_code j) pc = .ok (.invokestatic idx, 3)) (hf : m_findM (m_own j) idx = some (e, 5, j2)) (hg0 : m_get h a0 = some (.inl (false, n0, f))) (hg1 : m_get h a = some (.inl (false, n1, g)))
    (hsp : ¬ sp < 0) (hdp : ¬ dp < 0) (hn : ¬ n < 0) (es : sp.toNatClampNeg = sn) (ed : dp.toNatClampNeg = dn) (en : n.toNatClampNeg = nn) (hl0 : sn + nn ≤ n0) (hl1 : dn + nn ≤ n1) (h1 : st.length ≤ 8) (h2 : st.all m_c1 = true) (h3 : 1 ≤ m_fr j)
    (K : m_wp X j (pc + 3) L st (m_set h a (.inl (false, n1, va_cpy f g sn dn nn))) Q) : m_wp X j pc L (.int n :: .int dp :: .ref a :: .int sp :: .ref a0 :: st) h Q := by
  subst es
  subst ed
  subst en
  refine wp_one (fun go r hr => ?_) K
  simp only [m_stp, hd, m_ins, m_invs, hf, if_true]
  rw [if_neg (by decide)]
  simp only [hg0, hg1]
  rw [if_pos ⟨trivial, hsp, hdp, hn, hl0, hl1, h1, h2, h3⟩]
  exact hr
theorem wp_iret {x : Int32} (hd : decode (m_code j) pc = .ok (.ireturn, 1)) (hr : m_ret j = some .int) (hQ : Q (some (.int x)) h) : m_wp X j pc L [.int x] h Q := by
  refine ⟨1, _, _, ?_, hQ⟩
  show m_stp X _ j pc L _ h = _
  simp only [m_stp, hd, m_ins, m_retn]
  rw [if_pos ⟨trivial, Or.inl hr⟩]
theorem wp_zret {x : Int32} (hd : decode (m_code j) pc = .ok (.ireturn, 1)) (hr : m_ret j = some .boolean) (hx : x = 0 ∨ x = 1) (hQ : Q (some (.int x)) h) : m_wp X j pc L [.int x] h Q := by
  refine ⟨1, _, _, ?_, hQ⟩
  show m_stp X _ j pc L _ h = _
  simp only [m_stp, hd, m_ins, m_retn]
  rw [if_pos ⟨trivial, Or.inr ⟨hr, hx⟩⟩]
theorem wp_vret (hd : decode (m_code j) pc = .ok (.return_, 1)) (hr : m_ret j = none) (hQ : Q none h) : m_wp X j pc L [] h Q := by
  refine ⟨1, _, _, ?_, hQ⟩
  show m_stp X _ j pc L _ h = _
  simp only [m_stp, hd, m_ins, hr, and_self, if_true]
theorem wp_aret {a : Nat} (hd : decode (m_code j) pc = .ok (.areturn, 1)) (hr : m_ret j = some (.array .int)) (hQ : Q (some (.ref a)) h) : m_wp X j pc L [.ref a] h Q := by
  refine ⟨1, _, _, ?_, hQ⟩
  show m_stp X _ j pc L _ h = _
  simp only [m_stp, hd, m_ins, hr, and_self, if_true]
/-- the law's answer -/
theorem wp_run {v : Option Value} {h1 : mH} (hw : ∃ k, m_run X k j pc L st h = some (v, h1)) : Runs X j pc L st h (v, h1) := hw
end WPS
end
section
/-! Words for what follows: truth as an int, sums with a name, contracts of methods that only tell. -/
def m_b (p : Prop) [Decidable p] : Int32 := if p then 1 else 0
theorem m_b_t {p : Prop} [Decidable p] (h : p) : m_b p = 1 := if_pos h
theorem m_b_f {p : Prop} [Decidable p] (h : ¬ p) : m_b p = 0 := if_neg h
theorem m_b_01 (p : Prop) [Decidable p] : m_b p = 0 ∨ m_b p = 1 := by
  by_cases h : p
  · exact Or.inr (m_b_t h)
  · exact Or.inl (m_b_f h)
theorem m_b_eq {p : Prop} [Decidable p] (h : m_b p = 0) : ¬ p := fun q => by rw [m_b_t q] at h; exact absurd h (by decide)
theorem m_b_ne {p : Prop} [Decidable p] (h : ¬ m_b p = 0) : p := Classical.byContradiction fun q => h (m_b_f q)
theorem nI_mul (a b : Nat) : nI a * nI b = nI (a * b) := (Int32.ofNat_mul a b).symm
theorem nI_sub {a b : Nat} (h : b ≤ a) (ha : a < 2 ^ 31) : nI a - nI b = nI (a - b) := by
  apply Int32.toInt_inj.mp
  rw [Int32.toInt_sub, nI_toInt ha, nI_toInt (by omega), nI_toInt (by omega)]
  rw [Int.bmod_eq_of_le (by omega) (by omega)]
  omega
theorem nI_nat {k : Nat} (h : k < 2 ^ 31) : (nI k).toNatClampNeg = k := nI_clamp h
section WPT
variable {X : mX} {j pc : Nat} {L : mL} {st rest : List Value} {h : mH} {Q : Option Value → mH → Prop}
theorem wp_iaddv {x y v : Int32} (hd : decode (m_code j) pc = .ok (.iadd, 1)) (hv : x + y = v) (K : m_wp X j (pc + 1) L (.int v :: st) h Q) : m_wp X j pc L (.int y :: .int x :: st) h Q := wp_iadd hd (by rw [hv]; exact K)
theorem wp_isubv {x y v : Int32} (hd : decode (m_code j) pc = .ok (.isub, 1)) (hv : x - y = v) (K : m_wp X j (pc + 1) L (.int v :: st) h Q) : m_wp X j pc L (.int y :: .int x :: st) h Q := wp_isub hd (by rw [hv]; exact K)
theorem wp_imulv {x y v : Int32} (hd : decode (m_code j) pc = .ok (.imul, 1)) (hv : x * y = v) (K : m_wp X j (pc + 1) L (.int v :: st) h Q) : m_wp X j pc L (.int y :: .int x :: st) h Q := wp_imul hd (by rw [hv]; exact K)
theorem wp_iandv {x y v : Int32} (hd : decode (m_code j) pc = .ok (.iand, 1)) (hv : x &&& y = v) (K : m_wp X j (pc + 1) L (.int v :: st) h Q) : m_wp X j pc L (.int y :: .int x :: st) h Q := wp_iand hd (by rw [hv]; exact K)
theorem wp_iorv {x y v : Int32} (hd : decode (m_code j) pc = .ok (.ior, 1)) (hv : x ||| y = v) (K : m_wp X j (pc + 1) L (.int v :: st) h Q) : m_wp X j pc L (.int y :: .int x :: st) h Q := wp_ior hd (by rw [hv]; exact K)
theorem wp_ixorv {x y v : Int32} (hd : decode (m_code j) pc = .ok (.ixor, 1)) (hv : x ^^^ y = v) (K : m_wp X j (pc + 1) L (.int v :: st) h Q) : m_wp X j pc L (.int y :: .int x :: st) h Q := wp_ixor hd (by rw [hv]; exact K)
theorem wp_ishlv {x y v : Int32} (hd : decode (m_code j) pc = .ok (.ishl, 1)) (hv : x <<< (y &&& 31) = v) (K : m_wp X j (pc + 1) L (.int v :: st) h Q) : m_wp X j pc L (.int y :: .int x :: st) h Q := wp_ishl hd (by rw [hv]; exact K)
theorem wp_ishrv {x y v : Int32} (hd : decode (m_code j) pc = .ok (.ishr, 1)) (hv : x >>> (y &&& 31) = v) (K : m_wp X j (pc + 1) L (.int v :: st) h Q) : m_wp X j pc L (.int y :: .int x :: st) h Q := wp_ishr hd (by rw [hv]; exact K)
theorem wp_idivv {x y v : Int32} (hd : decode (m_code j) pc = .ok (.idiv, 1)) (hy : ¬ y = 0) (hv : x / y = v) (K : m_wp X j (pc + 1) L (.int v :: st) h Q) : m_wp X j pc L (.int y :: .int x :: st) h Q := wp_idiv hd hy (by rw [hv]; exact K)
theorem wp_iremv {x y v : Int32} (hd : decode (m_code j) pc = .ok (.irem, 1)) (hy : ¬ y = 0) (hv : x - x / y * y = v) (K : m_wp X j (pc + 1) L (.int v :: st) h Q) : m_wp X j pc L (.int y :: .int x :: st) h Q := wp_irem hd hy (by rw [hv]; exact K)
theorem wp_ifb_eq {p : Prop} [Decidable p] {off : Int} {tgt : Nat} (hd : decode (m_code j) pc = .ok (.ifCond .eq off, 3)) (ht : (pc : Int) + off = (tgt : Int)) (kt : ¬ p → m_wp X j tgt L st h Q) (kf : p → m_wp X j (pc + 3) L st h Q) : m_wp X j pc L (.int (m_b p) :: st) h Q :=
  wp_if_eq hd ht (fun z => kt (m_b_eq z)) (fun z => kf (m_b_ne z))
theorem wp_ifb_ne {p : Prop} [Decidable p] {off : Int} {tgt : Nat} (hd : decode (m_code j) pc = .ok (.ifCond .ne off, 3)) (ht : (pc : Int) + off = (tgt : Int)) (kt : p → m_wp X j tgt L st h Q) (kf : ¬ p → m_wp X j (pc + 3) L st h Q) : m_wp X j pc L (.int (m_b p) :: st) h Q :=
  wp_if_ne hd ht (fun z => kt (m_b_ne z)) (fun z => kf (m_b_eq z))
end WPT
/-- a method that tells r and leaves the heap -/
abbrev Tells (X : mX) (j : Nat) (as : List Value) (h : mH) (r : Int32) : Prop := m_wp X j 0 (m_entry j as) [] h (fun v h1 => v = some (.int r) ∧ h1 = h)
section WPU
variable {X : mX} {j pc : Nat} {L : mL} {st rest : List Value} {h : mH} {Q : Option Value → mH → Prop}
theorem wp_invvT {idx e j2 a ci n : Nat} {fs : List Value} {asr as : List Value} {st0 : List Value} {r : Int32} (hd : decode (m_code j) pc = .ok (.invokevirtual idx, 3)) (hf : m_findM (m_own j) idx = some (e, 2, j2)) (hn : m_np j2 = n) (ht : st0.take n = asr) (hdr : st0.drop n = .ref a :: rest) (has : asr.reverse = as)
    (hg : m_get h a = some (.inr (ci, fs))) (hc : (m_clsQ ci).1 = (m_y j2).cls ∧ ci < m_cls.length) (h1 : rest.length ≤ 8) (h2 : rest.all m_c1 = true) (h3 : as.all m_c1 = true) (h4 : as.length + 1 ≤ m_nl j2) (h5 : m_fr j2 + 1 ≤ m_fr j)
    (hC : Tells X j2 (.ref a :: as) h r) (K : m_wp X j (pc + 3) L (.int r :: rest) h Q) : m_wp X j pc L st0 h Q :=
  wp_invv hd hf hn ht hdr has hg hc h1 h2 h3 h4 h5 hC (fun v h1 hq => by rw [hq.1, hq.2]; exact K)
theorem wp_invsT {idx e j2 n : Nat} {asr as : List Value} {st0 : List Value} {r : Int32} (hd : decode (m_code j) pc = .ok (.invokestatic idx, 3)) (hf : m_findM (m_own j) idx = some (e, 3, j2)) (hn : m_np j2 = n) (ht : st0.take n = asr) (hdr : st0.drop n = rest) (has : asr.reverse = as) (hl : n ≤ st0.length)
    (h1 : rest.length ≤ 8) (h2 : rest.all m_c1 = true) (h3 : as.all m_c1 = true) (h4 : as.length ≤ m_nl j2) (h5 : m_fr j2 + 1 ≤ m_fr j)
    (hC : Tells X j2 as h r) (K : m_wp X j (pc + 3) L (.int r :: rest) h Q) : m_wp X j pc L st0 h Q :=
  wp_invs hd hf hn ht hdr has hl h1 h2 h3 h4 h5 hC (fun v h1 hq => by rw [hq.1, hq.2]; exact K)
end WPU
/-- a region of cells: cell o at B + o, with the contents M o -/
def Reg (h : mH) (B n : Nat) (c : Nat → (Nat → Int32) → mC) (M : Nat → Nat → Int32) : Prop := ∀ o, o < n → m_get h (B + o) = some (c o (M o))
def updM (M : Nat → Nat → Int32) (o i : Nat) (v : Int32) : Nat → Nat → Int32 := fun o' => if o' = o then upd (M o) i v else M o'
def stM (M : Nat → Nat → Int32) (o : Nat) (f : Nat → Int32) : Nat → Nat → Int32 := fun o' => if o' = o then f else M o'
theorem m_get_same {h : mH} {a : Nat} {c c0 : mC} (h0 : m_get h a = some c0) : m_get (m_set h a c) a = some c := by
  unfold m_get m_set at *
  have hl := (List.getElem?_eq_some_iff.mp h0).1
  simp [hl]
theorem m_get_ne {h : mH} {a b : Nat} {c : mC} (hab : a ≠ b) : m_get (m_set h a c) b = m_get h b := by
  unfold m_get m_set
  simp [hab]
theorem Reg.setM {h : mH} {B n o : Nat} {c : Nat → (Nat → Int32) → mC} {M : Nat → Nat → Int32} {f : Nat → Int32} {cl : mC} (hR : Reg h B n c M) (ho : o < n) (hc : c o f = cl) : Reg (m_set h (B + o) cl) B n c (stM M o f) := by
  intro o' ho'
  by_cases e : o' = o
  · subst e
    rw [m_get_same (hR o' ho'), ← hc]
    simp [stM]
  · rw [m_get_ne (by omega), hR o' ho']
    simp [stM, e]
theorem Reg.out {h : mH} {B n a : Nat} {c : Nat → (Nat → Int32) → mC} {M : Nat → Nat → Int32} {cl : mC} (hR : Reg h B n c M) (ha : a < B ∨ B + n ≤ a) : Reg (m_set h a cl) B n c M := by
  intro o ho
  rw [m_get_ne (by omega)]
  exact hR o ho
/-- the same heap but for the cells from B to B + n -/
def Frm (h h1 : mH) (B n : Nat) : Prop := h1.1.length = h.1.length ∧ h1.2 = h.2 ∧ ∀ a, (a < B ∨ B + n ≤ a) → m_get h1 a = m_get h a
theorem Frm.rf {h : mH} {B n : Nat} : Frm h h B n := ⟨rfl, rfl, fun _ _ => rfl⟩
theorem Frm.trans {h h1 h2 : mH} {B n : Nat} (a : Frm h h1 B n) (b : Frm h1 h2 B n) : Frm h h2 B n := ⟨b.1.trans a.1, b.2.1.trans a.2.1, fun q hq => (b.2.2 q hq).trans (a.2.2 q hq)⟩
theorem Frm.set {h : mH} {B n o : Nat} {cl : mC} (ho : o < n) : Frm h (m_set h (B + o) cl) B n := by
  refine ⟨by simp [m_set], rfl, fun a ha => m_get_ne (by omega)⟩
theorem Reg.frm {h h1 : mH} {B n B2 n2 : Nat} {c : Nat → (Nat → Int32) → mC} {M : Nat → Nat → Int32} (hR : Reg h B n c M) (hF : Frm h h1 B2 n2) (hd : B + n ≤ B2 ∨ B2 + n2 ≤ B) : Reg h1 B n c M := by
  intro o ho
  rw [hF.2.2 (B + o) (by omega)]
  exact hR o ho
theorem updM_eq (M : Nat → Nat → Int32) (o i : Nat) (v : Int32) : updM M o i v = stM M o (upd (M o) i v) := rfl
end
section
/-! The reference's cells, and its small methods. -/
def mdlC (o : Nat) (f : Nat → Int32) : mC :=
  match o with
  | 0 => .inr (12, [.ref 314, .ref 315, .ref 316, .int (f 3), .ref 317, .int (f 5), .ref 318, .int (f 7), .ref 319, .ref 320, .int (f 10)])
  | 1 => .inl (false, 4178, f)
  | 2 => .inl (false, 4178, f)
  | 3 => .inl (false, 4178, f)
  | 4 => .inl (false, 16712, f)
  | 5 => .inl (false, 60, f)
  | 6 => .inl (false, 12, f)
  | _ => .inl (false, 60, f)
abbrev Mdl (h : mH) (R : Nat → Nat → Int32) : Prop := Reg h 313 8 mdlC R
/-- the state's row by itself -/
abbrev Ms (h : mH) (R : Nat → Nat → Int32) (σ : Nat → Int32) : Prop := Mdl h (stM R 1 σ)
theorem md_0 {h : mH} {R : Nat → Nat → Int32} {σ : Nat → Int32} (hR : Ms h R σ) : m_get h 313 = some (.inr (12, [.ref 314, .ref 315, .ref 316, .int (R 0 3), .ref 317, .int (R 0 5), .ref 318, .int (R 0 7), .ref 319, .ref 320, .int (R 0 10)])) := hR 0 (by decide)
theorem md_1 {h : mH} {R : Nat → Nat → Int32} {σ : Nat → Int32} (hR : Ms h R σ) : m_get h 314 = some (.inl (false, 4178, σ)) := hR 1 (by decide)
theorem md_2 {h : mH} {R : Nat → Nat → Int32} {σ : Nat → Int32} (hR : Ms h R σ) : m_get h 315 = some (.inl (false, 4178, R 2)) := hR 2 (by decide)
theorem md_3 {h : mH} {R : Nat → Nat → Int32} {σ : Nat → Int32} (hR : Ms h R σ) : m_get h 316 = some (.inl (false, 4178, R 3)) := hR 3 (by decide)
theorem md_4 {h : mH} {R : Nat → Nat → Int32} {σ : Nat → Int32} (hR : Ms h R σ) : m_get h 317 = some (.inl (false, 16712, R 4)) := hR 4 (by decide)
theorem md_5 {h : mH} {R : Nat → Nat → Int32} {σ : Nat → Int32} (hR : Ms h R σ) : m_get h 318 = some (.inl (false, 60, R 5)) := hR 5 (by decide)
theorem md_6 {h : mH} {R : Nat → Nat → Int32} {σ : Nat → Int32} (hR : Ms h R σ) : m_get h 319 = some (.inl (false, 12, R 6)) := hR 6 (by decide)
theorem md_7 {h : mH} {R : Nat → Nat → Int32} {σ : Nat → Int32} (hR : Ms h R σ) : m_get h 320 = some (.inl (false, 60, R 7)) := hR 7 (by decide)
theorem nI_pred_le {v : Int32} {n : Nat} (hn : n < 2 ^ 31) : v ≤ nI n - 1 ↔ v < nI n := by
  have e : (nI n - 1).toInt = (n : Int) - 1 := by
    rw [Int32.toInt_sub, nI_toInt hn, show (1 : Int32).toInt = 1 from rfl, Int.bmod_eq_of_le (by omega) (by omega)]
  rw [Int32.le_iff_toInt_le, Int32.lt_iff_toInt_lt, e, nI_toInt hn]
  omega
theorem d209_0 : decode (m_code 209) 0 = .ok (.iload_n 0, 1) := by decide +kernel
theorem d209_1 : decode (m_code 209) 1 = .ok (.iconst 0, 1) := by decide +kernel
theorem d209_2 : decode (m_code 209) 2 = .ok (.iconst 5, 1) := by decide +kernel
theorem d209_3 : decode (m_code 209) 3 = .ok (.invokestatic 39, 3) := by decide +kernel
theorem d209_6 : decode (m_code 209) 6 = .ok (.ireturn, 1) := by decide +kernel
theorem d210_0 : decode (m_code 210) 0 = .ok (.iload_n 0, 1) := by decide +kernel
theorem d210_1 : decode (m_code 210) 1 = .ok (.iload_n 1, 1) := by decide +kernel
theorem d210_2 : decode (m_code 210) 2 = .ok (.if_icmp .lt 12, 3) := by decide +kernel
theorem d210_5 : decode (m_code 210) 5 = .ok (.iload_n 0, 1) := by decide +kernel
theorem d210_6 : decode (m_code 210) 6 = .ok (.iload_n 2, 1) := by decide +kernel
theorem d210_7 : decode (m_code 210) 7 = .ok (.if_icmp .gt 7, 3) := by decide +kernel
theorem d210_10 : decode (m_code 210) 10 = .ok (.iconst 1, 1) := by decide +kernel
theorem d210_11 : decode (m_code 210) 11 = .ok (.goto 4, 3) := by decide +kernel
theorem d210_14 : decode (m_code 210) 14 = .ok (.iconst 0, 1) := by decide +kernel
theorem d210_15 : decode (m_code 210) 15 = .ok (.ireturn, 1) := by decide +kernel
theorem d211_0 : decode (m_code 211) 0 = .ok (.iload_n 0, 1) := by decide +kernel
theorem d211_1 : decode (m_code 211) 1 = .ok (.iconst 0, 1) := by decide +kernel
theorem d211_2 : decode (m_code 211) 2 = .ok (.sipush 240, 3) := by decide +kernel
theorem d211_5 : decode (m_code 211) 5 = .ok (.invokestatic 39, 3) := by decide +kernel
theorem d211_8 : decode (m_code 211) 8 = .ok (.ireturn, 1) := by decide +kernel
theorem d215_0 : decode (m_code 215) 0 = .ok (.iload_n 1, 1) := by decide +kernel
theorem d215_1 : decode (m_code 215) 1 = .ok (.iconst 0, 1) := by decide +kernel
theorem d215_2 : decode (m_code 215) 2 = .ok (.aload_n 0, 1) := by decide +kernel
theorem d215_3 : decode (m_code 215) 3 = .ok (.getfield 7, 3) := by decide +kernel
theorem d215_6 : decode (m_code 215) 6 = .ok (.iconst 2, 1) := by decide +kernel
theorem d215_7 : decode (m_code 215) 7 = .ok (.iaload, 1) := by decide +kernel
theorem d215_8 : decode (m_code 215) 8 = .ok (.iconst 1, 1) := by decide +kernel
theorem d215_9 : decode (m_code 215) 9 = .ok (.isub, 1) := by decide +kernel
theorem d215_10 : decode (m_code 215) 10 = .ok (.invokestatic 39, 3) := by decide +kernel
theorem d215_13 : decode (m_code 215) 13 = .ok (.ireturn, 1) := by decide +kernel
theorem d217_0 : decode (m_code 217) 0 = .ok (.aload_n 0, 1) := by decide +kernel
theorem d217_1 : decode (m_code 217) 1 = .ok (.getfield 7, 3) := by decide +kernel
theorem d217_4 : decode (m_code 217) 4 = .ok (.bipush 92, 2) := by decide +kernel
theorem d217_6 : decode (m_code 217) 6 = .ok (.iconst 5, 1) := by decide +kernel
theorem d217_7 : decode (m_code 217) 7 = .ok (.iload_n 1, 1) := by decide +kernel
theorem d217_8 : decode (m_code 217) 8 = .ok (.imul, 1) := by decide +kernel
theorem d217_9 : decode (m_code 217) 9 = .ok (.iadd, 1) := by decide +kernel
theorem d217_10 : decode (m_code 217) 10 = .ok (.iload_n 2, 1) := by decide +kernel
theorem d217_11 : decode (m_code 217) 11 = .ok (.iadd, 1) := by decide +kernel
theorem d217_12 : decode (m_code 217) 12 = .ok (.iaload, 1) := by decide +kernel
theorem d217_13 : decode (m_code 217) 13 = .ok (.ireturn, 1) := by decide +kernel
theorem d219_0 : decode (m_code 219) 0 = .ok (.aload_n 0, 1) := by decide +kernel
theorem d219_1 : decode (m_code 219) 1 = .ok (.getfield 7, 3) := by decide +kernel
theorem d219_4 : decode (m_code 219) 4 = .ok (.bipush 20, 2) := by decide +kernel
theorem d219_6 : decode (m_code 219) 6 = .ok (.bipush 6, 2) := by decide +kernel
theorem d219_8 : decode (m_code 219) 8 = .ok (.iload_n 1, 1) := by decide +kernel
theorem d219_9 : decode (m_code 219) 9 = .ok (.imul, 1) := by decide +kernel
theorem d219_10 : decode (m_code 219) 10 = .ok (.iadd, 1) := by decide +kernel
theorem d219_11 : decode (m_code 219) 11 = .ok (.iload_n 2, 1) := by decide +kernel
theorem d219_12 : decode (m_code 219) 12 = .ok (.iadd, 1) := by decide +kernel
theorem d219_13 : decode (m_code 219) 13 = .ok (.iaload, 1) := by decide +kernel
theorem d219_14 : decode (m_code 219) 14 = .ok (.ireturn, 1) := by decide +kernel
theorem d227_0 : decode (m_code 227) 0 = .ok (.aload_n 0, 1) := by decide +kernel
theorem d227_1 : decode (m_code 227) 1 = .ok (.getfield 7, 3) := by decide +kernel
theorem d227_4 : decode (m_code 227) 4 = .ok (.sipush 192, 3) := by decide +kernel
theorem d227_7 : decode (m_code 227) 7 = .ok (.bipush 10, 2) := by decide +kernel
theorem d227_9 : decode (m_code 227) 9 = .ok (.iload_n 1, 1) := by decide +kernel
theorem d227_10 : decode (m_code 227) 10 = .ok (.imul, 1) := by decide +kernel
theorem d227_11 : decode (m_code 227) 11 = .ok (.iadd, 1) := by decide +kernel
theorem d227_12 : decode (m_code 227) 12 = .ok (.iload_n 2, 1) := by decide +kernel
theorem d227_13 : decode (m_code 227) 13 = .ok (.iadd, 1) := by decide +kernel
theorem d227_14 : decode (m_code 227) 14 = .ok (.iaload, 1) := by decide +kernel
theorem d227_15 : decode (m_code 227) 15 = .ok (.ireturn, 1) := by decide +kernel
theorem d232_0 : decode (m_code 232) 0 = .ok (.iload_n 1, 1) := by decide +kernel
theorem d232_1 : decode (m_code 232) 1 = .ok (.iconst 0, 1) := by decide +kernel
theorem d232_2 : decode (m_code 232) 2 = .ok (.aload_n 0, 1) := by decide +kernel
theorem d232_3 : decode (m_code 232) 3 = .ok (.getfield 7, 3) := by decide +kernel
theorem d232_6 : decode (m_code 232) 6 = .ok (.iconst 4, 1) := by decide +kernel
theorem d232_7 : decode (m_code 232) 7 = .ok (.iaload, 1) := by decide +kernel
theorem d232_8 : decode (m_code 232) 8 = .ok (.iconst 1, 1) := by decide +kernel
theorem d232_9 : decode (m_code 232) 9 = .ok (.isub, 1) := by decide +kernel
theorem d232_10 : decode (m_code 232) 10 = .ok (.invokestatic 39, 3) := by decide +kernel
theorem d232_13 : decode (m_code 232) 13 = .ok (.ireturn, 1) := by decide +kernel
theorem d233_0 : decode (m_code 233) 0 = .ok (.iload_n 0, 1) := by decide +kernel
theorem d233_1 : decode (m_code 233) 1 = .ok (.iconst 0, 1) := by decide +kernel
theorem d233_2 : decode (m_code 233) 2 = .ok (.bipush 7, 2) := by decide +kernel
theorem d233_4 : decode (m_code 233) 4 = .ok (.invokestatic 39, 3) := by decide +kernel
theorem d233_7 : decode (m_code 233) 7 = .ok (.ireturn, 1) := by decide +kernel
theorem d245_0 : decode (m_code 245) 0 = .ok (.iload_n 1, 1) := by decide +kernel
theorem d245_1 : decode (m_code 245) 1 = .ok (.iconst 0, 1) := by decide +kernel
theorem d245_2 : decode (m_code 245) 2 = .ok (.aload_n 0, 1) := by decide +kernel
theorem d245_3 : decode (m_code 245) 3 = .ok (.getfield 7, 3) := by decide +kernel
theorem d245_6 : decode (m_code 245) 6 = .ok (.iconst 5, 1) := by decide +kernel
theorem d245_7 : decode (m_code 245) 7 = .ok (.iaload, 1) := by decide +kernel
theorem d245_8 : decode (m_code 245) 8 = .ok (.iconst 1, 1) := by decide +kernel
theorem d245_9 : decode (m_code 245) 9 = .ok (.isub, 1) := by decide +kernel
theorem d245_10 : decode (m_code 245) 10 = .ok (.invokestatic 39, 3) := by decide +kernel
theorem d245_13 : decode (m_code 245) 13 = .ok (.ireturn, 1) := by decide +kernel
theorem d246_0 : decode (m_code 246) 0 = .ok (.aload_n 0, 1) := by decide +kernel
theorem d246_1 : decode (m_code 246) 1 = .ok (.getfield 7, 3) := by decide +kernel
theorem d246_4 : decode (m_code 246) 4 = .ok (.sipush 328, 3) := by decide +kernel
theorem d246_7 : decode (m_code 246) 7 = .ok (.iconst 5, 1) := by decide +kernel
theorem d246_8 : decode (m_code 246) 8 = .ok (.iload_n 1, 1) := by decide +kernel
theorem d246_9 : decode (m_code 246) 9 = .ok (.imul, 1) := by decide +kernel
theorem d246_10 : decode (m_code 246) 10 = .ok (.iadd, 1) := by decide +kernel
theorem d246_11 : decode (m_code 246) 11 = .ok (.iload_n 2, 1) := by decide +kernel
theorem d246_12 : decode (m_code 246) 12 = .ok (.iadd, 1) := by decide +kernel
theorem d246_13 : decode (m_code 246) 13 = .ok (.iaload, 1) := by decide +kernel
theorem d246_14 : decode (m_code 246) 14 = .ok (.ireturn, 1) := by decide +kernel
theorem d250_0 : decode (m_code 250) 0 = .ok (.iload_n 1, 1) := by decide +kernel
theorem d250_1 : decode (m_code 250) 1 = .ok (.iconst 0, 1) := by decide +kernel
theorem d250_2 : decode (m_code 250) 2 = .ok (.aload_n 0, 1) := by decide +kernel
theorem d250_3 : decode (m_code 250) 3 = .ok (.getfield 7, 3) := by decide +kernel
theorem d250_6 : decode (m_code 250) 6 = .ok (.bipush 6, 2) := by decide +kernel
theorem d250_8 : decode (m_code 250) 8 = .ok (.iaload, 1) := by decide +kernel
theorem d250_9 : decode (m_code 250) 9 = .ok (.iconst 1, 1) := by decide +kernel
theorem d250_10 : decode (m_code 250) 10 = .ok (.isub, 1) := by decide +kernel
theorem d250_11 : decode (m_code 250) 11 = .ok (.invokestatic 39, 3) := by decide +kernel
theorem d250_14 : decode (m_code 250) 14 = .ok (.ireturn, 1) := by decide +kernel
theorem d251_0 : decode (m_code 251) 0 = .ok (.aload_n 0, 1) := by decide +kernel
theorem d251_1 : decode (m_code 251) 1 = .ok (.getfield 7, 3) := by decide +kernel
theorem d251_4 : decode (m_code 251) 4 = .ok (.sipush 378, 3) := by decide +kernel
theorem d251_7 : decode (m_code 251) 7 = .ok (.iconst 5, 1) := by decide +kernel
theorem d251_8 : decode (m_code 251) 8 = .ok (.iload_n 1, 1) := by decide +kernel
theorem d251_9 : decode (m_code 251) 9 = .ok (.imul, 1) := by decide +kernel
theorem d251_10 : decode (m_code 251) 10 = .ok (.iadd, 1) := by decide +kernel
theorem d251_11 : decode (m_code 251) 11 = .ok (.iload_n 2, 1) := by decide +kernel
theorem d251_12 : decode (m_code 251) 12 = .ok (.iadd, 1) := by decide +kernel
theorem d251_13 : decode (m_code 251) 13 = .ok (.iaload, 1) := by decide +kernel
theorem d251_14 : decode (m_code 251) 14 = .ok (.ireturn, 1) := by decide +kernel
theorem d278_0 : decode (m_code 278) 0 = .ok (.iload_n 1, 1) := by decide +kernel
theorem d278_1 : decode (m_code 278) 1 = .ok (.iconst 0, 1) := by decide +kernel
theorem d278_2 : decode (m_code 278) 2 = .ok (.aload_n 0, 1) := by decide +kernel
theorem d278_3 : decode (m_code 278) 3 = .ok (.getfield 7, 3) := by decide +kernel
theorem d278_6 : decode (m_code 278) 6 = .ok (.iconst 3, 1) := by decide +kernel
theorem d278_7 : decode (m_code 278) 7 = .ok (.iaload, 1) := by decide +kernel
theorem d278_8 : decode (m_code 278) 8 = .ok (.iconst 1, 1) := by decide +kernel
theorem d278_9 : decode (m_code 278) 9 = .ok (.isub, 1) := by decide +kernel
theorem d278_10 : decode (m_code 278) 10 = .ok (.invokestatic 39, 3) := by decide +kernel
theorem d278_13 : decode (m_code 278) 13 = .ok (.ireturn, 1) := by decide +kernel
theorem c_within {X : mX} {h : mH} (v lo hi : Int32) : Tells X 210 [.int v, .int lo, .int hi] h (m_b (lo ≤ v ∧ v ≤ hi)) := by
  refine wp_iload_n d210_0 rfl ?_
  refine wp_iload_n d210_1 rfl ?_
  refine wp_icmp_lt d210_2 (tgt := 14) (by decide) (fun hc2 => ?_) (fun hc2 => ?_)
  · refine wp_iconst d210_14 (v := nI 0) (by decide) ?_
    refine wp_zret d210_15 (by decide +kernel) (by decide) ?_
    exact ⟨by congr 2; first | exact (m_b_t (by simp only [Int32.le_iff_toInt_le, Int32.lt_iff_toInt_lt] at *; omega)).symm | exact (m_b_f (by simp only [Int32.le_iff_toInt_le, Int32.lt_iff_toInt_lt] at *; omega)).symm, rfl⟩
  · refine wp_iload_n d210_5 rfl ?_
    refine wp_iload_n d210_6 rfl ?_
    refine wp_icmp_gt d210_7 (tgt := 14) (by decide) (fun hc7 => ?_) (fun hc7 => ?_)
    · refine wp_iconst d210_14 (v := nI 0) (by decide) ?_
      refine wp_zret d210_15 (by decide +kernel) (by decide) ?_
      exact ⟨by congr 2; first | exact (m_b_t (by simp only [Int32.le_iff_toInt_le, Int32.lt_iff_toInt_lt] at *; omega)).symm | exact (m_b_f (by simp only [Int32.le_iff_toInt_le, Int32.lt_iff_toInt_lt] at *; omega)).symm, rfl⟩
    · refine wp_iconst d210_10 (v := nI 1) (by decide) ?_
      refine wp_goto d210_11 (tgt := 15) (by decide) ?_
      refine wp_zret d210_15 (by decide +kernel) (by decide) ?_
      exact ⟨by congr 2; first | exact (m_b_t (by simp only [Int32.le_iff_toInt_le, Int32.lt_iff_toInt_lt] at *; omega)).symm | exact (m_b_f (by simp only [Int32.le_iff_toInt_le, Int32.lt_iff_toInt_lt] at *; omega)).symm, rfl⟩
theorem c_isZone {X : mX} {h : mH} (v : Int32) : Tells X 209 [.int v] h (m_b (nI 0 ≤ v ∧ v ≤ nI 5)) := by
  refine wp_iload_n d209_0 rfl ?_
  refine wp_iconst d209_1 (v := nI 0) (by decide) ?_
  refine wp_iconst d209_2 (v := nI 5) (by decide) ?_
  refine wp_invsT (e := 39) (j2 := 210) (n := 3) d209_3 (by decide +kernel) (by decide +kernel) rfl rfl rfl (Nat.le_of_ble_eq_true rfl) (Nat.le_of_ble_eq_true rfl) rfl rfl (Nat.le_of_ble_eq_true rfl) (by decide +kernel) (c_within v (nI 0) (nI 5)) ?_
  refine wp_zret d209_6 (by decide +kernel) (m_b_01 _) ?_
  exact ⟨rfl, rfl⟩
theorem c_isKey {X : mX} {h : mH} (v : Int32) : Tells X 233 [.int v] h (m_b (nI 0 ≤ v ∧ v ≤ nI 7)) := by
  refine wp_iload_n d233_0 rfl ?_
  refine wp_iconst d233_1 (v := nI 0) (by decide) ?_
  refine wp_bipush d233_2 (v := nI 7) (by decide) ?_
  refine wp_invsT (e := 39) (j2 := 210) (n := 3) d233_4 (by decide +kernel) (by decide +kernel) rfl rfl rfl (Nat.le_of_ble_eq_true rfl) (Nat.le_of_ble_eq_true rfl) rfl rfl (Nat.le_of_ble_eq_true rfl) (by decide +kernel) (c_within v (nI 0) (nI 7)) ?_
  refine wp_zret d233_7 (by decide +kernel) (m_b_01 _) ?_
  exact ⟨rfl, rfl⟩
theorem c_isBound {X : mX} {h : mH} (v : Int32) : Tells X 211 [.int v] h (m_b (nI 0 ≤ v ∧ v ≤ nI 240)) := by
  refine wp_iload_n d211_0 rfl ?_
  refine wp_iconst d211_1 (v := nI 0) (by decide) ?_
  refine wp_sipush d211_2 (v := nI 240) (by decide) ?_
  refine wp_invsT (e := 39) (j2 := 210) (n := 3) d211_5 (by decide +kernel) (by decide +kernel) rfl rfl rfl (Nat.le_of_ble_eq_true rfl) (Nat.le_of_ble_eq_true rfl) rfl rfl (Nat.le_of_ble_eq_true rfl) (by decide +kernel) (c_within v (nI 0) (nI 240)) ?_
  refine wp_zret d211_8 (by decide +kernel) (m_b_01 _) ?_
  exact ⟨rfl, rfl⟩
theorem c_isRoom {X : mX} {h : mH} {R : Nat → Nat → Int32} {σ : Nat → Int32} (hR : Ms h R σ) {n : Nat} (hn : σ 2 = nI n) (h31 : n < 2 ^ 31) (v : Int32) : Tells X 215 [.ref 313, .int v] h (m_b (nI 0 ≤ v ∧ v < nI n)) := by
  refine wp_iload_n d215_0 rfl ?_
  refine wp_iconst d215_1 (v := nI 0) (by decide) ?_
  refine wp_aload_n d215_2 rfl ?_
  refine wp_getf (e := 7) (ci := 12) (k := 0) (nest := false) d215_3 (by decide +kernel) (md_0 hR) rfl ?_
  refine wp_iconst d215_6 (v := nI 2) (by decide) ?_
  refine wp_iald d215_7 (md_1 hR) (nI_in (by omega) (by decide)) (v := nI n) ((congrArg σ (nI_nat (by omega))).trans hn) ?_
  refine wp_iconst d215_8 (v := nI 1) (by decide) ?_
  refine wp_isub d215_9 ?_
  refine wp_invsT (e := 39) (j2 := 210) (n := 3) d215_10 (by decide +kernel) (by decide +kernel) rfl rfl rfl (Nat.le_of_ble_eq_true rfl) (Nat.le_of_ble_eq_true rfl) rfl rfl (Nat.le_of_ble_eq_true rfl) (by decide +kernel) (c_within v (nI 0) (((nI n) - (nI 1)))) ?_
  refine wp_zret d215_13 (by decide +kernel) (m_b_01 _) ?_
  exact ⟨by congr 2; unfold m_b; simp only [show nI 1 = 1 from rfl, nI_pred_le h31], rfl⟩
theorem c_isDoor {X : mX} {h : mH} {R : Nat → Nat → Int32} {σ : Nat → Int32} (hR : Ms h R σ) {n : Nat} (hn : σ 3 = nI n) (h31 : n < 2 ^ 31) (v : Int32) : Tells X 278 [.ref 313, .int v] h (m_b (nI 0 ≤ v ∧ v < nI n)) := by
  refine wp_iload_n d278_0 rfl ?_
  refine wp_iconst d278_1 (v := nI 0) (by decide) ?_
  refine wp_aload_n d278_2 rfl ?_
  refine wp_getf (e := 7) (ci := 12) (k := 0) (nest := false) d278_3 (by decide +kernel) (md_0 hR) rfl ?_
  refine wp_iconst d278_6 (v := nI 3) (by decide) ?_
  refine wp_iald d278_7 (md_1 hR) (nI_in (by omega) (by decide)) (v := nI n) ((congrArg σ (nI_nat (by omega))).trans hn) ?_
  refine wp_iconst d278_8 (v := nI 1) (by decide) ?_
  refine wp_isub d278_9 ?_
  refine wp_invsT (e := 39) (j2 := 210) (n := 3) d278_10 (by decide +kernel) (by decide +kernel) rfl rfl rfl (Nat.le_of_ble_eq_true rfl) (Nat.le_of_ble_eq_true rfl) rfl rfl (Nat.le_of_ble_eq_true rfl) (by decide +kernel) (c_within v (nI 0) (((nI n) - (nI 1)))) ?_
  refine wp_zret d278_13 (by decide +kernel) (m_b_01 _) ?_
  exact ⟨by congr 2; unfold m_b; simp only [show nI 1 = 1 from rfl, nI_pred_le h31], rfl⟩
theorem c_isGuard {X : mX} {h : mH} {R : Nat → Nat → Int32} {σ : Nat → Int32} (hR : Ms h R σ) {n : Nat} (hn : σ 4 = nI n) (h31 : n < 2 ^ 31) (v : Int32) : Tells X 232 [.ref 313, .int v] h (m_b (nI 0 ≤ v ∧ v < nI n)) := by
  refine wp_iload_n d232_0 rfl ?_
  refine wp_iconst d232_1 (v := nI 0) (by decide) ?_
  refine wp_aload_n d232_2 rfl ?_
  refine wp_getf (e := 7) (ci := 12) (k := 0) (nest := false) d232_3 (by decide +kernel) (md_0 hR) rfl ?_
  refine wp_iconst d232_6 (v := nI 4) (by decide) ?_
  refine wp_iald d232_7 (md_1 hR) (nI_in (by omega) (by decide)) (v := nI n) ((congrArg σ (nI_nat (by omega))).trans hn) ?_
  refine wp_iconst d232_8 (v := nI 1) (by decide) ?_
  refine wp_isub d232_9 ?_
  refine wp_invsT (e := 39) (j2 := 210) (n := 3) d232_10 (by decide +kernel) (by decide +kernel) rfl rfl rfl (Nat.le_of_ble_eq_true rfl) (Nat.le_of_ble_eq_true rfl) rfl rfl (Nat.le_of_ble_eq_true rfl) (by decide +kernel) (c_within v (nI 0) (((nI n) - (nI 1)))) ?_
  refine wp_zret d232_13 (by decide +kernel) (m_b_01 _) ?_
  exact ⟨by congr 2; unfold m_b; simp only [show nI 1 = 1 from rfl, nI_pred_le h31], rfl⟩
theorem c_isWork {X : mX} {h : mH} {R : Nat → Nat → Int32} {σ : Nat → Int32} (hR : Ms h R σ) {n : Nat} (hn : σ 5 = nI n) (h31 : n < 2 ^ 31) (v : Int32) : Tells X 245 [.ref 313, .int v] h (m_b (nI 0 ≤ v ∧ v < nI n)) := by
  refine wp_iload_n d245_0 rfl ?_
  refine wp_iconst d245_1 (v := nI 0) (by decide) ?_
  refine wp_aload_n d245_2 rfl ?_
  refine wp_getf (e := 7) (ci := 12) (k := 0) (nest := false) d245_3 (by decide +kernel) (md_0 hR) rfl ?_
  refine wp_iconst d245_6 (v := nI 5) (by decide) ?_
  refine wp_iald d245_7 (md_1 hR) (nI_in (by omega) (by decide)) (v := nI n) ((congrArg σ (nI_nat (by omega))).trans hn) ?_
  refine wp_iconst d245_8 (v := nI 1) (by decide) ?_
  refine wp_isub d245_9 ?_
  refine wp_invsT (e := 39) (j2 := 210) (n := 3) d245_10 (by decide +kernel) (by decide +kernel) rfl rfl rfl (Nat.le_of_ble_eq_true rfl) (Nat.le_of_ble_eq_true rfl) rfl rfl (Nat.le_of_ble_eq_true rfl) (by decide +kernel) (c_within v (nI 0) (((nI n) - (nI 1)))) ?_
  refine wp_zret d245_13 (by decide +kernel) (m_b_01 _) ?_
  exact ⟨by congr 2; unfold m_b; simp only [show nI 1 = 1 from rfl, nI_pred_le h31], rfl⟩
theorem c_isAlarm {X : mX} {h : mH} {R : Nat → Nat → Int32} {σ : Nat → Int32} (hR : Ms h R σ) {n : Nat} (hn : σ 6 = nI n) (h31 : n < 2 ^ 31) (v : Int32) : Tells X 250 [.ref 313, .int v] h (m_b (nI 0 ≤ v ∧ v < nI n)) := by
  refine wp_iload_n d250_0 rfl ?_
  refine wp_iconst d250_1 (v := nI 0) (by decide) ?_
  refine wp_aload_n d250_2 rfl ?_
  refine wp_getf (e := 7) (ci := 12) (k := 0) (nest := false) d250_3 (by decide +kernel) (md_0 hR) rfl ?_
  refine wp_bipush d250_6 (v := nI 6) (by decide) ?_
  refine wp_iald d250_8 (md_1 hR) (nI_in (by omega) (by decide)) (v := nI n) ((congrArg σ (nI_nat (by omega))).trans hn) ?_
  refine wp_iconst d250_9 (v := nI 1) (by decide) ?_
  refine wp_isub d250_10 ?_
  refine wp_invsT (e := 39) (j2 := 210) (n := 3) d250_11 (by decide +kernel) (by decide +kernel) rfl rfl rfl (Nat.le_of_ble_eq_true rfl) (Nat.le_of_ble_eq_true rfl) rfl rfl (Nat.le_of_ble_eq_true rfl) (by decide +kernel) (c_within v (nI 0) (((nI n) - (nI 1)))) ?_
  refine wp_zret d250_14 (by decide +kernel) (m_b_01 _) ?_
  exact ⟨by congr 2; unfold m_b; simp only [show nI 1 = 1 from rfl, nI_pred_le h31], rfl⟩
theorem c_roomPart {X : mX} {h : mH} {R : Nat → Nat → Int32} {σ : Nat → Int32} (hR : Ms h R σ) {r p : Nat} (hr : r < 12) (hp : p < 6) : Tells X 219 [.ref 313, .int (nI r), .int (nI p)] h (σ (20 + 6 * r + p)) := by
  refine wp_aload_n d219_0 rfl ?_
  refine wp_getf (e := 7) (ci := 12) (k := 0) (nest := false) d219_1 (by decide +kernel) (md_0 hR) rfl ?_
  refine wp_bipush d219_4 (v := nI 20) (by decide) ?_
  refine wp_bipush d219_6 (v := nI 6) (by decide) ?_
  refine wp_iload_n d219_8 rfl ?_
  refine wp_imulv d219_9 (v := nI (6 * r)) (nI_mul _ _) ?_
  refine wp_iaddv d219_10 (v := nI (20 + 6 * r)) (nI_add _ _) ?_
  refine wp_iload_n d219_11 rfl ?_
  refine wp_iaddv d219_12 (v := nI (20 + 6 * r + p)) (nI_add _ _) ?_
  refine wp_iald d219_13 (md_1 hR) (nI_in (by omega) (by decide)) (v := σ (20 + 6 * r + p)) ((congrArg σ (nI_nat (by omega))).trans rfl) ?_
  refine wp_iret d219_14 (by decide +kernel) ?_
  exact ⟨rfl, rfl⟩
theorem c_doorPart {X : mX} {h : mH} {R : Nat → Nat → Int32} {σ : Nat → Int32} (hR : Ms h R σ) {r p : Nat} (hr : r < 20) (hp : p < 5) : Tells X 217 [.ref 313, .int (nI r), .int (nI p)] h (σ (92 + 5 * r + p)) := by
  refine wp_aload_n d217_0 rfl ?_
  refine wp_getf (e := 7) (ci := 12) (k := 0) (nest := false) d217_1 (by decide +kernel) (md_0 hR) rfl ?_
  refine wp_bipush d217_4 (v := nI 92) (by decide) ?_
  refine wp_iconst d217_6 (v := nI 5) (by decide) ?_
  refine wp_iload_n d217_7 rfl ?_
  refine wp_imulv d217_8 (v := nI (5 * r)) (nI_mul _ _) ?_
  refine wp_iaddv d217_9 (v := nI (92 + 5 * r)) (nI_add _ _) ?_
  refine wp_iload_n d217_10 rfl ?_
  refine wp_iaddv d217_11 (v := nI (92 + 5 * r + p)) (nI_add _ _) ?_
  refine wp_iald d217_12 (md_1 hR) (nI_in (by omega) (by decide)) (v := σ (92 + 5 * r + p)) ((congrArg σ (nI_nat (by omega))).trans rfl) ?_
  refine wp_iret d217_13 (by decide +kernel) ?_
  exact ⟨rfl, rfl⟩
theorem c_guardPart {X : mX} {h : mH} {R : Nat → Nat → Int32} {σ : Nat → Int32} (hR : Ms h R σ) {r p : Nat} (hr : r < 4) (hp : p < 10) : Tells X 227 [.ref 313, .int (nI r), .int (nI p)] h (σ (192 + 10 * r + p)) := by
  refine wp_aload_n d227_0 rfl ?_
  refine wp_getf (e := 7) (ci := 12) (k := 0) (nest := false) d227_1 (by decide +kernel) (md_0 hR) rfl ?_
  refine wp_sipush d227_4 (v := nI 192) (by decide) ?_
  refine wp_bipush d227_7 (v := nI 10) (by decide) ?_
  refine wp_iload_n d227_9 rfl ?_
  refine wp_imulv d227_10 (v := nI (10 * r)) (nI_mul _ _) ?_
  refine wp_iaddv d227_11 (v := nI (192 + 10 * r)) (nI_add _ _) ?_
  refine wp_iload_n d227_12 rfl ?_
  refine wp_iaddv d227_13 (v := nI (192 + 10 * r + p)) (nI_add _ _) ?_
  refine wp_iald d227_14 (md_1 hR) (nI_in (by omega) (by decide)) (v := σ (192 + 10 * r + p)) ((congrArg σ (nI_nat (by omega))).trans rfl) ?_
  refine wp_iret d227_15 (by decide +kernel) ?_
  exact ⟨rfl, rfl⟩
theorem c_workPart {X : mX} {h : mH} {R : Nat → Nat → Int32} {σ : Nat → Int32} (hR : Ms h R σ) {r p : Nat} (hr : r < 10) (hp : p < 5) : Tells X 246 [.ref 313, .int (nI r), .int (nI p)] h (σ (328 + 5 * r + p)) := by
  refine wp_aload_n d246_0 rfl ?_
  refine wp_getf (e := 7) (ci := 12) (k := 0) (nest := false) d246_1 (by decide +kernel) (md_0 hR) rfl ?_
  refine wp_sipush d246_4 (v := nI 328) (by decide) ?_
  refine wp_iconst d246_7 (v := nI 5) (by decide) ?_
  refine wp_iload_n d246_8 rfl ?_
  refine wp_imulv d246_9 (v := nI (5 * r)) (nI_mul _ _) ?_
  refine wp_iaddv d246_10 (v := nI (328 + 5 * r)) (nI_add _ _) ?_
  refine wp_iload_n d246_11 rfl ?_
  refine wp_iaddv d246_12 (v := nI (328 + 5 * r + p)) (nI_add _ _) ?_
  refine wp_iald d246_13 (md_1 hR) (nI_in (by omega) (by decide)) (v := σ (328 + 5 * r + p)) ((congrArg σ (nI_nat (by omega))).trans rfl) ?_
  refine wp_iret d246_14 (by decide +kernel) ?_
  exact ⟨rfl, rfl⟩
theorem c_alarmPart {X : mX} {h : mH} {R : Nat → Nat → Int32} {σ : Nat → Int32} (hR : Ms h R σ) {r p : Nat} (hr : r < 40) (hp : p < 5) : Tells X 251 [.ref 313, .int (nI r), .int (nI p)] h (σ (378 + 5 * r + p)) := by
  refine wp_aload_n d251_0 rfl ?_
  refine wp_getf (e := 7) (ci := 12) (k := 0) (nest := false) d251_1 (by decide +kernel) (md_0 hR) rfl ?_
  refine wp_sipush d251_4 (v := nI 378) (by decide) ?_
  refine wp_iconst d251_7 (v := nI 5) (by decide) ?_
  refine wp_iload_n d251_8 rfl ?_
  refine wp_imulv d251_9 (v := nI (5 * r)) (nI_mul _ _) ?_
  refine wp_iaddv d251_10 (v := nI (378 + 5 * r)) (nI_add _ _) ?_
  refine wp_iload_n d251_11 rfl ?_
  refine wp_iaddv d251_12 (v := nI (378 + 5 * r + p)) (nI_add _ _) ?_
  refine wp_iald d251_13 (md_1 hR) (nI_in (by omega) (by decide)) (v := σ (378 + 5 * r + p)) ((congrArg σ (nI_nat (by omega))).trans rfl) ?_
  refine wp_iret d251_14 (by decide +kernel) ?_
  exact ⟨rfl, rfl⟩
end
section
/-! The reference's methods that tell. -/
theorem d216_0 : decode (m_code 216) 0 = .ok (.bipush (-5), 2) := by decide +kernel
theorem d216_2 : decode (m_code 216) 2 = .ok (.istore_n 3, 1) := by decide +kernel
theorem d216_3 : decode (m_code 216) 3 = .ok (.iconst 0, 1) := by decide +kernel
theorem d216_4 : decode (m_code 216) 4 = .ok (.istore 4, 2) := by decide +kernel
theorem d216_6 : decode (m_code 216) 6 = .ok (.iload 4, 2) := by decide +kernel
theorem d216_8 : decode (m_code 216) 8 = .ok (.aload_n 0, 1) := by decide +kernel
theorem d216_9 : decode (m_code 216) 9 = .ok (.getfield 7, 3) := by decide +kernel
theorem d216_12 : decode (m_code 216) 12 = .ok (.iconst 3, 1) := by decide +kernel
theorem d216_13 : decode (m_code 216) 13 = .ok (.iaload, 1) := by decide +kernel
theorem d216_14 : decode (m_code 216) 14 = .ok (.if_icmp .ge 72, 3) := by decide +kernel
theorem d216_17 : decode (m_code 216) 17 = .ok (.aload_n 0, 1) := by decide +kernel
theorem d216_18 : decode (m_code 216) 18 = .ok (.iload 4, 2) := by decide +kernel
theorem d216_20 : decode (m_code 216) 20 = .ok (.iconst 0, 1) := by decide +kernel
theorem d216_21 : decode (m_code 216) 21 = .ok (.invokevirtual 53, 3) := by decide +kernel
theorem d216_24 : decode (m_code 216) 24 = .ok (.iload_n 1, 1) := by decide +kernel
theorem d216_25 : decode (m_code 216) 25 = .ok (.if_icmp .ne 14, 3) := by decide +kernel
theorem d216_28 : decode (m_code 216) 28 = .ok (.aload_n 0, 1) := by decide +kernel
theorem d216_29 : decode (m_code 216) 29 = .ok (.iload 4, 2) := by decide +kernel
theorem d216_31 : decode (m_code 216) 31 = .ok (.iconst 1, 1) := by decide +kernel
theorem d216_32 : decode (m_code 216) 32 = .ok (.invokevirtual 53, 3) := by decide +kernel
theorem d216_35 : decode (m_code 216) 35 = .ok (.iload_n 2, 1) := by decide +kernel
theorem d216_36 : decode (m_code 216) 36 = .ok (.if_icmp .eq 25, 3) := by decide +kernel
theorem d216_39 : decode (m_code 216) 39 = .ok (.aload_n 0, 1) := by decide +kernel
theorem d216_40 : decode (m_code 216) 40 = .ok (.iload 4, 2) := by decide +kernel
theorem d216_42 : decode (m_code 216) 42 = .ok (.iconst 0, 1) := by decide +kernel
theorem d216_43 : decode (m_code 216) 43 = .ok (.invokevirtual 53, 3) := by decide +kernel
theorem d216_46 : decode (m_code 216) 46 = .ok (.iload_n 2, 1) := by decide +kernel
theorem d216_47 : decode (m_code 216) 47 = .ok (.if_icmp .ne 18, 3) := by decide +kernel
theorem d216_50 : decode (m_code 216) 50 = .ok (.aload_n 0, 1) := by decide +kernel
theorem d216_51 : decode (m_code 216) 51 = .ok (.iload 4, 2) := by decide +kernel
theorem d216_53 : decode (m_code 216) 53 = .ok (.iconst 1, 1) := by decide +kernel
theorem d216_54 : decode (m_code 216) 54 = .ok (.invokevirtual 53, 3) := by decide +kernel
theorem d216_57 : decode (m_code 216) 57 = .ok (.iload_n 1, 1) := by decide +kernel
theorem d216_58 : decode (m_code 216) 58 = .ok (.if_icmp .ne 7, 3) := by decide +kernel
theorem d216_61 : decode (m_code 216) 61 = .ok (.iconst 1, 1) := by decide +kernel
theorem d216_62 : decode (m_code 216) 62 = .ok (.goto 4, 3) := by decide +kernel
theorem d216_65 : decode (m_code 216) 65 = .ok (.iconst 0, 1) := by decide +kernel
theorem d216_66 : decode (m_code 216) 66 = .ok (.istore 5, 2) := by decide +kernel
theorem d216_68 : decode (m_code 216) 68 = .ok (.iload 5, 2) := by decide +kernel
theorem d216_70 : decode (m_code 216) 70 = .ok (.ifCond .eq 8, 3) := by decide +kernel
theorem d216_73 : decode (m_code 216) 73 = .ok (.iload 4, 2) := by decide +kernel
theorem d216_75 : decode (m_code 216) 75 = .ok (.goto 4, 3) := by decide +kernel
theorem d216_78 : decode (m_code 216) 78 = .ok (.iload_n 3, 1) := by decide +kernel
theorem d216_79 : decode (m_code 216) 79 = .ok (.istore_n 3, 1) := by decide +kernel
theorem d216_80 : decode (m_code 216) 80 = .ok (.iinc 4 1, 3) := by decide +kernel
theorem d216_83 : decode (m_code 216) 83 = .ok (.goto (-77), 3) := by decide +kernel
theorem d216_86 : decode (m_code 216) 86 = .ok (.iload_n 3, 1) := by decide +kernel
theorem d216_87 : decode (m_code 216) 87 = .ok (.ireturn, 1) := by decide +kernel
theorem d221_0 : decode (m_code 221) 0 = .ok (.aload_n 0, 1) := by decide +kernel
theorem d221_1 : decode (m_code 221) 1 = .ok (.getfield 7, 3) := by decide +kernel
theorem d221_4 : decode (m_code 221) 4 = .ok (.bipush 14, 2) := by decide +kernel
theorem d221_6 : decode (m_code 221) 6 = .ok (.iload_n 1, 1) := by decide +kernel
theorem d221_7 : decode (m_code 221) 7 = .ok (.iadd, 1) := by decide +kernel
theorem d221_8 : decode (m_code 221) 8 = .ok (.iaload, 1) := by decide +kernel
theorem d221_9 : decode (m_code 221) 9 = .ok (.iload_n 2, 1) := by decide +kernel
theorem d221_10 : decode (m_code 221) 10 = .ok (.ishr, 1) := by decide +kernel
theorem d221_11 : decode (m_code 221) 11 = .ok (.iconst 1, 1) := by decide +kernel
theorem d221_12 : decode (m_code 221) 12 = .ok (.iand, 1) := by decide +kernel
theorem d221_13 : decode (m_code 221) 13 = .ok (.iconst 1, 1) := by decide +kernel
theorem d221_14 : decode (m_code 221) 14 = .ok (.if_icmp .ne 7, 3) := by decide +kernel
theorem d221_17 : decode (m_code 221) 17 = .ok (.iconst 1, 1) := by decide +kernel
theorem d221_18 : decode (m_code 221) 18 = .ok (.goto 4, 3) := by decide +kernel
theorem d221_21 : decode (m_code 221) 21 = .ok (.iconst 0, 1) := by decide +kernel
theorem d221_22 : decode (m_code 221) 22 = .ok (.ireturn, 1) := by decide +kernel
theorem d222_0 : decode (m_code 222) 0 = .ok (.iconst 0, 1) := by decide +kernel
theorem d222_1 : decode (m_code 222) 1 = .ok (.istore_n 1, 1) := by decide +kernel
theorem d222_2 : decode (m_code 222) 2 = .ok (.iconst 0, 1) := by decide +kernel
theorem d222_3 : decode (m_code 222) 3 = .ok (.istore_n 2, 1) := by decide +kernel
theorem d222_4 : decode (m_code 222) 4 = .ok (.iload_n 2, 1) := by decide +kernel
theorem d222_5 : decode (m_code 222) 5 = .ok (.bipush 16, 2) := by decide +kernel
theorem d222_7 : decode (m_code 222) 7 = .ok (.if_icmp .ge 17, 3) := by decide +kernel
theorem d222_10 : decode (m_code 222) 10 = .ok (.iload_n 1, 1) := by decide +kernel
theorem d222_11 : decode (m_code 222) 11 = .ok (.iload_n 0, 1) := by decide +kernel
theorem d222_12 : decode (m_code 222) 12 = .ok (.iload_n 2, 1) := by decide +kernel
theorem d222_13 : decode (m_code 222) 13 = .ok (.ishr, 1) := by decide +kernel
theorem d222_14 : decode (m_code 222) 14 = .ok (.iconst 1, 1) := by decide +kernel
theorem d222_15 : decode (m_code 222) 15 = .ok (.iand, 1) := by decide +kernel
theorem d222_16 : decode (m_code 222) 16 = .ok (.iadd, 1) := by decide +kernel
theorem d222_17 : decode (m_code 222) 17 = .ok (.istore_n 1, 1) := by decide +kernel
theorem d222_18 : decode (m_code 222) 18 = .ok (.iinc 2 1, 3) := by decide +kernel
theorem d222_21 : decode (m_code 222) 21 = .ok (.goto (-17), 3) := by decide +kernel
theorem d222_24 : decode (m_code 222) 24 = .ok (.iload_n 1, 1) := by decide +kernel
theorem d222_25 : decode (m_code 222) 25 = .ok (.ireturn, 1) := by decide +kernel
theorem d224_0 : decode (m_code 224) 0 = .ok (.iconst 0, 1) := by decide +kernel
theorem d224_1 : decode (m_code 224) 1 = .ok (.istore_n 2, 1) := by decide +kernel
theorem d224_2 : decode (m_code 224) 2 = .ok (.iconst 0, 1) := by decide +kernel
theorem d224_3 : decode (m_code 224) 3 = .ok (.istore_n 3, 1) := by decide +kernel
theorem d224_4 : decode (m_code 224) 4 = .ok (.iload_n 3, 1) := by decide +kernel
theorem d224_5 : decode (m_code 224) 5 = .ok (.bipush 6, 2) := by decide +kernel
theorem d224_7 : decode (m_code 224) 7 = .ok (.if_icmp .ge 41, 3) := by decide +kernel
theorem d224_10 : decode (m_code 224) 10 = .ok (.iload_n 2, 1) := by decide +kernel
theorem d224_11 : decode (m_code 224) 11 = .ok (.ifCond .ne 25, 3) := by decide +kernel
theorem d224_14 : decode (m_code 224) 14 = .ok (.aload_n 0, 1) := by decide +kernel
theorem d224_15 : decode (m_code 224) 15 = .ok (.iload_n 1, 1) := by decide +kernel
theorem d224_16 : decode (m_code 224) 16 = .ok (.iload_n 3, 1) := by decide +kernel
theorem d224_17 : decode (m_code 224) 17 = .ok (.invokevirtual 66, 3) := by decide +kernel
theorem d224_20 : decode (m_code 224) 20 = .ok (.ifCond .eq 20, 3) := by decide +kernel
theorem d224_23 : decode (m_code 224) 23 = .ok (.aload_n 0, 1) := by decide +kernel
theorem d224_24 : decode (m_code 224) 24 = .ok (.getfield 7, 3) := by decide +kernel
theorem d224_27 : decode (m_code 224) 27 = .ok (.bipush 8, 2) := by decide +kernel
theorem d224_29 : decode (m_code 224) 29 = .ok (.iload_n 3, 1) := by decide +kernel
theorem d224_30 : decode (m_code 224) 30 = .ok (.iadd, 1) := by decide +kernel
theorem d224_31 : decode (m_code 224) 31 = .ok (.iaload, 1) := by decide +kernel
theorem d224_32 : decode (m_code 224) 32 = .ok (.iconst 1, 1) := by decide +kernel
theorem d224_33 : decode (m_code 224) 33 = .ok (.if_icmp .ne 7, 3) := by decide +kernel
theorem d224_36 : decode (m_code 224) 36 = .ok (.iconst 1, 1) := by decide +kernel
theorem d224_37 : decode (m_code 224) 37 = .ok (.goto 4, 3) := by decide +kernel
theorem d224_40 : decode (m_code 224) 40 = .ok (.iconst 0, 1) := by decide +kernel
theorem d224_41 : decode (m_code 224) 41 = .ok (.istore_n 2, 1) := by decide +kernel
theorem d224_42 : decode (m_code 224) 42 = .ok (.iinc 3 1, 3) := by decide +kernel
theorem d224_45 : decode (m_code 224) 45 = .ok (.goto (-41), 3) := by decide +kernel
theorem d224_48 : decode (m_code 224) 48 = .ok (.iload_n 2, 1) := by decide +kernel
theorem d224_49 : decode (m_code 224) 49 = .ok (.ireturn, 1) := by decide +kernel
theorem d225_0 : decode (m_code 225) 0 = .ok (.iconst 0, 1) := by decide +kernel
theorem d225_1 : decode (m_code 225) 1 = .ok (.istore_n 1, 1) := by decide +kernel
theorem d225_2 : decode (m_code 225) 2 = .ok (.iconst 0, 1) := by decide +kernel
theorem d225_3 : decode (m_code 225) 3 = .ok (.istore_n 2, 1) := by decide +kernel
theorem d225_4 : decode (m_code 225) 4 = .ok (.iload_n 2, 1) := by decide +kernel
theorem d225_5 : decode (m_code 225) 5 = .ok (.bipush 6, 2) := by decide +kernel
theorem d225_7 : decode (m_code 225) 7 = .ok (.if_icmp .ge 21, 3) := by decide +kernel
theorem d225_10 : decode (m_code 225) 10 = .ok (.iload_n 1, 1) := by decide +kernel
theorem d225_11 : decode (m_code 225) 11 = .ok (.aload_n 0, 1) := by decide +kernel
theorem d225_12 : decode (m_code 225) 12 = .ok (.getfield 7, 3) := by decide +kernel
theorem d225_15 : decode (m_code 225) 15 = .ok (.bipush 8, 2) := by decide +kernel
theorem d225_17 : decode (m_code 225) 17 = .ok (.iload_n 2, 1) := by decide +kernel
theorem d225_18 : decode (m_code 225) 18 = .ok (.iadd, 1) := by decide +kernel
theorem d225_19 : decode (m_code 225) 19 = .ok (.iaload, 1) := by decide +kernel
theorem d225_20 : decode (m_code 225) 20 = .ok (.iadd, 1) := by decide +kernel
theorem d225_21 : decode (m_code 225) 21 = .ok (.istore_n 1, 1) := by decide +kernel
theorem d225_22 : decode (m_code 225) 22 = .ok (.iinc 2 1, 3) := by decide +kernel
theorem d225_25 : decode (m_code 225) 25 = .ok (.goto (-21), 3) := by decide +kernel
theorem d225_28 : decode (m_code 225) 28 = .ok (.iload_n 1, 1) := by decide +kernel
theorem d225_29 : decode (m_code 225) 29 = .ok (.ireturn, 1) := by decide +kernel
theorem d234_0 : decode (m_code 234) 0 = .ok (.bipush (-5), 2) := by decide +kernel
theorem d234_2 : decode (m_code 234) 2 = .ok (.istore_n 2, 1) := by decide +kernel
theorem d234_3 : decode (m_code 234) 3 = .ok (.iconst 0, 1) := by decide +kernel
theorem d234_4 : decode (m_code 234) 4 = .ok (.istore_n 3, 1) := by decide +kernel
theorem d234_5 : decode (m_code 234) 5 = .ok (.iload_n 3, 1) := by decide +kernel
theorem d234_6 : decode (m_code 234) 6 = .ok (.aload_n 0, 1) := by decide +kernel
theorem d234_7 : decode (m_code 234) 7 = .ok (.getfield 7, 3) := by decide +kernel
theorem d234_10 : decode (m_code 234) 10 = .ok (.iconst 4, 1) := by decide +kernel
theorem d234_11 : decode (m_code 234) 11 = .ok (.iaload, 1) := by decide +kernel
theorem d234_12 : decode (m_code 234) 12 = .ok (.if_icmp .ge 24, 3) := by decide +kernel
theorem d234_15 : decode (m_code 234) 15 = .ok (.aload_n 0, 1) := by decide +kernel
theorem d234_16 : decode (m_code 234) 16 = .ok (.iload_n 3, 1) := by decide +kernel
theorem d234_17 : decode (m_code 234) 17 = .ok (.iload_n 1, 1) := by decide +kernel
theorem d234_18 : decode (m_code 234) 18 = .ok (.invokevirtual 91, 3) := by decide +kernel
theorem d234_21 : decode (m_code 234) 21 = .ok (.ifCond .eq 7, 3) := by decide +kernel
theorem d234_24 : decode (m_code 234) 24 = .ok (.iload_n 3, 1) := by decide +kernel
theorem d234_25 : decode (m_code 234) 25 = .ok (.goto 4, 3) := by decide +kernel
theorem d234_28 : decode (m_code 234) 28 = .ok (.iload_n 2, 1) := by decide +kernel
theorem d234_29 : decode (m_code 234) 29 = .ok (.istore_n 2, 1) := by decide +kernel
theorem d234_30 : decode (m_code 234) 30 = .ok (.iinc 3 1, 3) := by decide +kernel
theorem d234_33 : decode (m_code 234) 33 = .ok (.goto (-28), 3) := by decide +kernel
theorem d234_36 : decode (m_code 234) 36 = .ok (.iload_n 2, 1) := by decide +kernel
theorem d234_37 : decode (m_code 234) 37 = .ok (.ireturn, 1) := by decide +kernel
theorem d235_0 : decode (m_code 235) 0 = .ok (.aload_n 0, 1) := by decide +kernel
theorem d235_1 : decode (m_code 235) 1 = .ok (.iload_n 1, 1) := by decide +kernel
theorem d235_2 : decode (m_code 235) 2 = .ok (.bipush 6, 2) := by decide +kernel
theorem d235_4 : decode (m_code 235) 4 = .ok (.invokevirtual 81, 3) := by decide +kernel
theorem d235_7 : decode (m_code 235) 7 = .ok (.iload_n 2, 1) := by decide +kernel
theorem d235_8 : decode (m_code 235) 8 = .ok (.ishr, 1) := by decide +kernel
theorem d235_9 : decode (m_code 235) 9 = .ok (.iconst 1, 1) := by decide +kernel
theorem d235_10 : decode (m_code 235) 10 = .ok (.iand, 1) := by decide +kernel
theorem d235_11 : decode (m_code 235) 11 = .ok (.iconst 1, 1) := by decide +kernel
theorem d235_12 : decode (m_code 235) 12 = .ok (.if_icmp .ne 7, 3) := by decide +kernel
theorem d235_15 : decode (m_code 235) 15 = .ok (.iconst 1, 1) := by decide +kernel
theorem d235_16 : decode (m_code 235) 16 = .ok (.goto 4, 3) := by decide +kernel
theorem d235_19 : decode (m_code 235) 19 = .ok (.iconst 0, 1) := by decide +kernel
theorem d235_20 : decode (m_code 235) 20 = .ok (.ireturn, 1) := by decide +kernel
theorem d236_0 : decode (m_code 236) 0 = .ok (.aload_n 0, 1) := by decide +kernel
theorem d236_1 : decode (m_code 236) 1 = .ok (.iload_n 1, 1) := by decide +kernel
theorem d236_2 : decode (m_code 236) 2 = .ok (.bipush 6, 2) := by decide +kernel
theorem d236_4 : decode (m_code 236) 4 = .ok (.invokevirtual 81, 3) := by decide +kernel
theorem d236_7 : decode (m_code 236) 7 = .ok (.invokestatic 70, 3) := by decide +kernel
theorem d236_10 : decode (m_code 236) 10 = .ok (.ireturn, 1) := by decide +kernel
theorem d247_0 : decode (m_code 247) 0 = .ok (.iconst 0, 1) := by decide +kernel
theorem d247_1 : decode (m_code 247) 1 = .ok (.istore_n 2, 1) := by decide +kernel
theorem d247_2 : decode (m_code 247) 2 = .ok (.iconst 0, 1) := by decide +kernel
theorem d247_3 : decode (m_code 247) 3 = .ok (.istore_n 3, 1) := by decide +kernel
theorem d247_4 : decode (m_code 247) 4 = .ok (.iload_n 3, 1) := by decide +kernel
theorem d247_5 : decode (m_code 247) 5 = .ok (.aload_n 0, 1) := by decide +kernel
theorem d247_6 : decode (m_code 247) 6 = .ok (.getfield 7, 3) := by decide +kernel
theorem d247_9 : decode (m_code 247) 9 = .ok (.iconst 4, 1) := by decide +kernel
theorem d247_10 : decode (m_code 247) 10 = .ok (.iaload, 1) := by decide +kernel
theorem d247_11 : decode (m_code 247) 11 = .ok (.if_icmp .ge 27, 3) := by decide +kernel
theorem d247_14 : decode (m_code 247) 14 = .ok (.iload_n 2, 1) := by decide +kernel
theorem d247_15 : decode (m_code 247) 15 = .ok (.aload_n 0, 1) := by decide +kernel
theorem d247_16 : decode (m_code 247) 16 = .ok (.iload_n 3, 1) := by decide +kernel
theorem d247_17 : decode (m_code 247) 17 = .ok (.iconst 0, 1) := by decide +kernel
theorem d247_18 : decode (m_code 247) 18 = .ok (.invokevirtual 81, 3) := by decide +kernel
theorem d247_21 : decode (m_code 247) 21 = .ok (.iload_n 1, 1) := by decide +kernel
theorem d247_22 : decode (m_code 247) 22 = .ok (.if_icmp .ne 7, 3) := by decide +kernel
theorem d247_25 : decode (m_code 247) 25 = .ok (.iconst 1, 1) := by decide +kernel
theorem d247_26 : decode (m_code 247) 26 = .ok (.goto 4, 3) := by decide +kernel
theorem d247_29 : decode (m_code 247) 29 = .ok (.iconst 0, 1) := by decide +kernel
theorem d247_30 : decode (m_code 247) 30 = .ok (.iadd, 1) := by decide +kernel
theorem d247_31 : decode (m_code 247) 31 = .ok (.istore_n 2, 1) := by decide +kernel
theorem d247_32 : decode (m_code 247) 32 = .ok (.iinc 3 1, 3) := by decide +kernel
theorem d247_35 : decode (m_code 247) 35 = .ok (.goto (-31), 3) := by decide +kernel
theorem d247_38 : decode (m_code 247) 38 = .ok (.iload_n 2, 1) := by decide +kernel
theorem d247_39 : decode (m_code 247) 39 = .ok (.ireturn, 1) := by decide +kernel
theorem d258_0 : decode (m_code 258) 0 = .ok (.aload_n 0, 1) := by decide +kernel
theorem d258_1 : decode (m_code 258) 1 = .ok (.iload_n 2, 1) := by decide +kernel
theorem d258_2 : decode (m_code 258) 2 = .ok (.iconst 3, 1) := by decide +kernel
theorem d258_3 : decode (m_code 258) 3 = .ok (.invokevirtual 53, 3) := by decide +kernel
theorem d258_6 : decode (m_code 258) 6 = .ok (.istore_n 3, 1) := by decide +kernel
theorem d258_7 : decode (m_code 258) 7 = .ok (.iload_n 3, 1) := by decide +kernel
theorem d258_8 : decode (m_code 258) 8 = .ok (.ifCond .lt 12, 3) := by decide +kernel
theorem d258_11 : decode (m_code 258) 11 = .ok (.aload_n 0, 1) := by decide +kernel
theorem d258_12 : decode (m_code 258) 12 = .ok (.iload_n 1, 1) := by decide +kernel
theorem d258_13 : decode (m_code 258) 13 = .ok (.iload_n 3, 1) := by decide +kernel
theorem d258_14 : decode (m_code 258) 14 = .ok (.invokevirtual 91, 3) := by decide +kernel
theorem d258_17 : decode (m_code 258) 17 = .ok (.ifCond .eq 7, 3) := by decide +kernel
theorem d258_20 : decode (m_code 258) 20 = .ok (.iconst 1, 1) := by decide +kernel
theorem d258_21 : decode (m_code 258) 21 = .ok (.goto 4, 3) := by decide +kernel
theorem d258_24 : decode (m_code 258) 24 = .ok (.iconst 0, 1) := by decide +kernel
theorem d258_25 : decode (m_code 258) 25 = .ok (.ireturn, 1) := by decide +kernel
theorem d264_0 : decode (m_code 264) 0 = .ok (.iconst 0, 1) := by decide +kernel
theorem d264_1 : decode (m_code 264) 1 = .ok (.istore_n 1, 1) := by decide +kernel
theorem d264_2 : decode (m_code 264) 2 = .ok (.iconst 0, 1) := by decide +kernel
theorem d264_3 : decode (m_code 264) 3 = .ok (.istore_n 2, 1) := by decide +kernel
theorem d264_4 : decode (m_code 264) 4 = .ok (.iload_n 2, 1) := by decide +kernel
theorem d264_5 : decode (m_code 264) 5 = .ok (.aload_n 0, 1) := by decide +kernel
theorem d264_6 : decode (m_code 264) 6 = .ok (.getfield 7, 3) := by decide +kernel
theorem d264_9 : decode (m_code 264) 9 = .ok (.iconst 4, 1) := by decide +kernel
theorem d264_10 : decode (m_code 264) 10 = .ok (.iaload, 1) := by decide +kernel
theorem d264_11 : decode (m_code 264) 11 = .ok (.if_icmp .ge 17, 3) := by decide +kernel
theorem d264_14 : decode (m_code 264) 14 = .ok (.iload_n 1, 1) := by decide +kernel
theorem d264_15 : decode (m_code 264) 15 = .ok (.aload_n 0, 1) := by decide +kernel
theorem d264_16 : decode (m_code 264) 16 = .ok (.iload_n 2, 1) := by decide +kernel
theorem d264_17 : decode (m_code 264) 17 = .ok (.invokevirtual 103, 3) := by decide +kernel
theorem d264_20 : decode (m_code 264) 20 = .ok (.iadd, 1) := by decide +kernel
theorem d264_21 : decode (m_code 264) 21 = .ok (.istore_n 1, 1) := by decide +kernel
theorem d264_22 : decode (m_code 264) 22 = .ok (.iinc 2 1, 3) := by decide +kernel
theorem d264_25 : decode (m_code 264) 25 = .ok (.goto (-21), 3) := by decide +kernel
theorem d264_28 : decode (m_code 264) 28 = .ok (.iload_n 1, 1) := by decide +kernel
theorem d264_29 : decode (m_code 264) 29 = .ok (.ireturn, 1) := by decide +kernel
/-- the latest door among the first n of those between two rooms -/
def F_db (f : Nat → Int32) (x y : Int32) : Nat → Int32
  | 0 => -5
  | n + 1 => if (f (92 + 5 * n + 0) = x ∧ f (92 + 5 * n + 1) = y) ∨ (f (92 + 5 * n + 0) = y ∧ f (92 + 5 * n + 1) = x) then nI n else F_db f x y n
theorem c_doorBetween_l {X : mX} {h : mH} {R : Nat → Nat → Int32} {σ : Nat → Int32} (hR : Ms h R σ) {nD : Nat} (hn : σ 3 = nI nD) (hD : nD ≤ 20) (x y : Int32) : ∀ (d : Nat) (k : Nat) (a : Int32) (g : Option Value), nD - k = d → k ≤ nD → a = F_db σ x y k → m_wp X 216 6 [some (.ref 313), some (.int (x)), some (.int (y)), some (.int (a)), some (.int (nI k)), g] [] h (fun v h1 => v = some (.int (F_db σ x y nD)) ∧ h1 = h) := by
  intro d
  induction d using Nat.strongRecOn with
  | ind d ih =>
    intro k a g hd hk ha
    refine wp_iload d216_6 rfl ?_
    refine wp_aload_n d216_8 rfl ?_
    refine wp_getf (e := 7) (ci := 12) (k := 0) (nest := false) d216_9 (by decide +kernel) (md_0 hR) rfl ?_
    refine wp_iconst d216_12 (v := nI 3) (by decide) ?_
    refine wp_iald d216_13 (md_1 hR) (nI_in (by omega) (by decide)) (v := nI nD) ((congrArg σ (nI_nat (by omega))).trans hn) ?_
    refine wp_icmp_ge d216_14 (tgt := 86) (by decide) (fun hc14 => ?_) (fun hc14 => ?_)
    · have hc14 : nD ≤ k := (nI_leI (by omega) (by omega)).mp hc14
      refine wp_iload_n d216_86 rfl ?_
      refine wp_iret d216_87 (by decide +kernel) ?_
      exact ⟨by rw [ha, show k = nD by omega], rfl⟩
    · have hc14 : ¬ (nD ≤ k) := fun z => hc14 ((nI_leI (by omega) (by omega)).mpr z)
      refine wp_aload_n d216_17 rfl ?_
      refine wp_iload d216_18 rfl ?_
      refine wp_iconst d216_20 (v := nI 0) (by decide) ?_
      refine wp_invvT (e := 53) (j2 := 217) (n := 2) d216_21 (by decide +kernel) (by decide +kernel) rfl rfl rfl (md_0 hR) (by decide +kernel) (Nat.le_of_ble_eq_true rfl) rfl rfl (Nat.le_of_ble_eq_true rfl) (by decide +kernel) (c_doorPart hR (r := k) (p := 0) (by omega) (by omega)) ?_
      refine wp_iload_n d216_24 rfl ?_
      refine wp_icmp_ne d216_25 (tgt := 39) (by decide) (fun hc25 => ?_) (fun hc25 => ?_)
      · refine wp_aload_n d216_39 rfl ?_
        refine wp_iload d216_40 rfl ?_
        refine wp_iconst d216_42 (v := nI 0) (by decide) ?_
        refine wp_invvT (e := 53) (j2 := 217) (n := 2) d216_43 (by decide +kernel) (by decide +kernel) rfl rfl rfl (md_0 hR) (by decide +kernel) (Nat.le_of_ble_eq_true rfl) rfl rfl (Nat.le_of_ble_eq_true rfl) (by decide +kernel) (c_doorPart hR (r := k) (p := 0) (by omega) (by omega)) ?_
        refine wp_iload_n d216_46 rfl ?_
        refine wp_icmp_ne d216_47 (tgt := 65) (by decide) (fun hc47 => ?_) (fun hc47 => ?_)
        · refine wp_iconst d216_65 (v := nI 0) (by decide) ?_
          refine wp_istore d216_66 (Nat.le_of_ble_eq_true rfl) rfl ?_
          refine wp_iload d216_68 rfl ?_
          refine wp_if_eq d216_70 (tgt := 78) (by decide) (fun _ => ?_) (fun hz => absurd hz (by decide))
          refine wp_iload_n d216_78 rfl ?_
          refine wp_istore_n d216_79 (Nat.le_of_ble_eq_true rfl) rfl ?_
          refine wp_iinc d216_80 rfl (v := nI (k + 1)) (nI_add _ 1) (Nat.le_of_ble_eq_true rfl) rfl ?_
          refine wp_goto d216_83 (tgt := 6) (by decide) ?_
          exact ih (nD - (k + 1)) (by omega) (k + 1) _ _ rfl (by omega) (by simp only [F_db]; rw [if_neg (by grind), ← ha])
        · refine wp_aload_n d216_50 rfl ?_
          refine wp_iload d216_51 rfl ?_
          refine wp_iconst d216_53 (v := nI 1) (by decide) ?_
          refine wp_invvT (e := 53) (j2 := 217) (n := 2) d216_54 (by decide +kernel) (by decide +kernel) rfl rfl rfl (md_0 hR) (by decide +kernel) (Nat.le_of_ble_eq_true rfl) rfl rfl (Nat.le_of_ble_eq_true rfl) (by decide +kernel) (c_doorPart hR (r := k) (p := 1) (by omega) (by omega)) ?_
          refine wp_iload_n d216_57 rfl ?_
          refine wp_icmp_ne d216_58 (tgt := 65) (by decide) (fun hc58 => ?_) (fun hc58 => ?_)
          · refine wp_iconst d216_65 (v := nI 0) (by decide) ?_
            refine wp_istore d216_66 (Nat.le_of_ble_eq_true rfl) rfl ?_
            refine wp_iload d216_68 rfl ?_
            refine wp_if_eq d216_70 (tgt := 78) (by decide) (fun _ => ?_) (fun hz => absurd hz (by decide))
            refine wp_iload_n d216_78 rfl ?_
            refine wp_istore_n d216_79 (Nat.le_of_ble_eq_true rfl) rfl ?_
            refine wp_iinc d216_80 rfl (v := nI (k + 1)) (nI_add _ 1) (Nat.le_of_ble_eq_true rfl) rfl ?_
            refine wp_goto d216_83 (tgt := 6) (by decide) ?_
            exact ih (nD - (k + 1)) (by omega) (k + 1) _ _ rfl (by omega) (by simp only [F_db]; rw [if_neg (by grind), ← ha])
          · refine wp_iconst d216_61 (v := nI 1) (by decide) ?_
            refine wp_goto d216_62 (tgt := 66) (by decide) ?_
            refine wp_istore d216_66 (Nat.le_of_ble_eq_true rfl) rfl ?_
            refine wp_iload d216_68 rfl ?_
            refine wp_if_eq d216_70 (tgt := 78) (by decide) (fun hz => absurd hz (by decide)) (fun _ => ?_)
            refine wp_iload d216_73 rfl ?_
            refine wp_goto d216_75 (tgt := 79) (by decide) ?_
            refine wp_istore_n d216_79 (Nat.le_of_ble_eq_true rfl) rfl ?_
            refine wp_iinc d216_80 rfl (v := nI (k + 1)) (nI_add _ 1) (Nat.le_of_ble_eq_true rfl) rfl ?_
            refine wp_goto d216_83 (tgt := 6) (by decide) ?_
            exact ih (nD - (k + 1)) (by omega) (k + 1) _ _ rfl (by omega) (by simp only [F_db]; rw [if_pos (by grind)])
      · refine wp_aload_n d216_28 rfl ?_
        refine wp_iload d216_29 rfl ?_
        refine wp_iconst d216_31 (v := nI 1) (by decide) ?_
        refine wp_invvT (e := 53) (j2 := 217) (n := 2) d216_32 (by decide +kernel) (by decide +kernel) rfl rfl rfl (md_0 hR) (by decide +kernel) (Nat.le_of_ble_eq_true rfl) rfl rfl (Nat.le_of_ble_eq_true rfl) (by decide +kernel) (c_doorPart hR (r := k) (p := 1) (by omega) (by omega)) ?_
        refine wp_iload_n d216_35 rfl ?_
        refine wp_icmp_eq d216_36 (tgt := 61) (by decide) (fun hc36 => ?_) (fun hc36 => ?_)
        · refine wp_iconst d216_61 (v := nI 1) (by decide) ?_
          refine wp_goto d216_62 (tgt := 66) (by decide) ?_
          refine wp_istore d216_66 (Nat.le_of_ble_eq_true rfl) rfl ?_
          refine wp_iload d216_68 rfl ?_
          refine wp_if_eq d216_70 (tgt := 78) (by decide) (fun hz => absurd hz (by decide)) (fun _ => ?_)
          refine wp_iload d216_73 rfl ?_
          refine wp_goto d216_75 (tgt := 79) (by decide) ?_
          refine wp_istore_n d216_79 (Nat.le_of_ble_eq_true rfl) rfl ?_
          refine wp_iinc d216_80 rfl (v := nI (k + 1)) (nI_add _ 1) (Nat.le_of_ble_eq_true rfl) rfl ?_
          refine wp_goto d216_83 (tgt := 6) (by decide) ?_
          exact ih (nD - (k + 1)) (by omega) (k + 1) _ _ rfl (by omega) (by simp only [F_db]; rw [if_pos (by grind)])
        · refine wp_aload_n d216_39 rfl ?_
          refine wp_iload d216_40 rfl ?_
          refine wp_iconst d216_42 (v := nI 0) (by decide) ?_
          refine wp_invvT (e := 53) (j2 := 217) (n := 2) d216_43 (by decide +kernel) (by decide +kernel) rfl rfl rfl (md_0 hR) (by decide +kernel) (Nat.le_of_ble_eq_true rfl) rfl rfl (Nat.le_of_ble_eq_true rfl) (by decide +kernel) (c_doorPart hR (r := k) (p := 0) (by omega) (by omega)) ?_
          refine wp_iload_n d216_46 rfl ?_
          refine wp_icmp_ne d216_47 (tgt := 65) (by decide) (fun hc47 => ?_) (fun hc47 => ?_)
          · refine wp_iconst d216_65 (v := nI 0) (by decide) ?_
            refine wp_istore d216_66 (Nat.le_of_ble_eq_true rfl) rfl ?_
            refine wp_iload d216_68 rfl ?_
            refine wp_if_eq d216_70 (tgt := 78) (by decide) (fun _ => ?_) (fun hz => absurd hz (by decide))
            refine wp_iload_n d216_78 rfl ?_
            refine wp_istore_n d216_79 (Nat.le_of_ble_eq_true rfl) rfl ?_
            refine wp_iinc d216_80 rfl (v := nI (k + 1)) (nI_add _ 1) (Nat.le_of_ble_eq_true rfl) rfl ?_
            refine wp_goto d216_83 (tgt := 6) (by decide) ?_
            exact ih (nD - (k + 1)) (by omega) (k + 1) _ _ rfl (by omega) (by simp only [F_db]; rw [if_neg (by grind), ← ha])
          · refine wp_aload_n d216_50 rfl ?_
            refine wp_iload d216_51 rfl ?_
            refine wp_iconst d216_53 (v := nI 1) (by decide) ?_
            refine wp_invvT (e := 53) (j2 := 217) (n := 2) d216_54 (by decide +kernel) (by decide +kernel) rfl rfl rfl (md_0 hR) (by decide +kernel) (Nat.le_of_ble_eq_true rfl) rfl rfl (Nat.le_of_ble_eq_true rfl) (by decide +kernel) (c_doorPart hR (r := k) (p := 1) (by omega) (by omega)) ?_
            refine wp_iload_n d216_57 rfl ?_
            refine wp_icmp_ne d216_58 (tgt := 65) (by decide) (fun hc58 => ?_) (fun hc58 => ?_)
            · refine wp_iconst d216_65 (v := nI 0) (by decide) ?_
              refine wp_istore d216_66 (Nat.le_of_ble_eq_true rfl) rfl ?_
              refine wp_iload d216_68 rfl ?_
              refine wp_if_eq d216_70 (tgt := 78) (by decide) (fun _ => ?_) (fun hz => absurd hz (by decide))
              refine wp_iload_n d216_78 rfl ?_
              refine wp_istore_n d216_79 (Nat.le_of_ble_eq_true rfl) rfl ?_
              refine wp_iinc d216_80 rfl (v := nI (k + 1)) (nI_add _ 1) (Nat.le_of_ble_eq_true rfl) rfl ?_
              refine wp_goto d216_83 (tgt := 6) (by decide) ?_
              exact ih (nD - (k + 1)) (by omega) (k + 1) _ _ rfl (by omega) (by simp only [F_db]; rw [if_neg (by grind), ← ha])
            · refine wp_iconst d216_61 (v := nI 1) (by decide) ?_
              refine wp_goto d216_62 (tgt := 66) (by decide) ?_
              refine wp_istore d216_66 (Nat.le_of_ble_eq_true rfl) rfl ?_
              refine wp_iload d216_68 rfl ?_
              refine wp_if_eq d216_70 (tgt := 78) (by decide) (fun hz => absurd hz (by decide)) (fun _ => ?_)
              refine wp_iload d216_73 rfl ?_
              refine wp_goto d216_75 (tgt := 79) (by decide) ?_
              refine wp_istore_n d216_79 (Nat.le_of_ble_eq_true rfl) rfl ?_
              refine wp_iinc d216_80 rfl (v := nI (k + 1)) (nI_add _ 1) (Nat.le_of_ble_eq_true rfl) rfl ?_
              refine wp_goto d216_83 (tgt := 6) (by decide) ?_
              exact ih (nD - (k + 1)) (by omega) (k + 1) _ _ rfl (by omega) (by simp only [F_db]; rw [if_pos (by grind)])
theorem c_doorBetween {X : mX} {h : mH} {R : Nat → Nat → Int32} {σ : Nat → Int32} (hR : Ms h R σ) {nD : Nat} (hn : σ 3 = nI nD) (hD : nD ≤ 20) (x y : Int32) : Tells X 216 [.ref 313, .int (x), .int (y)] h (F_db σ x y nD) := by
  refine wp_bipush d216_0 (v := (-5 : Int32)) (by decide) ?_
  refine wp_istore_n d216_2 (Nat.le_of_ble_eq_true rfl) rfl ?_
  refine wp_iconst d216_3 (v := nI 0) (by decide) ?_
  refine wp_istore d216_4 (Nat.le_of_ble_eq_true rfl) rfl ?_
  exact c_doorBetween_l hR hn hD x y _ 0 _ _ rfl (by omega) rfl
theorem tells_eq {X : mX} {j : Nat} {as : List Value} {h : mH} {r r' : Int32} (hT : Tells X j as h r) (e : r = r') : Tells X j as h r' := e ▸ hT
abbrev F_bit (a k : Int32) : Prop := (a >>> (k &&& 31)) &&& nI 1 = nI 1
def F_bits (v : Int32) : Nat → Int32
  | 0 => nI 0
  | k + 1 => F_bits v k + ((v >>> (nI k &&& 31)) &&& nI 1)
def F_oz (f : Nat → Int32) : Nat → Int32
  | 0 => nI 0
  | k + 1 => F_oz f k + f (8 + k)
def F_bar (f : Nat → Int32) (z : Nat) : Nat → Bool
  | 0 => false
  | k + 1 => F_bar f z k || (decide (F_bit (f (14 + z)) (nI k)) && decide (f (8 + k) = nI 1))
def F_ho (f : Nat → Int32) (key : Int32) : Nat → Int32
  | 0 => -5
  | g + 1 => if F_bit (f (192 + 10 * g + 6)) key then nI g else F_ho f key g
def F_gi (f : Nat → Int32) (v : Int32) : Nat → Nat
  | 0 => 0
  | g + 1 => F_gi f v g + (if f (192 + 10 * g + 0) = v then 1 else 0)
def F_ko (f : Nat → Int32) : Nat → Int32
  | 0 => nI 0
  | g + 1 => F_ko f g + F_bits (f (192 + 10 * g + 6)) 16
theorem F_gi_le (f : Nat → Int32) (v : Int32) (n : Nat) : F_gi f v n ≤ n := by
  induction n with
  | zero => exact Nat.le_refl _
  | succ n ih => unfold F_gi; split <;> omega
theorem c_excludes {X : mX} {h : mH} {R : Nat → Nat → Int32} {σ : Nat → Int32} (hR : Ms h R σ) {z o : Nat} (hz : z < 6) : Tells X 221 [.ref 313, .int (nI z), .int (nI o)] h (m_b (F_bit (σ (14 + z)) (nI o))) := by
  refine wp_aload_n d221_0 rfl ?_
  refine wp_getf (e := 7) (ci := 12) (k := 0) (nest := false) d221_1 (by decide +kernel) (md_0 hR) rfl ?_
  refine wp_bipush d221_4 (v := nI 14) (by decide) ?_
  refine wp_iload_n d221_6 rfl ?_
  refine wp_iaddv d221_7 (v := nI (14 + z)) (nI_add _ _) ?_
  refine wp_iald d221_8 (md_1 hR) (nI_in (by omega) (by decide)) (v := σ (14 + z)) ((congrArg σ (nI_nat (by omega))).trans rfl) ?_
  refine wp_iload_n d221_9 rfl ?_
  refine wp_ishr d221_10 ?_
  refine wp_iconst d221_11 (v := nI 1) (by decide) ?_
  refine wp_iand d221_12 ?_
  refine wp_iconst d221_13 (v := nI 1) (by decide) ?_
  refine wp_icmp_ne d221_14 (tgt := 21) (by decide) (fun hc14 => ?_) (fun hc14 => ?_)
  · refine wp_iconst d221_21 (v := nI 0) (by decide) ?_
    refine wp_zret d221_22 (by decide +kernel) (by decide) ?_
    exact ⟨by congr 2; exact (m_b_f (by assumption)).symm, rfl⟩
  · refine wp_iconst d221_17 (v := nI 1) (by decide) ?_
    refine wp_goto d221_18 (tgt := 22) (by decide) ?_
    refine wp_zret d221_22 (by decide +kernel) (by decide) ?_
    exact ⟨by congr 2; exact (m_b_t (by assumption)).symm, rfl⟩
theorem c_bitsIn_l {X : mX} {h : mH}  (v : Int32) : ∀ (d : Nat) (k : Nat) (a : Int32), 16 - k = d → k ≤ 16 → a = F_bits v k → m_wp X 222 4 [some (.int (v)), some (.int (a)), some (.int (nI k))] [] h (fun w h1 => w = some (.int (F_bits v 16)) ∧ h1 = h) := by
  intro d
  induction d using Nat.strongRecOn with
  | ind d ih =>
    intro k a hd hk ha
    refine wp_iload_n d222_4 rfl ?_
    refine wp_bipush d222_5 (v := nI 16) (by decide) ?_
    refine wp_icmp_ge d222_7 (tgt := 24) (by decide) (fun hc7 => ?_) (fun hc7 => ?_)
    · have hc7 : 16 ≤ k := (nI_leI (by omega) (by omega)).mp hc7
      refine wp_iload_n d222_24 rfl ?_
      refine wp_iret d222_25 (by decide +kernel) ?_
      exact ⟨by rw [ha, show k = 16 by omega], rfl⟩
    · have hc7 : ¬ (16 ≤ k) := fun z => hc7 ((nI_leI (by omega) (by omega)).mpr z)
      refine wp_iload_n d222_10 rfl ?_
      refine wp_iload_n d222_11 rfl ?_
      refine wp_iload_n d222_12 rfl ?_
      refine wp_ishr d222_13 ?_
      refine wp_iconst d222_14 (v := nI 1) (by decide) ?_
      refine wp_iand d222_15 ?_
      refine wp_iadd d222_16 ?_
      refine wp_istore_n d222_17 (Nat.le_of_ble_eq_true rfl) rfl ?_
      refine wp_iinc d222_18 rfl (v := nI (k + 1)) (nI_add _ 1) (Nat.le_of_ble_eq_true rfl) rfl ?_
      refine wp_goto d222_21 (tgt := 4) (by decide) ?_
      exact ih (16 - (k + 1)) (by omega) (k + 1) _ rfl (by omega) (by rw [ha]; rfl)
theorem c_bitsIn {X : mX} {h : mH}  (v : Int32) : Tells X 222 [.int (v)] h (F_bits v 16) := by
  refine wp_iconst d222_0 (v := nI 0) (by decide) ?_
  refine wp_istore_n d222_1 (Nat.le_of_ble_eq_true rfl) rfl ?_
  refine wp_iconst d222_2 (v := nI 0) (by decide) ?_
  refine wp_istore_n d222_3 (Nat.le_of_ble_eq_true rfl) rfl ?_
  exact c_bitsIn_l v _ 0 _ rfl (by omega) rfl
theorem c_openZones_l {X : mX} {h : mH} {R : Nat → Nat → Int32} {σ : Nat → Int32} (hR : Ms h R σ)  : ∀ (d : Nat) (k : Nat) (a : Int32), 6 - k = d → k ≤ 6 → a = F_oz σ k → m_wp X 225 4 [some (.ref 313), some (.int (a)), some (.int (nI k))] [] h (fun w h1 => w = some (.int (F_oz σ 6)) ∧ h1 = h) := by
  intro d
  induction d using Nat.strongRecOn with
  | ind d ih =>
    intro k a hd hk ha
    refine wp_iload_n d225_4 rfl ?_
    refine wp_bipush d225_5 (v := nI 6) (by decide) ?_
    refine wp_icmp_ge d225_7 (tgt := 28) (by decide) (fun hc7 => ?_) (fun hc7 => ?_)
    · have hc7 : 6 ≤ k := (nI_leI (by omega) (by omega)).mp hc7
      refine wp_iload_n d225_28 rfl ?_
      refine wp_iret d225_29 (by decide +kernel) ?_
      exact ⟨by rw [ha, show k = 6 by omega], rfl⟩
    · have hc7 : ¬ (6 ≤ k) := fun z => hc7 ((nI_leI (by omega) (by omega)).mpr z)
      refine wp_iload_n d225_10 rfl ?_
      refine wp_aload_n d225_11 rfl ?_
      refine wp_getf (e := 7) (ci := 12) (k := 0) (nest := false) d225_12 (by decide +kernel) (md_0 hR) rfl ?_
      refine wp_bipush d225_15 (v := nI 8) (by decide) ?_
      refine wp_iload_n d225_17 rfl ?_
      refine wp_iaddv d225_18 (v := nI (8 + k)) (nI_add _ _) ?_
      refine wp_iald d225_19 (md_1 hR) (nI_in (by omega) (by decide)) (v := σ (8 + k)) ((congrArg σ (nI_nat (by omega))).trans rfl) ?_
      refine wp_iadd d225_20 ?_
      refine wp_istore_n d225_21 (Nat.le_of_ble_eq_true rfl) rfl ?_
      refine wp_iinc d225_22 rfl (v := nI (k + 1)) (nI_add _ 1) (Nat.le_of_ble_eq_true rfl) rfl ?_
      refine wp_goto d225_25 (tgt := 4) (by decide) ?_
      exact ih (6 - (k + 1)) (by omega) (k + 1) _ rfl (by omega) (by rw [ha]; rfl)
theorem c_openZones {X : mX} {h : mH} {R : Nat → Nat → Int32} {σ : Nat → Int32} (hR : Ms h R σ)  : Tells X 225 [.ref 313] h (F_oz σ 6) := by
  refine wp_iconst d225_0 (v := nI 0) (by decide) ?_
  refine wp_istore_n d225_1 (Nat.le_of_ble_eq_true rfl) rfl ?_
  refine wp_iconst d225_2 (v := nI 0) (by decide) ?_
  refine wp_istore_n d225_3 (Nat.le_of_ble_eq_true rfl) rfl ?_
  exact c_openZones_l hR _ 0 _ rfl (by omega) rfl
theorem c_isBarred_l {X : mX} {h : mH} {R : Nat → Nat → Int32} {σ : Nat → Int32} (hR : Ms h R σ) {z : Nat} (hz : z < 6) : ∀ (d : Nat) (k : Nat) (a : Bool), 6 - k = d → k ≤ 6 → a = F_bar σ z k → m_wp X 224 4 [some (.ref 313), some (.int (nI z)), some (.int (m_b (a = true))), some (.int (nI k))] [] h (fun w h1 => w = some (.int (m_b (F_bar σ z 6 = true))) ∧ h1 = h) := by
  intro d
  induction d using Nat.strongRecOn with
  | ind d ih =>
    intro k a hd hk ha
    refine wp_iload_n d224_4 rfl ?_
    refine wp_bipush d224_5 (v := nI 6) (by decide) ?_
    refine wp_icmp_ge d224_7 (tgt := 48) (by decide) (fun hc7 => ?_) (fun hc7 => ?_)
    · have hc7 : 6 ≤ k := (nI_leI (by omega) (by omega)).mp hc7
      refine wp_iload_n d224_48 rfl ?_
      refine wp_zret d224_49 (by decide +kernel) (m_b_01 _) ?_
      exact ⟨by rw [ha, show k = 6 by omega], rfl⟩
    · have hc7 : ¬ (6 ≤ k) := fun z => hc7 ((nI_leI (by omega) (by omega)).mpr z)
      refine wp_iload_n d224_10 rfl ?_
      refine wp_ifb_ne d224_11 (tgt := 36) (by decide) (fun hc11 => ?_) (fun hc11 => ?_)
      · refine wp_iconst d224_36 (v := nI 1) (by decide) ?_
        refine wp_goto d224_37 (tgt := 41) (by decide) ?_
        refine wp_istore_n d224_41 (Nat.le_of_ble_eq_true rfl) rfl ?_
        refine wp_iinc d224_42 rfl (v := nI (k + 1)) (nI_add _ 1) (Nat.le_of_ble_eq_true rfl) rfl ?_
        refine wp_goto d224_45 (tgt := 4) (by decide) ?_
        exact ih (6 - (k + 1)) (by omega) (k + 1) true rfl (by omega) (by simp only [F_bar]; grind)
      · refine wp_aload_n d224_14 rfl ?_
        refine wp_iload_n d224_15 rfl ?_
        refine wp_iload_n d224_16 rfl ?_
        refine wp_invvT (e := 66) (j2 := 221) (n := 2) d224_17 (by decide +kernel) (by decide +kernel) rfl rfl rfl (md_0 hR) (by decide +kernel) (Nat.le_of_ble_eq_true rfl) rfl rfl (Nat.le_of_ble_eq_true rfl) (by decide +kernel) (c_excludes hR (z := z) (o := k) (by omega)) ?_
        refine wp_ifb_eq d224_20 (tgt := 40) (by decide) (fun hc20 => ?_) (fun hc20 => ?_)
        · refine wp_iconst d224_40 (v := nI 0) (by decide) ?_
          refine wp_istore_n d224_41 (Nat.le_of_ble_eq_true rfl) rfl ?_
          refine wp_iinc d224_42 rfl (v := nI (k + 1)) (nI_add _ 1) (Nat.le_of_ble_eq_true rfl) rfl ?_
          refine wp_goto d224_45 (tgt := 4) (by decide) ?_
          exact ih (6 - (k + 1)) (by omega) (k + 1) false rfl (by omega) (by simp only [F_bar]; grind)
        · refine wp_aload_n d224_23 rfl ?_
          refine wp_getf (e := 7) (ci := 12) (k := 0) (nest := false) d224_24 (by decide +kernel) (md_0 hR) rfl ?_
          refine wp_bipush d224_27 (v := nI 8) (by decide) ?_
          refine wp_iload_n d224_29 rfl ?_
          refine wp_iaddv d224_30 (v := nI (8 + k)) (nI_add _ _) ?_
          refine wp_iald d224_31 (md_1 hR) (nI_in (by omega) (by decide)) (v := σ (8 + k)) ((congrArg σ (nI_nat (by omega))).trans rfl) ?_
          refine wp_iconst d224_32 (v := nI 1) (by decide) ?_
          refine wp_icmp_ne d224_33 (tgt := 40) (by decide) (fun hc33 => ?_) (fun hc33 => ?_)
          · refine wp_iconst d224_40 (v := nI 0) (by decide) ?_
            refine wp_istore_n d224_41 (Nat.le_of_ble_eq_true rfl) rfl ?_
            refine wp_iinc d224_42 rfl (v := nI (k + 1)) (nI_add _ 1) (Nat.le_of_ble_eq_true rfl) rfl ?_
            refine wp_goto d224_45 (tgt := 4) (by decide) ?_
            exact ih (6 - (k + 1)) (by omega) (k + 1) false rfl (by omega) (by simp only [F_bar]; grind)
          · refine wp_iconst d224_36 (v := nI 1) (by decide) ?_
            refine wp_goto d224_37 (tgt := 41) (by decide) ?_
            refine wp_istore_n d224_41 (Nat.le_of_ble_eq_true rfl) rfl ?_
            refine wp_iinc d224_42 rfl (v := nI (k + 1)) (nI_add _ 1) (Nat.le_of_ble_eq_true rfl) rfl ?_
            refine wp_goto d224_45 (tgt := 4) (by decide) ?_
            exact ih (6 - (k + 1)) (by omega) (k + 1) true rfl (by omega) (by simp only [F_bar]; grind)
theorem c_isBarred {X : mX} {h : mH} {R : Nat → Nat → Int32} {σ : Nat → Int32} (hR : Ms h R σ) {z : Nat} (hz : z < 6) : Tells X 224 [.ref 313, .int (nI z)] h (m_b (F_bar σ z 6 = true)) := by
  refine wp_iconst d224_0 (v := nI 0) (by decide) ?_
  refine wp_istore_n d224_1 (Nat.le_of_ble_eq_true rfl) rfl ?_
  refine wp_iconst d224_2 (v := nI 0) (by decide) ?_
  refine wp_istore_n d224_3 (Nat.le_of_ble_eq_true rfl) rfl ?_
  exact c_isBarred_l hR hz _ 0 false rfl (by omega) rfl
theorem c_hasKey {X : mX} {h : mH} {R : Nat → Nat → Int32} {σ : Nat → Int32} (hR : Ms h R σ) {g : Nat} (hg : g < 4) (k : Int32) : Tells X 235 [.ref 313, .int (nI g), .int (k)] h (m_b (F_bit (σ (192 + 10 * g + 6)) k)) := by
  refine wp_aload_n d235_0 rfl ?_
  refine wp_iload_n d235_1 rfl ?_
  refine wp_bipush d235_2 (v := nI 6) (by decide) ?_
  refine wp_invvT (e := 81) (j2 := 227) (n := 2) d235_4 (by decide +kernel) (by decide +kernel) rfl rfl rfl (md_0 hR) (by decide +kernel) (Nat.le_of_ble_eq_true rfl) rfl rfl (Nat.le_of_ble_eq_true rfl) (by decide +kernel) (c_guardPart hR (r := g) (p := 6) (by omega) (by omega)) ?_
  refine wp_iload_n d235_7 rfl ?_
  refine wp_ishr d235_8 ?_
  refine wp_iconst d235_9 (v := nI 1) (by decide) ?_
  refine wp_iand d235_10 ?_
  refine wp_iconst d235_11 (v := nI 1) (by decide) ?_
  refine wp_icmp_ne d235_12 (tgt := 19) (by decide) (fun hc12 => ?_) (fun hc12 => ?_)
  · refine wp_iconst d235_19 (v := nI 0) (by decide) ?_
    refine wp_zret d235_20 (by decide +kernel) (by decide) ?_
    exact ⟨by congr 2; exact (m_b_f (by assumption)).symm, rfl⟩
  · refine wp_iconst d235_15 (v := nI 1) (by decide) ?_
    refine wp_goto d235_16 (tgt := 20) (by decide) ?_
    refine wp_zret d235_20 (by decide +kernel) (by decide) ?_
    exact ⟨by congr 2; exact (m_b_t (by assumption)).symm, rfl⟩
theorem c_holderOf_l {X : mX} {h : mH} {R : Nat → Nat → Int32} {σ : Nat → Int32} (hR : Ms h R σ) {nG : Nat} (hn : σ 4 = nI nG) (hG : nG ≤ 4) (y : Int32) : ∀ (d : Nat) (k : Nat) (a : Int32), nG - k = d → k ≤ nG → a = F_ho σ y k → m_wp X 234 5 [some (.ref 313), some (.int (y)), some (.int (a)), some (.int (nI k))] [] h (fun w h1 => w = some (.int (F_ho σ y nG)) ∧ h1 = h) := by
  intro d
  induction d using Nat.strongRecOn with
  | ind d ih =>
    intro k a hd hk ha
    refine wp_iload_n d234_5 rfl ?_
    refine wp_aload_n d234_6 rfl ?_
    refine wp_getf (e := 7) (ci := 12) (k := 0) (nest := false) d234_7 (by decide +kernel) (md_0 hR) rfl ?_
    refine wp_iconst d234_10 (v := nI 4) (by decide) ?_
    refine wp_iald d234_11 (md_1 hR) (nI_in (by omega) (by decide)) (v := nI nG) ((congrArg σ (nI_nat (by omega))).trans hn) ?_
    refine wp_icmp_ge d234_12 (tgt := 36) (by decide) (fun hc12 => ?_) (fun hc12 => ?_)
    · have hc12 : nG ≤ k := (nI_leI (by omega) (by omega)).mp hc12
      refine wp_iload_n d234_36 rfl ?_
      refine wp_iret d234_37 (by decide +kernel) ?_
      exact ⟨by rw [ha, show k = nG by omega], rfl⟩
    · have hc12 : ¬ (nG ≤ k) := fun z => hc12 ((nI_leI (by omega) (by omega)).mpr z)
      refine wp_aload_n d234_15 rfl ?_
      refine wp_iload_n d234_16 rfl ?_
      refine wp_iload_n d234_17 rfl ?_
      refine wp_invvT (e := 91) (j2 := 235) (n := 2) d234_18 (by decide +kernel) (by decide +kernel) rfl rfl rfl (md_0 hR) (by decide +kernel) (Nat.le_of_ble_eq_true rfl) rfl rfl (Nat.le_of_ble_eq_true rfl) (by decide +kernel) (c_hasKey hR (g := k) (by omega) (y)) ?_
      refine wp_ifb_eq d234_21 (tgt := 28) (by decide) (fun hc21 => ?_) (fun hc21 => ?_)
      · refine wp_iload_n d234_28 rfl ?_
        refine wp_istore_n d234_29 (Nat.le_of_ble_eq_true rfl) rfl ?_
        refine wp_iinc d234_30 rfl (v := nI (k + 1)) (nI_add _ 1) (Nat.le_of_ble_eq_true rfl) rfl ?_
        refine wp_goto d234_33 (tgt := 5) (by decide) ?_
        exact ih (nG - (k + 1)) (by omega) (k + 1) _ rfl (by omega) (by simp only [F_ho]; rw [if_neg (by assumption), ← ha])
      · refine wp_iload_n d234_24 rfl ?_
        refine wp_goto d234_25 (tgt := 29) (by decide) ?_
        refine wp_istore_n d234_29 (Nat.le_of_ble_eq_true rfl) rfl ?_
        refine wp_iinc d234_30 rfl (v := nI (k + 1)) (nI_add _ 1) (Nat.le_of_ble_eq_true rfl) rfl ?_
        refine wp_goto d234_33 (tgt := 5) (by decide) ?_
        exact ih (nG - (k + 1)) (by omega) (k + 1) _ rfl (by omega) (by simp only [F_ho]; rw [if_pos (by assumption)])
theorem c_holderOf {X : mX} {h : mH} {R : Nat → Nat → Int32} {σ : Nat → Int32} (hR : Ms h R σ) {nG : Nat} (hn : σ 4 = nI nG) (hG : nG ≤ 4) (y : Int32) : Tells X 234 [.ref 313, .int (y)] h (F_ho σ y nG) := by
  refine wp_bipush d234_0 (v := (-5 : Int32)) (by decide) ?_
  refine wp_istore_n d234_2 (Nat.le_of_ble_eq_true rfl) rfl ?_
  refine wp_iconst d234_3 (v := nI 0) (by decide) ?_
  refine wp_istore_n d234_4 (Nat.le_of_ble_eq_true rfl) rfl ?_
  exact c_holderOf_l hR hn hG y _ 0 _ rfl (by omega) rfl
theorem c_keysOf {X : mX} {h : mH} {R : Nat → Nat → Int32} {σ : Nat → Int32} (hR : Ms h R σ) {g : Nat} (hg : g < 4) : Tells X 236 [.ref 313, .int (nI g)] h (F_bits (σ (192 + 10 * g + 6)) 16) := by
  refine wp_aload_n d236_0 rfl ?_
  refine wp_iload_n d236_1 rfl ?_
  refine wp_bipush d236_2 (v := nI 6) (by decide) ?_
  refine wp_invvT (e := 81) (j2 := 227) (n := 2) d236_4 (by decide +kernel) (by decide +kernel) rfl rfl rfl (md_0 hR) (by decide +kernel) (Nat.le_of_ble_eq_true rfl) rfl rfl (Nat.le_of_ble_eq_true rfl) (by decide +kernel) (c_guardPart hR (r := g) (p := 6) (by omega) (by omega)) ?_
  refine wp_invsT (e := 70) (j2 := 222) (n := 1) d236_7 (by decide +kernel) (by decide +kernel) rfl rfl rfl (Nat.le_of_ble_eq_true rfl) (Nat.le_of_ble_eq_true rfl) rfl rfl (Nat.le_of_ble_eq_true rfl) (by decide +kernel) (c_bitsIn (σ (192 + 10 * g + 6))) ?_
  refine wp_iret d236_10 (by decide +kernel) ?_
  exact ⟨rfl, rfl⟩
theorem c_guardsIn_l {X : mX} {h : mH} {R : Nat → Nat → Int32} {σ : Nat → Int32} (hR : Ms h R σ) {nG : Nat} (hn : σ 4 = nI nG) (hG : nG ≤ 4) (y : Int32) : ∀ (d : Nat) (k a : Nat), nG - k = d → k ≤ nG → a = F_gi σ y k → m_wp X 247 4 [some (.ref 313), some (.int (y)), some (.int (nI a)), some (.int (nI k))] [] h (fun w h1 => w = some (.int (nI (F_gi σ y nG))) ∧ h1 = h) := by
  intro d
  induction d using Nat.strongRecOn with
  | ind d ih =>
    intro k a hd hk ha
    refine wp_iload_n d247_4 rfl ?_
    refine wp_aload_n d247_5 rfl ?_
    refine wp_getf (e := 7) (ci := 12) (k := 0) (nest := false) d247_6 (by decide +kernel) (md_0 hR) rfl ?_
    refine wp_iconst d247_9 (v := nI 4) (by decide) ?_
    refine wp_iald d247_10 (md_1 hR) (nI_in (by omega) (by decide)) (v := nI nG) ((congrArg σ (nI_nat (by omega))).trans hn) ?_
    refine wp_icmp_ge d247_11 (tgt := 38) (by decide) (fun hc11 => ?_) (fun hc11 => ?_)
    · have hc11 : nG ≤ k := (nI_leI (by omega) (by omega)).mp hc11
      refine wp_iload_n d247_38 rfl ?_
      refine wp_iret d247_39 (by decide +kernel) ?_
      exact ⟨by rw [ha, show k = nG by omega], rfl⟩
    · have hc11 : ¬ (nG ≤ k) := fun z => hc11 ((nI_leI (by omega) (by omega)).mpr z)
      refine wp_iload_n d247_14 rfl ?_
      refine wp_aload_n d247_15 rfl ?_
      refine wp_iload_n d247_16 rfl ?_
      refine wp_iconst d247_17 (v := nI 0) (by decide) ?_
      refine wp_invvT (e := 81) (j2 := 227) (n := 2) d247_18 (by decide +kernel) (by decide +kernel) rfl rfl rfl (md_0 hR) (by decide +kernel) (Nat.le_of_ble_eq_true rfl) rfl rfl (Nat.le_of_ble_eq_true rfl) (by decide +kernel) (c_guardPart hR (r := k) (p := 0) (by omega) (by omega)) ?_
      refine wp_iload_n d247_21 rfl ?_
      refine wp_icmp_ne d247_22 (tgt := 29) (by decide) (fun hc22 => ?_) (fun hc22 => ?_)
      · refine wp_iconst d247_29 (v := nI 0) (by decide) ?_
        refine wp_iaddv d247_30 (v := nI (a + 0)) (nI_add _ _) ?_
        refine wp_istore_n d247_31 (Nat.le_of_ble_eq_true rfl) rfl ?_
        refine wp_iinc d247_32 rfl (v := nI (k + 1)) (nI_add _ 1) (Nat.le_of_ble_eq_true rfl) rfl ?_
        refine wp_goto d247_35 (tgt := 4) (by decide) ?_
        exact ih (nG - (k + 1)) (by omega) (k + 1) _ rfl (by omega) (by simp only [F_gi]; rw [if_neg (by assumption), ha])
      · refine wp_iconst d247_25 (v := nI 1) (by decide) ?_
        refine wp_goto d247_26 (tgt := 30) (by decide) ?_
        refine wp_iaddv d247_30 (v := nI (a + 1)) (nI_add _ _) ?_
        refine wp_istore_n d247_31 (Nat.le_of_ble_eq_true rfl) rfl ?_
        refine wp_iinc d247_32 rfl (v := nI (k + 1)) (nI_add _ 1) (Nat.le_of_ble_eq_true rfl) rfl ?_
        refine wp_goto d247_35 (tgt := 4) (by decide) ?_
        exact ih (nG - (k + 1)) (by omega) (k + 1) _ rfl (by omega) (by simp only [F_gi]; rw [if_pos (by assumption), ha])
theorem c_guardsIn {X : mX} {h : mH} {R : Nat → Nat → Int32} {σ : Nat → Int32} (hR : Ms h R σ) {nG : Nat} (hn : σ 4 = nI nG) (hG : nG ≤ 4) (y : Int32) : Tells X 247 [.ref 313, .int (y)] h (nI (F_gi σ y nG)) := by
  refine wp_iconst d247_0 (v := nI 0) (by decide) ?_
  refine wp_istore_n d247_1 (Nat.le_of_ble_eq_true rfl) rfl ?_
  refine wp_iconst d247_2 (v := nI 0) (by decide) ?_
  refine wp_istore_n d247_3 (Nat.le_of_ble_eq_true rfl) rfl ?_
  exact c_guardsIn_l hR hn hG y _ 0 0 rfl (by omega) rfl
theorem c_keysOut_l {X : mX} {h : mH} {R : Nat → Nat → Int32} {σ : Nat → Int32} (hR : Ms h R σ) {nG : Nat} (hn : σ 4 = nI nG) (hG : nG ≤ 4) : ∀ (d : Nat) (k : Nat) (a : Int32), nG - k = d → k ≤ nG → a = F_ko σ k → m_wp X 264 4 [some (.ref 313), some (.int (a)), some (.int (nI k))] [] h (fun w h1 => w = some (.int (F_ko σ nG)) ∧ h1 = h) := by
  intro d
  induction d using Nat.strongRecOn with
  | ind d ih =>
    intro k a hd hk ha
    refine wp_iload_n d264_4 rfl ?_
    refine wp_aload_n d264_5 rfl ?_
    refine wp_getf (e := 7) (ci := 12) (k := 0) (nest := false) d264_6 (by decide +kernel) (md_0 hR) rfl ?_
    refine wp_iconst d264_9 (v := nI 4) (by decide) ?_
    refine wp_iald d264_10 (md_1 hR) (nI_in (by omega) (by decide)) (v := nI nG) ((congrArg σ (nI_nat (by omega))).trans hn) ?_
    refine wp_icmp_ge d264_11 (tgt := 28) (by decide) (fun hc11 => ?_) (fun hc11 => ?_)
    · have hc11 : nG ≤ k := (nI_leI (by omega) (by omega)).mp hc11
      refine wp_iload_n d264_28 rfl ?_
      refine wp_iret d264_29 (by decide +kernel) ?_
      exact ⟨by rw [ha, show k = nG by omega], rfl⟩
    · have hc11 : ¬ (nG ≤ k) := fun z => hc11 ((nI_leI (by omega) (by omega)).mpr z)
      refine wp_iload_n d264_14 rfl ?_
      refine wp_aload_n d264_15 rfl ?_
      refine wp_iload_n d264_16 rfl ?_
      refine wp_invvT (e := 103) (j2 := 236) (n := 1) d264_17 (by decide +kernel) (by decide +kernel) rfl rfl rfl (md_0 hR) (by decide +kernel) (Nat.le_of_ble_eq_true rfl) rfl rfl (Nat.le_of_ble_eq_true rfl) (by decide +kernel) (c_keysOf hR (g := k) (by omega)) ?_
      refine wp_iadd d264_20 ?_
      refine wp_istore_n d264_21 (Nat.le_of_ble_eq_true rfl) rfl ?_
      refine wp_iinc d264_22 rfl (v := nI (k + 1)) (nI_add _ 1) (Nat.le_of_ble_eq_true rfl) rfl ?_
      refine wp_goto d264_25 (tgt := 4) (by decide) ?_
      exact ih (nG - (k + 1)) (by omega) (k + 1) _ rfl (by omega) (by rw [ha]; rfl)
theorem c_keysOut {X : mX} {h : mH} {R : Nat → Nat → Int32} {σ : Nat → Int32} (hR : Ms h R σ) {nG : Nat} (hn : σ 4 = nI nG) (hG : nG ≤ 4) : Tells X 264 [.ref 313] h (F_ko σ nG) := by
  refine wp_iconst d264_0 (v := nI 0) (by decide) ?_
  refine wp_istore_n d264_1 (Nat.le_of_ble_eq_true rfl) rfl ?_
  refine wp_iconst d264_2 (v := nI 0) (by decide) ?_
  refine wp_istore_n d264_3 (Nat.le_of_ble_eq_true rfl) rfl ?_
  exact c_keysOut_l hR hn hG _ 0 _ rfl (by omega) rfl
theorem c_mayPass {X : mX} {h : mH} {R : Nat → Nat → Int32} {σ : Nat → Int32} (hR : Ms h R σ) {g d : Nat} (hg : g < 4) (hd : d < 20) : Tells X 258 [.ref 313, .int (nI g), .int (nI d)] h (m_b (σ (92 + 5 * d + 3) < 0 ∨ F_bit (σ (192 + 10 * g + 6)) (σ (92 + 5 * d + 3)))) := by
  refine wp_aload_n d258_0 rfl ?_
  refine wp_iload_n d258_1 rfl ?_
  refine wp_iconst d258_2 (v := nI 3) (by decide) ?_
  refine wp_invvT (e := 53) (j2 := 217) (n := 2) d258_3 (by decide +kernel) (by decide +kernel) rfl rfl rfl (md_0 hR) (by decide +kernel) (Nat.le_of_ble_eq_true rfl) rfl rfl (Nat.le_of_ble_eq_true rfl) (by decide +kernel) (c_doorPart hR (r := d) (p := 3) (by omega) (by omega)) ?_
  refine wp_istore_n d258_6 (Nat.le_of_ble_eq_true rfl) rfl ?_
  refine wp_iload_n d258_7 rfl ?_
  refine wp_if_lt d258_8 (tgt := 20) (by decide) (fun hc8 => ?_) (fun hc8 => ?_)
  · refine wp_iconst d258_20 (v := nI 1) (by decide) ?_
    refine wp_goto d258_21 (tgt := 25) (by decide) ?_
    refine wp_zret d258_25 (by decide +kernel) (by decide) ?_
    exact ⟨by congr 2; exact (m_b_t (by grind)).symm, rfl⟩
  · refine wp_aload_n d258_11 rfl ?_
    refine wp_iload_n d258_12 rfl ?_
    refine wp_iload_n d258_13 rfl ?_
    refine wp_invvT (e := 91) (j2 := 235) (n := 2) d258_14 (by decide +kernel) (by decide +kernel) rfl rfl rfl (md_0 hR) (by decide +kernel) (Nat.le_of_ble_eq_true rfl) rfl rfl (Nat.le_of_ble_eq_true rfl) (by decide +kernel) (c_hasKey hR (g := g) (by omega) (σ (92 + 5 * d + 3))) ?_
    refine wp_ifb_eq d258_17 (tgt := 24) (by decide) (fun hc17 => ?_) (fun hc17 => ?_)
    · refine wp_iconst d258_24 (v := nI 0) (by decide) ?_
      refine wp_zret d258_25 (by decide +kernel) (by decide) ?_
      exact ⟨by congr 2; exact (m_b_f (by grind)).symm, rfl⟩
    · refine wp_iconst d258_20 (v := nI 1) (by decide) ?_
      refine wp_goto d258_21 (tgt := 25) (by decide) ?_
      refine wp_zret d258_25 (by decide +kernel) (by decide) ?_
      exact ⟨by congr 2; exact (m_b_t (by grind)).symm, rfl⟩
end
section
/-! The reference's steps. -/
theorem d230_0 : decode (m_code 230) 0 = .ok (.aload_n 0, 1) := by decide +kernel
theorem d230_1 : decode (m_code 230) 1 = .ok (.getfield 7, 3) := by decide +kernel
theorem d230_4 : decode (m_code 230) 4 = .ok (.sipush 192, 3) := by decide +kernel
theorem d230_7 : decode (m_code 230) 7 = .ok (.bipush 10, 2) := by decide +kernel
theorem d230_9 : decode (m_code 230) 9 = .ok (.iload_n 1, 1) := by decide +kernel
theorem d230_10 : decode (m_code 230) 10 = .ok (.imul, 1) := by decide +kernel
theorem d230_11 : decode (m_code 230) 11 = .ok (.iadd, 1) := by decide +kernel
theorem d230_12 : decode (m_code 230) 12 = .ok (.iload_n 2, 1) := by decide +kernel
theorem d230_13 : decode (m_code 230) 13 = .ok (.iadd, 1) := by decide +kernel
theorem d230_14 : decode (m_code 230) 14 = .ok (.iload_n 3, 1) := by decide +kernel
theorem d230_15 : decode (m_code 230) 15 = .ok (.iastore, 1) := by decide +kernel
theorem d230_16 : decode (m_code 230) 16 = .ok (.return_, 1) := by decide +kernel
theorem d237_0 : decode (m_code 237) 0 = .ok (.aload_n 0, 1) := by decide +kernel
theorem d237_1 : decode (m_code 237) 1 = .ok (.iload_n 1, 1) := by decide +kernel
theorem d237_2 : decode (m_code 237) 2 = .ok (.bipush 6, 2) := by decide +kernel
theorem d237_4 : decode (m_code 237) 4 = .ok (.aload_n 0, 1) := by decide +kernel
theorem d237_5 : decode (m_code 237) 5 = .ok (.iload_n 1, 1) := by decide +kernel
theorem d237_6 : decode (m_code 237) 6 = .ok (.bipush 6, 2) := by decide +kernel
theorem d237_8 : decode (m_code 237) 8 = .ok (.invokevirtual 81, 3) := by decide +kernel
theorem d237_11 : decode (m_code 237) 11 = .ok (.iconst 1, 1) := by decide +kernel
theorem d237_12 : decode (m_code 237) 12 = .ok (.iload_n 2, 1) := by decide +kernel
theorem d237_13 : decode (m_code 237) 13 = .ok (.ishl, 1) := by decide +kernel
theorem d237_14 : decode (m_code 237) 14 = .ok (.ixor, 1) := by decide +kernel
theorem d237_15 : decode (m_code 237) 15 = .ok (.invokevirtual 87, 3) := by decide +kernel
theorem d237_18 : decode (m_code 237) 18 = .ok (.return_, 1) := by decide +kernel
theorem d241_0 : decode (m_code 241) 0 = .ok (.aload_n 0, 1) := by decide +kernel
theorem d241_1 : decode (m_code 241) 1 = .ok (.iload_n 1, 1) := by decide +kernel
theorem d241_2 : decode (m_code 241) 2 = .ok (.iconst 5, 1) := by decide +kernel
theorem d241_3 : decode (m_code 241) 3 = .ok (.invokevirtual 81, 3) := by decide +kernel
theorem d241_6 : decode (m_code 241) 6 = .ok (.istore 4, 2) := by decide +kernel
theorem d241_8 : decode (m_code 241) 8 = .ok (.aload_n 0, 1) := by decide +kernel
theorem d241_9 : decode (m_code 241) 9 = .ok (.getfield 7, 3) := by decide +kernel
theorem d241_12 : decode (m_code 241) 12 = .ok (.sipush 232, 3) := by decide +kernel
theorem d241_15 : decode (m_code 241) 15 = .ok (.bipush 24, 2) := by decide +kernel
theorem d241_17 : decode (m_code 241) 17 = .ok (.iload_n 1, 1) := by decide +kernel
theorem d241_18 : decode (m_code 241) 18 = .ok (.imul, 1) := by decide +kernel
theorem d241_19 : decode (m_code 241) 19 = .ok (.iadd, 1) := by decide +kernel
theorem d241_20 : decode (m_code 241) 20 = .ok (.iconst 2, 1) := by decide +kernel
theorem d241_21 : decode (m_code 241) 21 = .ok (.iload 4, 2) := by decide +kernel
theorem d241_23 : decode (m_code 241) 23 = .ok (.imul, 1) := by decide +kernel
theorem d241_24 : decode (m_code 241) 24 = .ok (.iadd, 1) := by decide +kernel
theorem d241_25 : decode (m_code 241) 25 = .ok (.iload_n 2, 1) := by decide +kernel
theorem d241_26 : decode (m_code 241) 26 = .ok (.iastore, 1) := by decide +kernel
theorem d241_27 : decode (m_code 241) 27 = .ok (.aload_n 0, 1) := by decide +kernel
theorem d241_28 : decode (m_code 241) 28 = .ok (.getfield 7, 3) := by decide +kernel
theorem d241_31 : decode (m_code 241) 31 = .ok (.sipush 232, 3) := by decide +kernel
theorem d241_34 : decode (m_code 241) 34 = .ok (.bipush 24, 2) := by decide +kernel
theorem d241_36 : decode (m_code 241) 36 = .ok (.iload_n 1, 1) := by decide +kernel
theorem d241_37 : decode (m_code 241) 37 = .ok (.imul, 1) := by decide +kernel
theorem d241_38 : decode (m_code 241) 38 = .ok (.iadd, 1) := by decide +kernel
theorem d241_39 : decode (m_code 241) 39 = .ok (.iconst 2, 1) := by decide +kernel
theorem d241_40 : decode (m_code 241) 40 = .ok (.iload 4, 2) := by decide +kernel
theorem d241_42 : decode (m_code 241) 42 = .ok (.imul, 1) := by decide +kernel
theorem d241_43 : decode (m_code 241) 43 = .ok (.iadd, 1) := by decide +kernel
theorem d241_44 : decode (m_code 241) 44 = .ok (.iconst 1, 1) := by decide +kernel
theorem d241_45 : decode (m_code 241) 45 = .ok (.iadd, 1) := by decide +kernel
theorem d241_46 : decode (m_code 241) 46 = .ok (.iload_n 3, 1) := by decide +kernel
theorem d241_47 : decode (m_code 241) 47 = .ok (.iastore, 1) := by decide +kernel
theorem d241_48 : decode (m_code 241) 48 = .ok (.aload_n 0, 1) := by decide +kernel
theorem d241_49 : decode (m_code 241) 49 = .ok (.iload_n 1, 1) := by decide +kernel
theorem d241_50 : decode (m_code 241) 50 = .ok (.iconst 5, 1) := by decide +kernel
theorem d241_51 : decode (m_code 241) 51 = .ok (.iload 4, 2) := by decide +kernel
theorem d241_53 : decode (m_code 241) 53 = .ok (.iconst 1, 1) := by decide +kernel
theorem d241_54 : decode (m_code 241) 54 = .ok (.iadd, 1) := by decide +kernel
theorem d241_55 : decode (m_code 241) 55 = .ok (.invokevirtual 87, 3) := by decide +kernel
theorem d241_58 : decode (m_code 241) 58 = .ok (.return_, 1) := by decide +kernel
theorem d261_0 : decode (m_code 261) 0 = .ok (.aload_n 0, 1) := by decide +kernel
theorem d261_1 : decode (m_code 261) 1 = .ok (.getfield 7, 3) := by decide +kernel
theorem d261_4 : decode (m_code 261) 4 = .ok (.bipush 6, 2) := by decide +kernel
theorem d261_6 : decode (m_code 261) 6 = .ok (.iaload, 1) := by decide +kernel
theorem d261_7 : decode (m_code 261) 7 = .ok (.istore_n 3, 1) := by decide +kernel
theorem d261_8 : decode (m_code 261) 8 = .ok (.iload_n 3, 1) := by decide +kernel
theorem d261_9 : decode (m_code 261) 9 = .ok (.bipush 40, 2) := by decide +kernel
theorem d261_11 : decode (m_code 261) 11 = .ok (.if_icmp .ne 16, 3) := by decide +kernel
theorem d261_14 : decode (m_code 261) 14 = .ok (.aload_n 0, 1) := by decide +kernel
theorem d261_15 : decode (m_code 261) 15 = .ok (.getfield 7, 3) := by decide +kernel
theorem d261_18 : decode (m_code 261) 18 = .ok (.bipush 7, 2) := by decide +kernel
theorem d261_20 : decode (m_code 261) 20 = .ok (.dup2, 1) := by decide +kernel
theorem d261_21 : decode (m_code 261) 21 = .ok (.iaload, 1) := by decide +kernel
theorem d261_22 : decode (m_code 261) 22 = .ok (.iconst 1, 1) := by decide +kernel
theorem d261_23 : decode (m_code 261) 23 = .ok (.iadd, 1) := by decide +kernel
theorem d261_24 : decode (m_code 261) 24 = .ok (.iastore, 1) := by decide +kernel
theorem d261_25 : decode (m_code 261) 25 = .ok (.iconst 1, 1) := by decide +kernel
theorem d261_26 : decode (m_code 261) 26 = .ok (.ireturn, 1) := by decide +kernel
theorem d261_27 : decode (m_code 261) 27 = .ok (.aload_n 0, 1) := by decide +kernel
theorem d261_28 : decode (m_code 261) 28 = .ok (.getfield 7, 3) := by decide +kernel
theorem d261_31 : decode (m_code 261) 31 = .ok (.sipush 378, 3) := by decide +kernel
theorem d261_34 : decode (m_code 261) 34 = .ok (.iconst 5, 1) := by decide +kernel
theorem d261_35 : decode (m_code 261) 35 = .ok (.iload_n 3, 1) := by decide +kernel
theorem d261_36 : decode (m_code 261) 36 = .ok (.imul, 1) := by decide +kernel
theorem d261_37 : decode (m_code 261) 37 = .ok (.iadd, 1) := by decide +kernel
theorem d261_38 : decode (m_code 261) 38 = .ok (.iconst 0, 1) := by decide +kernel
theorem d261_39 : decode (m_code 261) 39 = .ok (.iadd, 1) := by decide +kernel
theorem d261_40 : decode (m_code 261) 40 = .ok (.iload_n 1, 1) := by decide +kernel
theorem d261_41 : decode (m_code 261) 41 = .ok (.iastore, 1) := by decide +kernel
theorem d261_42 : decode (m_code 261) 42 = .ok (.aload_n 0, 1) := by decide +kernel
theorem d261_43 : decode (m_code 261) 43 = .ok (.getfield 7, 3) := by decide +kernel
theorem d261_46 : decode (m_code 261) 46 = .ok (.sipush 378, 3) := by decide +kernel
theorem d261_49 : decode (m_code 261) 49 = .ok (.iconst 5, 1) := by decide +kernel
theorem d261_50 : decode (m_code 261) 50 = .ok (.iload_n 3, 1) := by decide +kernel
theorem d261_51 : decode (m_code 261) 51 = .ok (.imul, 1) := by decide +kernel
theorem d261_52 : decode (m_code 261) 52 = .ok (.iadd, 1) := by decide +kernel
theorem d261_53 : decode (m_code 261) 53 = .ok (.iconst 1, 1) := by decide +kernel
theorem d261_54 : decode (m_code 261) 54 = .ok (.iadd, 1) := by decide +kernel
theorem d261_55 : decode (m_code 261) 55 = .ok (.iload_n 2, 1) := by decide +kernel
theorem d261_56 : decode (m_code 261) 56 = .ok (.iastore, 1) := by decide +kernel
theorem d261_57 : decode (m_code 261) 57 = .ok (.aload_n 0, 1) := by decide +kernel
theorem d261_58 : decode (m_code 261) 58 = .ok (.getfield 7, 3) := by decide +kernel
theorem d261_61 : decode (m_code 261) 61 = .ok (.sipush 378, 3) := by decide +kernel
theorem d261_64 : decode (m_code 261) 64 = .ok (.iconst 5, 1) := by decide +kernel
theorem d261_65 : decode (m_code 261) 65 = .ok (.iload_n 3, 1) := by decide +kernel
theorem d261_66 : decode (m_code 261) 66 = .ok (.imul, 1) := by decide +kernel
theorem d261_67 : decode (m_code 261) 67 = .ok (.iadd, 1) := by decide +kernel
theorem d261_68 : decode (m_code 261) 68 = .ok (.iconst 2, 1) := by decide +kernel
theorem d261_69 : decode (m_code 261) 69 = .ok (.iadd, 1) := by decide +kernel
theorem d261_70 : decode (m_code 261) 70 = .ok (.aload_n 0, 1) := by decide +kernel
theorem d261_71 : decode (m_code 261) 71 = .ok (.getfield 7, 3) := by decide +kernel
theorem d261_74 : decode (m_code 261) 74 = .ok (.iconst 0, 1) := by decide +kernel
theorem d261_75 : decode (m_code 261) 75 = .ok (.iaload, 1) := by decide +kernel
theorem d261_76 : decode (m_code 261) 76 = .ok (.iastore, 1) := by decide +kernel
theorem d261_77 : decode (m_code 261) 77 = .ok (.aload_n 0, 1) := by decide +kernel
theorem d261_78 : decode (m_code 261) 78 = .ok (.getfield 7, 3) := by decide +kernel
theorem d261_81 : decode (m_code 261) 81 = .ok (.sipush 378, 3) := by decide +kernel
theorem d261_84 : decode (m_code 261) 84 = .ok (.iconst 5, 1) := by decide +kernel
theorem d261_85 : decode (m_code 261) 85 = .ok (.iload_n 3, 1) := by decide +kernel
theorem d261_86 : decode (m_code 261) 86 = .ok (.imul, 1) := by decide +kernel
theorem d261_87 : decode (m_code 261) 87 = .ok (.iadd, 1) := by decide +kernel
theorem d261_88 : decode (m_code 261) 88 = .ok (.iconst 3, 1) := by decide +kernel
theorem d261_89 : decode (m_code 261) 89 = .ok (.iadd, 1) := by decide +kernel
theorem d261_90 : decode (m_code 261) 90 = .ok (.bipush (-5), 2) := by decide +kernel
theorem d261_92 : decode (m_code 261) 92 = .ok (.iastore, 1) := by decide +kernel
theorem d261_93 : decode (m_code 261) 93 = .ok (.aload_n 0, 1) := by decide +kernel
theorem d261_94 : decode (m_code 261) 94 = .ok (.getfield 7, 3) := by decide +kernel
theorem d261_97 : decode (m_code 261) 97 = .ok (.sipush 378, 3) := by decide +kernel
theorem d261_100 : decode (m_code 261) 100 = .ok (.iconst 5, 1) := by decide +kernel
theorem d261_101 : decode (m_code 261) 101 = .ok (.iload_n 3, 1) := by decide +kernel
theorem d261_102 : decode (m_code 261) 102 = .ok (.imul, 1) := by decide +kernel
theorem d261_103 : decode (m_code 261) 103 = .ok (.iadd, 1) := by decide +kernel
theorem d261_104 : decode (m_code 261) 104 = .ok (.iconst 4, 1) := by decide +kernel
theorem d261_105 : decode (m_code 261) 105 = .ok (.iadd, 1) := by decide +kernel
theorem d261_106 : decode (m_code 261) 106 = .ok (.bipush (-5), 2) := by decide +kernel
theorem d261_108 : decode (m_code 261) 108 = .ok (.iastore, 1) := by decide +kernel
theorem d261_109 : decode (m_code 261) 109 = .ok (.aload_n 0, 1) := by decide +kernel
theorem d261_110 : decode (m_code 261) 110 = .ok (.getfield 7, 3) := by decide +kernel
theorem d261_113 : decode (m_code 261) 113 = .ok (.bipush 6, 2) := by decide +kernel
theorem d261_115 : decode (m_code 261) 115 = .ok (.dup2, 1) := by decide +kernel
theorem d261_116 : decode (m_code 261) 116 = .ok (.iaload, 1) := by decide +kernel
theorem d261_117 : decode (m_code 261) 117 = .ok (.iconst 1, 1) := by decide +kernel
theorem d261_118 : decode (m_code 261) 118 = .ok (.iadd, 1) := by decide +kernel
theorem d261_119 : decode (m_code 261) 119 = .ok (.iastore, 1) := by decide +kernel
theorem d261_120 : decode (m_code 261) 120 = .ok (.iconst 1, 1) := by decide +kernel
theorem d261_121 : decode (m_code 261) 121 = .ok (.ireturn, 1) := by decide +kernel
theorem upd_ne {f : Nat → Int32} {k i : Nat} {x : Int32} (h : i ≠ k) : upd f k x i = f i := if_neg h
theorem upd_eq {f : Nat → Int32} {k : Nat} {x : Int32} : upd f k x k = x := if_pos rfl
theorem stM_twice (R : Nat → Nat → Int32) (o : Nat) (f g : Nat → Int32) : stM (stM R o f) o g = stM R o g := by
  funext o' k
  unfold stM
  split <;> rfl
theorem wp_stS {X : mX} {j pc : Nat} {L : mL} {st : List Value} {h0 h : mH} {Q : Option Value → mH → Prop} {R : Nat → Nat → Int32} {σ : Nat → Int32} {k : Nat} {x : Int32} (hd : decode (m_code j) pc = .ok (.iastore, 1)) (hR : Ms h R σ) (hF : Frm h0 h 313 8) (hk : k < 4178)
    (K : ∀ h1, Ms h1 R (upd σ k x) → Frm h0 h1 313 8 → m_wp X j (pc + 1) L st h1 Q) : m_wp X j pc L (.int x :: .int (nI k) :: .ref 314 :: st) h Q := by
  refine wp_iast hd (md_1 hR) (nI_in hk (by decide)) ?_
  rw [nI_nat (by omega)]
  refine K _ ?_ (hF.trans (Frm.set (o := 1) (by decide)))
  have h2 := hR.setM (o := 1) (f := upd σ k x) (by decide) rfl
  rw [stM_twice] at h2
  exact h2
/-- a method of the reference that changes its state's row alone -/
abbrev Does (X : mX) (j : Nat) (as : List Value) (h : mH) (R : Nat → Nat → Int32) (σ : Nat → Int32) (v : Option Value) : Prop := m_wp X j 0 (m_entry j as) [] h (fun w h1 => w = v ∧ Ms h1 R σ ∧ Frm h h1 313 8)
section WPD
variable {X : mX} {j pc : Nat} {L : mL} {st rest : List Value} {h0 h : mH} {Q : Option Value → mH → Prop} {R : Nat → Nat → Int32} {σ : Nat → Int32}
theorem wp_invvD {idx e j2 a ci n : Nat} {fs : List Value} {asr as : List Value} {st0 : List Value} (hd : decode (m_code j) pc = .ok (.invokevirtual idx, 3)) (hf : m_findM (m_own j) idx = some (e, 2, j2)) (hn : m_np j2 = n) (ht : st0.take n = asr) (hdr : st0.drop n = .ref a :: rest) (has : asr.reverse = as)
    (hg : m_get h a = some (.inr (ci, fs))) (hc : (m_clsQ ci).1 = (m_y j2).cls ∧ ci < m_cls.length) (h1 : rest.length ≤ 8) (h2 : rest.all m_c1 = true) (h3 : as.all m_c1 = true) (h4 : as.length + 1 ≤ m_nl j2) (h5 : m_fr j2 + 1 ≤ m_fr j)
    (hC : Does X j2 (.ref a :: as) h R σ none) (hF : Frm h0 h 313 8) (K : ∀ h1, Ms h1 R σ → Frm h0 h1 313 8 → m_wp X j (pc + 3) L rest h1 Q) : m_wp X j pc L st0 h Q :=
  wp_invv hd hf hn ht hdr has hg hc h1 h2 h3 h4 h5 hC (fun v h1 hq => by rw [hq.1]; exact K h1 hq.2.1 (hF.trans hq.2.2))
theorem wp_invvDI {idx e j2 a ci n : Nat} {fs : List Value} {asr as : List Value} {st0 : List Value} {x : Int32} (hd : decode (m_code j) pc = .ok (.invokevirtual idx, 3)) (hf : m_findM (m_own j) idx = some (e, 2, j2)) (hn : m_np j2 = n) (ht : st0.take n = asr) (hdr : st0.drop n = .ref a :: rest) (has : asr.reverse = as)
    (hg : m_get h a = some (.inr (ci, fs))) (hc : (m_clsQ ci).1 = (m_y j2).cls ∧ ci < m_cls.length) (h1 : rest.length ≤ 8) (h2 : rest.all m_c1 = true) (h3 : as.all m_c1 = true) (h4 : as.length + 1 ≤ m_nl j2) (h5 : m_fr j2 + 1 ≤ m_fr j)
    (hC : Does X j2 (.ref a :: as) h R σ (some (.int x))) (hF : Frm h0 h 313 8) (K : ∀ h1, Ms h1 R σ → Frm h0 h1 313 8 → m_wp X j (pc + 3) L (.int x :: rest) h1 Q) : m_wp X j pc L st0 h Q :=
  wp_invv hd hf hn ht hdr has hg hc h1 h2 h3 h4 h5 hC (fun v h1 hq => by rw [hq.1]; exact K h1 hq.2.1 (hF.trans hq.2.2))
end WPD
abbrev G_set (σ : Nat → Int32) (g p : Nat) (v : Int32) : Nat → Int32 := upd σ (192 + 10 * g + p) v
abbrev G_turn (σ : Nat → Int32) (g : Nat) (k : Int32) : Nat → Int32 := G_set σ g 6 (σ (192 + 10 * g + 6) ^^^ (nI 1 <<< (k &&& 31)))
def G_put (σ : Nat → Int32) (g m : Nat) (room stay : Int32) : Nat → Int32 := G_set (upd (upd σ (232 + 24 * g + 2 * m) room) (232 + 24 * g + 2 * m + 1) stay) g 5 (nI (m + 1))
def F_al (σ : Nat → Int32) (n : Nat) (cause room : Int32) : Nat → Int32 :=
  if n = 40 then upd σ 7 (σ 7 + nI 1)
  else upd (upd (upd (upd (upd (upd σ (378 + 5 * n + 0) cause) (378 + 5 * n + 1) room) (378 + 5 * n + 2) (σ 0)) (378 + 5 * n + 3) (-5)) (378 + 5 * n + 4) (-5)) 6 (nI (n + 1))
theorem c_setGuard {X : mX} {h : mH} {R : Nat → Nat → Int32} {σ : Nat → Int32} (hR : Ms h R σ) {g p : Nat} (hg : g < 4) (hp : p < 10) (v : Int32) : Does X 230 [.ref 313, .int (nI g), .int (nI p), .int (v)] h (R) (G_set σ g p v) none := by
  have hF : Frm h h 313 8 := Frm.rf
  refine wp_aload_n d230_0 rfl ?_
  refine wp_getf (e := 7) (ci := 12) (k := 0) (nest := false) d230_1 (by decide +kernel) (md_0 hR) rfl ?_
  refine wp_sipush d230_4 (v := nI 192) (by decide) ?_
  refine wp_bipush d230_7 (v := nI 10) (by decide) ?_
  refine wp_iload_n d230_9 rfl ?_
  refine wp_imulv d230_10 (v := nI (10 * g)) (nI_mul _ _) ?_
  refine wp_iaddv d230_11 (v := nI (192 + 10 * g)) (nI_add _ _) ?_
  refine wp_iload_n d230_12 rfl ?_
  refine wp_iaddv d230_13 (v := nI (192 + 10 * g + p)) (nI_add _ _) ?_
  refine wp_iload_n d230_14 rfl ?_
  refine wp_stS d230_15 hR hF (k := 192 + 10 * g + p) (by omega) (fun h hR hF => ?_)
  refine wp_vret d230_16 (by decide +kernel) ?_
  exact ⟨rfl, hR, hF⟩
theorem c_turnKey {X : mX} {h : mH} {R : Nat → Nat → Int32} {σ : Nat → Int32} (hR : Ms h R σ) {g : Nat} (hg : g < 4) (k : Int32) : Does X 237 [.ref 313, .int (nI g), .int (k)] h (R) (G_turn σ g k) none := by
  have hF : Frm h h 313 8 := Frm.rf
  refine wp_aload_n d237_0 rfl ?_
  refine wp_iload_n d237_1 rfl ?_
  refine wp_bipush d237_2 (v := nI 6) (by decide) ?_
  refine wp_aload_n d237_4 rfl ?_
  refine wp_iload_n d237_5 rfl ?_
  refine wp_bipush d237_6 (v := nI 6) (by decide) ?_
  refine wp_invvT (e := 81) (j2 := 227) (n := 2) d237_8 (by decide +kernel) (by decide +kernel) rfl rfl rfl (md_0 hR) (by decide +kernel) (Nat.le_of_ble_eq_true rfl) rfl rfl (Nat.le_of_ble_eq_true rfl) (by decide +kernel) (c_guardPart hR (r := g) (p := 6) (by omega) (by omega)) ?_
  refine wp_iconst d237_11 (v := nI 1) (by decide) ?_
  refine wp_iload_n d237_12 rfl ?_
  refine wp_ishl d237_13 ?_
  refine wp_ixor d237_14 ?_
  refine wp_invvD (e := 87) (j2 := 230) (n := 3) d237_15 (by decide +kernel) (by decide +kernel) rfl rfl rfl (md_0 hR) (by decide +kernel) (Nat.le_of_ble_eq_true rfl) rfl rfl (Nat.le_of_ble_eq_true rfl) (by decide +kernel) (c_setGuard hR (g := g) (p := 6) (by omega) (by omega) (((σ (192 + 10 * g + 6)) ^^^ ((nI 1) <<< (k &&& 31))))) hF ?_
  intro h hR hF
  refine wp_vret d237_18 (by decide +kernel) ?_
  exact ⟨rfl, hR, hF⟩
theorem c_putOrder {X : mX} {h : mH} {R : Nat → Nat → Int32} {σ : Nat → Int32} (hR : Ms h R σ) {g m : Nat} (hg : g < 4) (hm : σ (192 + 10 * g + 5) = nI m) (hm12 : m < 12) (room stay : Int32) : Does X 241 [.ref 313, .int (nI g), .int (room), .int (stay)] h (R) (G_put σ g m room stay) none := by
  have hF : Frm h h 313 8 := Frm.rf
  refine wp_aload_n d241_0 rfl ?_
  refine wp_iload_n d241_1 rfl ?_
  refine wp_iconst d241_2 (v := nI 5) (by decide) ?_
  refine wp_invvT (e := 81) (j2 := 227) (n := 2) d241_3 (by decide +kernel) (by decide +kernel) rfl rfl rfl (md_0 hR) (by decide +kernel) (Nat.le_of_ble_eq_true rfl) rfl rfl (Nat.le_of_ble_eq_true rfl) (by decide +kernel) (tells_eq (c_guardPart hR (r := g) (p := 5) (by omega) (by omega)) hm) ?_
  refine wp_istore d241_6 (Nat.le_of_ble_eq_true rfl) rfl ?_
  refine wp_aload_n d241_8 rfl ?_
  refine wp_getf (e := 7) (ci := 12) (k := 0) (nest := false) d241_9 (by decide +kernel) (md_0 hR) rfl ?_
  refine wp_sipush d241_12 (v := nI 232) (by decide) ?_
  refine wp_bipush d241_15 (v := nI 24) (by decide) ?_
  refine wp_iload_n d241_17 rfl ?_
  refine wp_imulv d241_18 (v := nI (24 * g)) (nI_mul _ _) ?_
  refine wp_iaddv d241_19 (v := nI (232 + 24 * g)) (nI_add _ _) ?_
  refine wp_iconst d241_20 (v := nI 2) (by decide) ?_
  refine wp_iload d241_21 rfl ?_
  refine wp_imulv d241_23 (v := nI (2 * m)) (nI_mul _ _) ?_
  refine wp_iaddv d241_24 (v := nI (232 + 24 * g + 2 * m)) (nI_add _ _) ?_
  refine wp_iload_n d241_25 rfl ?_
  refine wp_stS d241_26 hR hF (k := 232 + 24 * g + 2 * m) (by omega) (fun h hR hF => ?_)
  refine wp_aload_n d241_27 rfl ?_
  refine wp_getf (e := 7) (ci := 12) (k := 0) (nest := false) d241_28 (by decide +kernel) (md_0 hR) rfl ?_
  refine wp_sipush d241_31 (v := nI 232) (by decide) ?_
  refine wp_bipush d241_34 (v := nI 24) (by decide) ?_
  refine wp_iload_n d241_36 rfl ?_
  refine wp_imulv d241_37 (v := nI (24 * g)) (nI_mul _ _) ?_
  refine wp_iaddv d241_38 (v := nI (232 + 24 * g)) (nI_add _ _) ?_
  refine wp_iconst d241_39 (v := nI 2) (by decide) ?_
  refine wp_iload d241_40 rfl ?_
  refine wp_imulv d241_42 (v := nI (2 * m)) (nI_mul _ _) ?_
  refine wp_iaddv d241_43 (v := nI (232 + 24 * g + 2 * m)) (nI_add _ _) ?_
  refine wp_iconst d241_44 (v := nI 1) (by decide) ?_
  refine wp_iaddv d241_45 (v := nI (232 + 24 * g + 2 * m + 1)) (nI_add _ _) ?_
  refine wp_iload_n d241_46 rfl ?_
  refine wp_stS d241_47 hR hF (k := 232 + 24 * g + 2 * m + 1) (by omega) (fun h hR hF => ?_)
  refine wp_aload_n d241_48 rfl ?_
  refine wp_iload_n d241_49 rfl ?_
  refine wp_iconst d241_50 (v := nI 5) (by decide) ?_
  refine wp_iload d241_51 rfl ?_
  refine wp_iconst d241_53 (v := nI 1) (by decide) ?_
  refine wp_iaddv d241_54 (v := nI (m + 1)) (nI_add _ _) ?_
  refine wp_invvD (e := 87) (j2 := 230) (n := 3) d241_55 (by decide +kernel) (by decide +kernel) rfl rfl rfl (md_0 hR) (by decide +kernel) (Nat.le_of_ble_eq_true rfl) rfl rfl (Nat.le_of_ble_eq_true rfl) (by decide +kernel) (c_setGuard hR (g := g) (p := 5) (by omega) (by omega) (nI (m + 1))) hF ?_
  intro h hR hF
  refine wp_vret d241_58 (by decide +kernel) ?_
  exact ⟨rfl, hR, hF⟩
theorem G_put_lo {σ : Nat → Int32} {g m i : Nat} {r s : Int32} (hg : g < 4) (hm : m < 12) (hi : i < 192) : G_put σ g m r s i = σ i := by
  unfold G_put G_set
  rw [upd_ne (by omega), upd_ne (by omega), upd_ne (by omega)]
theorem c_alarms {X : mX} {h : mH} {R : Nat → Nat → Int32} {σ : Nat → Int32} (hR : Ms h R σ) {nA : Nat} (hA : σ 6 = nI nA) (hA40 : nA ≤ 40) (cause room : Int32) : Does X 261 [.ref 313, .int (cause), .int (room)] h (R) (F_al σ nA cause room) (some (.int (nI 1))) := by
  have hF : Frm h h 313 8 := Frm.rf
  refine wp_aload_n d261_0 rfl ?_
  refine wp_getf (e := 7) (ci := 12) (k := 0) (nest := false) d261_1 (by decide +kernel) (md_0 hR) rfl ?_
  refine wp_bipush d261_4 (v := nI 6) (by decide) ?_
  refine wp_iald d261_6 (md_1 hR) (nI_in (by omega) (by decide)) (v := nI nA) ((congrArg σ (nI_nat (by omega))).trans hA) ?_
  refine wp_istore_n d261_7 (Nat.le_of_ble_eq_true rfl) rfl ?_
  refine wp_iload_n d261_8 rfl ?_
  refine wp_bipush d261_9 (v := nI 40) (by decide) ?_
  refine wp_icmp_ne d261_11 (tgt := 27) (by decide) (fun hc11 => ?_) (fun hc11 => ?_)
  · have hc11 : ¬ (nA = 40) := fun z => hc11 ((nI_eq (by omega) (by omega)).mpr z)
    refine wp_aload_n d261_27 rfl ?_
    refine wp_getf (e := 7) (ci := 12) (k := 0) (nest := false) d261_28 (by decide +kernel) (md_0 hR) rfl ?_
    refine wp_sipush d261_31 (v := nI 378) (by decide) ?_
    refine wp_iconst d261_34 (v := nI 5) (by decide) ?_
    refine wp_iload_n d261_35 rfl ?_
    refine wp_imulv d261_36 (v := nI (5 * nA)) (nI_mul _ _) ?_
    refine wp_iaddv d261_37 (v := nI (378 + 5 * nA)) (nI_add _ _) ?_
    refine wp_iconst d261_38 (v := nI 0) (by decide) ?_
    refine wp_iaddv d261_39 (v := nI (378 + 5 * nA + 0)) (nI_add _ _) ?_
    refine wp_iload_n d261_40 rfl ?_
    refine wp_stS d261_41 hR hF (k := 378 + 5 * nA + 0) (by omega) (fun h hR hF => ?_)
    refine wp_aload_n d261_42 rfl ?_
    refine wp_getf (e := 7) (ci := 12) (k := 0) (nest := false) d261_43 (by decide +kernel) (md_0 hR) rfl ?_
    refine wp_sipush d261_46 (v := nI 378) (by decide) ?_
    refine wp_iconst d261_49 (v := nI 5) (by decide) ?_
    refine wp_iload_n d261_50 rfl ?_
    refine wp_imulv d261_51 (v := nI (5 * nA)) (nI_mul _ _) ?_
    refine wp_iaddv d261_52 (v := nI (378 + 5 * nA)) (nI_add _ _) ?_
    refine wp_iconst d261_53 (v := nI 1) (by decide) ?_
    refine wp_iaddv d261_54 (v := nI (378 + 5 * nA + 1)) (nI_add _ _) ?_
    refine wp_iload_n d261_55 rfl ?_
    refine wp_stS d261_56 hR hF (k := 378 + 5 * nA + 1) (by omega) (fun h hR hF => ?_)
    refine wp_aload_n d261_57 rfl ?_
    refine wp_getf (e := 7) (ci := 12) (k := 0) (nest := false) d261_58 (by decide +kernel) (md_0 hR) rfl ?_
    refine wp_sipush d261_61 (v := nI 378) (by decide) ?_
    refine wp_iconst d261_64 (v := nI 5) (by decide) ?_
    refine wp_iload_n d261_65 rfl ?_
    refine wp_imulv d261_66 (v := nI (5 * nA)) (nI_mul _ _) ?_
    refine wp_iaddv d261_67 (v := nI (378 + 5 * nA)) (nI_add _ _) ?_
    refine wp_iconst d261_68 (v := nI 2) (by decide) ?_
    refine wp_iaddv d261_69 (v := nI (378 + 5 * nA + 2)) (nI_add _ _) ?_
    refine wp_aload_n d261_70 rfl ?_
    refine wp_getf (e := 7) (ci := 12) (k := 0) (nest := false) d261_71 (by decide +kernel) (md_0 hR) rfl ?_
    refine wp_iconst d261_74 (v := nI 0) (by decide) ?_
    refine wp_iald d261_75 (md_1 hR) (nI_in (by omega) (by decide)) (v := σ 0) ((congrArg ((upd (upd σ (378 + 5 * nA + 0) (cause)) (378 + 5 * nA + 1) (room))) (nI_nat (by omega))).trans ((upd_ne (by omega)).trans ((upd_ne (by omega)).trans rfl))) ?_
    refine wp_stS d261_76 hR hF (k := 378 + 5 * nA + 2) (by omega) (fun h hR hF => ?_)
    refine wp_aload_n d261_77 rfl ?_
    refine wp_getf (e := 7) (ci := 12) (k := 0) (nest := false) d261_78 (by decide +kernel) (md_0 hR) rfl ?_
    refine wp_sipush d261_81 (v := nI 378) (by decide) ?_
    refine wp_iconst d261_84 (v := nI 5) (by decide) ?_
    refine wp_iload_n d261_85 rfl ?_
    refine wp_imulv d261_86 (v := nI (5 * nA)) (nI_mul _ _) ?_
    refine wp_iaddv d261_87 (v := nI (378 + 5 * nA)) (nI_add _ _) ?_
    refine wp_iconst d261_88 (v := nI 3) (by decide) ?_
    refine wp_iaddv d261_89 (v := nI (378 + 5 * nA + 3)) (nI_add _ _) ?_
    refine wp_bipush d261_90 (v := (-5 : Int32)) (by decide) ?_
    refine wp_stS d261_92 hR hF (k := 378 + 5 * nA + 3) (by omega) (fun h hR hF => ?_)
    refine wp_aload_n d261_93 rfl ?_
    refine wp_getf (e := 7) (ci := 12) (k := 0) (nest := false) d261_94 (by decide +kernel) (md_0 hR) rfl ?_
    refine wp_sipush d261_97 (v := nI 378) (by decide) ?_
    refine wp_iconst d261_100 (v := nI 5) (by decide) ?_
    refine wp_iload_n d261_101 rfl ?_
    refine wp_imulv d261_102 (v := nI (5 * nA)) (nI_mul _ _) ?_
    refine wp_iaddv d261_103 (v := nI (378 + 5 * nA)) (nI_add _ _) ?_
    refine wp_iconst d261_104 (v := nI 4) (by decide) ?_
    refine wp_iaddv d261_105 (v := nI (378 + 5 * nA + 4)) (nI_add _ _) ?_
    refine wp_bipush d261_106 (v := (-5 : Int32)) (by decide) ?_
    refine wp_stS d261_108 hR hF (k := 378 + 5 * nA + 4) (by omega) (fun h hR hF => ?_)
    refine wp_aload_n d261_109 rfl ?_
    refine wp_getf (e := 7) (ci := 12) (k := 0) (nest := false) d261_110 (by decide +kernel) (md_0 hR) rfl ?_
    refine wp_bipush d261_113 (v := nI 6) (by decide) ?_
    refine wp_dup2 d261_115 rfl rfl ?_
    refine wp_iald d261_116 (md_1 hR) (nI_in (by omega) (by decide)) (v := nI nA) ((congrArg ((upd (upd (upd (upd (upd σ (378 + 5 * nA + 0) (cause)) (378 + 5 * nA + 1) (room)) (378 + 5 * nA + 2) (σ 0)) (378 + 5 * nA + 3) ((-5 : Int32))) (378 + 5 * nA + 4) ((-5 : Int32)))) (nI_nat (by omega))).trans ((upd_ne (by omega)).trans ((upd_ne (by omega)).trans ((upd_ne (by omega)).trans ((upd_ne (by omega)).trans ((upd_ne (by omega)).trans hA)))))) ?_
    refine wp_iconst d261_117 (v := nI 1) (by decide) ?_
    refine wp_iaddv d261_118 (v := nI (nA + 1)) (nI_add _ _) ?_
    refine wp_stS d261_119 hR hF (k := 6) (by omega) (fun h hR hF => ?_)
    refine wp_iconst d261_120 (v := nI 1) (by decide) ?_
    refine wp_iret d261_121 (by decide +kernel) ?_
    exact ⟨rfl, by unfold F_al; rw [if_neg hc11]; exact hR, hF⟩
  · have hc11 : nA = 40 := (nI_eq (by omega) (by omega)).mp hc11
    refine wp_aload_n d261_14 rfl ?_
    refine wp_getf (e := 7) (ci := 12) (k := 0) (nest := false) d261_15 (by decide +kernel) (md_0 hR) rfl ?_
    refine wp_bipush d261_18 (v := nI 7) (by decide) ?_
    refine wp_dup2 d261_20 rfl rfl ?_
    refine wp_iald d261_21 (md_1 hR) (nI_in (by omega) (by decide)) (v := σ 7) ((congrArg σ (nI_nat (by omega))).trans rfl) ?_
    refine wp_iconst d261_22 (v := nI 1) (by decide) ?_
    refine wp_iadd d261_23 ?_
    refine wp_stS d261_24 hR hF (k := 7) (by omega) (fun h hR hF => ?_)
    refine wp_iconst d261_25 (v := nI 1) (by decide) ?_
    refine wp_iret d261_26 (by decide +kernel) ?_
    exact ⟨rfl, by unfold F_al; rw [if_pos hc11]; exact hR, hF⟩
end
section
/-! The reference lets a guard set off. -/
theorem d257_0 : decode (m_code 257) 0 = .ok (.aload_n 0, 1) := by decide +kernel
theorem d257_1 : decode (m_code 257) 1 = .ok (.iload_n 1, 1) := by decide +kernel
theorem d257_2 : decode (m_code 257) 2 = .ok (.iconst 0, 1) := by decide +kernel
theorem d257_3 : decode (m_code 257) 3 = .ok (.invokevirtual 81, 3) := by decide +kernel
theorem d257_6 : decode (m_code 257) 6 = .ok (.istore_n 2, 1) := by decide +kernel
theorem d257_7 : decode (m_code 257) 7 = .ok (.aload_n 0, 1) := by decide +kernel
theorem d257_8 : decode (m_code 257) 8 = .ok (.getfield 7, 3) := by decide +kernel
theorem d257_11 : decode (m_code 257) 11 = .ok (.sipush 232, 3) := by decide +kernel
theorem d257_14 : decode (m_code 257) 14 = .ok (.bipush 24, 2) := by decide +kernel
theorem d257_16 : decode (m_code 257) 16 = .ok (.iload_n 1, 1) := by decide +kernel
theorem d257_17 : decode (m_code 257) 17 = .ok (.imul, 1) := by decide +kernel
theorem d257_18 : decode (m_code 257) 18 = .ok (.iadd, 1) := by decide +kernel
theorem d257_19 : decode (m_code 257) 19 = .ok (.iaload, 1) := by decide +kernel
theorem d257_20 : decode (m_code 257) 20 = .ok (.istore_n 3, 1) := by decide +kernel
theorem d257_21 : decode (m_code 257) 21 = .ok (.aload_n 0, 1) := by decide +kernel
theorem d257_22 : decode (m_code 257) 22 = .ok (.getfield 7, 3) := by decide +kernel
theorem d257_25 : decode (m_code 257) 25 = .ok (.sipush 232, 3) := by decide +kernel
theorem d257_28 : decode (m_code 257) 28 = .ok (.bipush 24, 2) := by decide +kernel
theorem d257_30 : decode (m_code 257) 30 = .ok (.iload_n 1, 1) := by decide +kernel
theorem d257_31 : decode (m_code 257) 31 = .ok (.imul, 1) := by decide +kernel
theorem d257_32 : decode (m_code 257) 32 = .ok (.iadd, 1) := by decide +kernel
theorem d257_33 : decode (m_code 257) 33 = .ok (.iconst 1, 1) := by decide +kernel
theorem d257_34 : decode (m_code 257) 34 = .ok (.iadd, 1) := by decide +kernel
theorem d257_35 : decode (m_code 257) 35 = .ok (.iaload, 1) := by decide +kernel
theorem d257_36 : decode (m_code 257) 36 = .ok (.istore 4, 2) := by decide +kernel
theorem d257_38 : decode (m_code 257) 38 = .ok (.aload_n 0, 1) := by decide +kernel
theorem d257_39 : decode (m_code 257) 39 = .ok (.iload_n 2, 1) := by decide +kernel
theorem d257_40 : decode (m_code 257) 40 = .ok (.iload_n 3, 1) := by decide +kernel
theorem d257_41 : decode (m_code 257) 41 = .ok (.invokevirtual 60, 3) := by decide +kernel
theorem d257_44 : decode (m_code 257) 44 = .ok (.istore 5, 2) := by decide +kernel
theorem d257_46 : decode (m_code 257) 46 = .ok (.iload 5, 2) := by decide +kernel
theorem d257_48 : decode (m_code 257) 48 = .ok (.bipush (-5), 2) := by decide +kernel
theorem d257_50 : decode (m_code 257) 50 = .ok (.if_icmp .eq 13, 3) := by decide +kernel
theorem d257_53 : decode (m_code 257) 53 = .ok (.aload_n 0, 1) := by decide +kernel
theorem d257_54 : decode (m_code 257) 54 = .ok (.iload_n 1, 1) := by decide +kernel
theorem d257_55 : decode (m_code 257) 55 = .ok (.iload 5, 2) := by decide +kernel
theorem d257_57 : decode (m_code 257) 57 = .ok (.invokevirtual 128, 3) := by decide +kernel
theorem d257_60 : decode (m_code 257) 60 = .ok (.ifCond .ne 27, 3) := by decide +kernel
theorem d257_63 : decode (m_code 257) 63 = .ok (.aload_n 0, 1) := by decide +kernel
theorem d257_64 : decode (m_code 257) 64 = .ok (.iload_n 1, 1) := by decide +kernel
theorem d257_65 : decode (m_code 257) 65 = .ok (.iconst 5, 1) := by decide +kernel
theorem d257_66 : decode (m_code 257) 66 = .ok (.iconst 0, 1) := by decide +kernel
theorem d257_67 : decode (m_code 257) 67 = .ok (.invokevirtual 87, 3) := by decide +kernel
theorem d257_70 : decode (m_code 257) 70 = .ok (.aload_n 0, 1) := by decide +kernel
theorem d257_71 : decode (m_code 257) 71 = .ok (.iload_n 1, 1) := by decide +kernel
theorem d257_72 : decode (m_code 257) 72 = .ok (.bipush 7, 2) := by decide +kernel
theorem d257_74 : decode (m_code 257) 74 = .ok (.aload_n 0, 1) := by decide +kernel
theorem d257_75 : decode (m_code 257) 75 = .ok (.iload_n 1, 1) := by decide +kernel
theorem d257_76 : decode (m_code 257) 76 = .ok (.bipush 7, 2) := by decide +kernel
theorem d257_78 : decode (m_code 257) 78 = .ok (.invokevirtual 81, 3) := by decide +kernel
theorem d257_81 : decode (m_code 257) 81 = .ok (.iconst 1, 1) := by decide +kernel
theorem d257_82 : decode (m_code 257) 82 = .ok (.iadd, 1) := by decide +kernel
theorem d257_83 : decode (m_code 257) 83 = .ok (.invokevirtual 87, 3) := by decide +kernel
theorem d257_86 : decode (m_code 257) 86 = .ok (.return_, 1) := by decide +kernel
theorem d257_87 : decode (m_code 257) 87 = .ok (.iconst 0, 1) := by decide +kernel
theorem d257_88 : decode (m_code 257) 88 = .ok (.istore 6, 2) := by decide +kernel
theorem d257_90 : decode (m_code 257) 90 = .ok (.iload 6, 2) := by decide +kernel
theorem d257_92 : decode (m_code 257) 92 = .ok (.bipush 22, 2) := by decide +kernel
theorem d257_94 : decode (m_code 257) 94 = .ok (.if_icmp .ge 43, 3) := by decide +kernel
theorem d257_97 : decode (m_code 257) 97 = .ok (.aload_n 0, 1) := by decide +kernel
theorem d257_98 : decode (m_code 257) 98 = .ok (.getfield 7, 3) := by decide +kernel
theorem d257_101 : decode (m_code 257) 101 = .ok (.sipush 232, 3) := by decide +kernel
theorem d257_104 : decode (m_code 257) 104 = .ok (.bipush 24, 2) := by decide +kernel
theorem d257_106 : decode (m_code 257) 106 = .ok (.iload_n 1, 1) := by decide +kernel
theorem d257_107 : decode (m_code 257) 107 = .ok (.imul, 1) := by decide +kernel
theorem d257_108 : decode (m_code 257) 108 = .ok (.iadd, 1) := by decide +kernel
theorem d257_109 : decode (m_code 257) 109 = .ok (.iload 6, 2) := by decide +kernel
theorem d257_111 : decode (m_code 257) 111 = .ok (.iadd, 1) := by decide +kernel
theorem d257_112 : decode (m_code 257) 112 = .ok (.aload_n 0, 1) := by decide +kernel
theorem d257_113 : decode (m_code 257) 113 = .ok (.getfield 7, 3) := by decide +kernel
theorem d257_116 : decode (m_code 257) 116 = .ok (.sipush 232, 3) := by decide +kernel
theorem d257_119 : decode (m_code 257) 119 = .ok (.bipush 24, 2) := by decide +kernel
theorem d257_121 : decode (m_code 257) 121 = .ok (.iload_n 1, 1) := by decide +kernel
theorem d257_122 : decode (m_code 257) 122 = .ok (.imul, 1) := by decide +kernel
theorem d257_123 : decode (m_code 257) 123 = .ok (.iadd, 1) := by decide +kernel
theorem d257_124 : decode (m_code 257) 124 = .ok (.iload 6, 2) := by decide +kernel
theorem d257_126 : decode (m_code 257) 126 = .ok (.iadd, 1) := by decide +kernel
theorem d257_127 : decode (m_code 257) 127 = .ok (.iconst 2, 1) := by decide +kernel
theorem d257_128 : decode (m_code 257) 128 = .ok (.iadd, 1) := by decide +kernel
theorem d257_129 : decode (m_code 257) 129 = .ok (.iaload, 1) := by decide +kernel
theorem d257_130 : decode (m_code 257) 130 = .ok (.iastore, 1) := by decide +kernel
theorem d257_131 : decode (m_code 257) 131 = .ok (.iinc 6 1, 3) := by decide +kernel
theorem d257_134 : decode (m_code 257) 134 = .ok (.goto (-44), 3) := by decide +kernel
theorem d257_137 : decode (m_code 257) 137 = .ok (.aload_n 0, 1) := by decide +kernel
theorem d257_138 : decode (m_code 257) 138 = .ok (.iload_n 1, 1) := by decide +kernel
theorem d257_139 : decode (m_code 257) 139 = .ok (.iconst 5, 1) := by decide +kernel
theorem d257_140 : decode (m_code 257) 140 = .ok (.aload_n 0, 1) := by decide +kernel
theorem d257_141 : decode (m_code 257) 141 = .ok (.iload_n 1, 1) := by decide +kernel
theorem d257_142 : decode (m_code 257) 142 = .ok (.iconst 5, 1) := by decide +kernel
theorem d257_143 : decode (m_code 257) 143 = .ok (.invokevirtual 81, 3) := by decide +kernel
theorem d257_146 : decode (m_code 257) 146 = .ok (.iconst 1, 1) := by decide +kernel
theorem d257_147 : decode (m_code 257) 147 = .ok (.isub, 1) := by decide +kernel
theorem d257_148 : decode (m_code 257) 148 = .ok (.invokevirtual 87, 3) := by decide +kernel
theorem d257_151 : decode (m_code 257) 151 = .ok (.aload_n 0, 1) := by decide +kernel
theorem d257_152 : decode (m_code 257) 152 = .ok (.getfield 7, 3) := by decide +kernel
theorem d257_155 : decode (m_code 257) 155 = .ok (.sipush 1298, 3) := by decide +kernel
theorem d257_158 : decode (m_code 257) 158 = .ok (.iconst 4, 1) := by decide +kernel
theorem d257_159 : decode (m_code 257) 159 = .ok (.aload_n 0, 1) := by decide +kernel
theorem d257_160 : decode (m_code 257) 160 = .ok (.getfield 7, 3) := by decide +kernel
theorem d257_163 : decode (m_code 257) 163 = .ok (.iconst 0, 1) := by decide +kernel
theorem d257_164 : decode (m_code 257) 164 = .ok (.iaload, 1) := by decide +kernel
theorem d257_165 : decode (m_code 257) 165 = .ok (.imul, 1) := by decide +kernel
theorem d257_166 : decode (m_code 257) 166 = .ok (.iadd, 1) := by decide +kernel
theorem d257_167 : decode (m_code 257) 167 = .ok (.iload_n 1, 1) := by decide +kernel
theorem d257_168 : decode (m_code 257) 168 = .ok (.iadd, 1) := by decide +kernel
theorem d257_169 : decode (m_code 257) 169 = .ok (.sipush 1000, 3) := by decide +kernel
theorem d257_172 : decode (m_code 257) 172 = .ok (.iload_n 2, 1) := by decide +kernel
theorem d257_173 : decode (m_code 257) 173 = .ok (.imul, 1) := by decide +kernel
theorem d257_174 : decode (m_code 257) 174 = .ok (.aload_n 0, 1) := by decide +kernel
theorem d257_175 : decode (m_code 257) 175 = .ok (.iload_n 1, 1) := by decide +kernel
theorem d257_176 : decode (m_code 257) 176 = .ok (.bipush 9, 2) := by decide +kernel
theorem d257_178 : decode (m_code 257) 178 = .ok (.invokevirtual 81, 3) := by decide +kernel
theorem d257_181 : decode (m_code 257) 181 = .ok (.iadd, 1) := by decide +kernel
theorem d257_182 : decode (m_code 257) 182 = .ok (.iconst 1, 1) := by decide +kernel
theorem d257_183 : decode (m_code 257) 183 = .ok (.iadd, 1) := by decide +kernel
theorem d257_184 : decode (m_code 257) 184 = .ok (.iastore, 1) := by decide +kernel
theorem d257_185 : decode (m_code 257) 185 = .ok (.aload_n 0, 1) := by decide +kernel
theorem d257_186 : decode (m_code 257) 186 = .ok (.iload_n 1, 1) := by decide +kernel
theorem d257_187 : decode (m_code 257) 187 = .ok (.iconst 0, 1) := by decide +kernel
theorem d257_188 : decode (m_code 257) 188 = .ok (.bipush (-5), 2) := by decide +kernel
theorem d257_190 : decode (m_code 257) 190 = .ok (.invokevirtual 87, 3) := by decide +kernel
theorem d257_193 : decode (m_code 257) 193 = .ok (.aload_n 0, 1) := by decide +kernel
theorem d257_194 : decode (m_code 257) 194 = .ok (.iload_n 1, 1) := by decide +kernel
theorem d257_195 : decode (m_code 257) 195 = .ok (.iconst 1, 1) := by decide +kernel
theorem d257_196 : decode (m_code 257) 196 = .ok (.iload_n 3, 1) := by decide +kernel
theorem d257_197 : decode (m_code 257) 197 = .ok (.invokevirtual 87, 3) := by decide +kernel
theorem d257_200 : decode (m_code 257) 200 = .ok (.aload_n 0, 1) := by decide +kernel
theorem d257_201 : decode (m_code 257) 201 = .ok (.iload_n 1, 1) := by decide +kernel
theorem d257_202 : decode (m_code 257) 202 = .ok (.iconst 2, 1) := by decide +kernel
theorem d257_203 : decode (m_code 257) 203 = .ok (.aload_n 0, 1) := by decide +kernel
theorem d257_204 : decode (m_code 257) 204 = .ok (.iload 5, 2) := by decide +kernel
theorem d257_206 : decode (m_code 257) 206 = .ok (.iconst 2, 1) := by decide +kernel
theorem d257_207 : decode (m_code 257) 207 = .ok (.invokevirtual 53, 3) := by decide +kernel
theorem d257_210 : decode (m_code 257) 210 = .ok (.invokevirtual 87, 3) := by decide +kernel
theorem d257_213 : decode (m_code 257) 213 = .ok (.aload_n 0, 1) := by decide +kernel
theorem d257_214 : decode (m_code 257) 214 = .ok (.iload_n 1, 1) := by decide +kernel
theorem d257_215 : decode (m_code 257) 215 = .ok (.iconst 4, 1) := by decide +kernel
theorem d257_216 : decode (m_code 257) 216 = .ok (.iload 4, 2) := by decide +kernel
theorem d257_218 : decode (m_code 257) 218 = .ok (.invokevirtual 87, 3) := by decide +kernel
theorem d257_221 : decode (m_code 257) 221 = .ok (.aload_n 0, 1) := by decide +kernel
theorem d257_222 : decode (m_code 257) 222 = .ok (.getfield 7, 3) := by decide +kernel
theorem d257_225 : decode (m_code 257) 225 = .ok (.bipush 92, 2) := by decide +kernel
theorem d257_227 : decode (m_code 257) 227 = .ok (.iconst 5, 1) := by decide +kernel
theorem d257_228 : decode (m_code 257) 228 = .ok (.iload 5, 2) := by decide +kernel
theorem d257_230 : decode (m_code 257) 230 = .ok (.imul, 1) := by decide +kernel
theorem d257_231 : decode (m_code 257) 231 = .ok (.iadd, 1) := by decide +kernel
theorem d257_232 : decode (m_code 257) 232 = .ok (.iconst 4, 1) := by decide +kernel
theorem d257_233 : decode (m_code 257) 233 = .ok (.iadd, 1) := by decide +kernel
theorem d257_234 : decode (m_code 257) 234 = .ok (.dup2, 1) := by decide +kernel
theorem d257_235 : decode (m_code 257) 235 = .ok (.iaload, 1) := by decide +kernel
theorem d257_236 : decode (m_code 257) 236 = .ok (.iconst 1, 1) := by decide +kernel
theorem d257_237 : decode (m_code 257) 237 = .ok (.iadd, 1) := by decide +kernel
theorem d257_238 : decode (m_code 257) 238 = .ok (.iastore, 1) := by decide +kernel
theorem d257_239 : decode (m_code 257) 239 = .ok (.return_, 1) := by decide +kernel
theorem F_db_cases (f : Nat → Int32) (x y : Int32) (n : Nat) : F_db f x y n = -5 ∨ ∃ d, d < n ∧ F_db f x y n = nI d := by
  induction n with
  | zero => exact Or.inl rfl
  | succ n ih =>
    unfold F_db
    split
    · exact Or.inr ⟨n, Nat.lt_succ_self n, rfl⟩
    · rcases ih with h | ⟨d, h1, h2⟩
      · exact Or.inl h
      · exact Or.inr ⟨d, Nat.lt_succ_of_lt h1, h2⟩
/-- the orders of a guard, k numbers moved down by two -/
def F_sh (σ : Nat → Int32) (g : Nat) : Nat → (Nat → Int32)
  | 0 => σ
  | k + 1 => upd (F_sh σ g k) (232 + 24 * g + k) (F_sh σ g k (232 + 24 * g + k + 2))
theorem F_sh_at (σ : Nat → Int32) (g k i : Nat) : F_sh σ g k i = if 232 + 24 * g ≤ i ∧ i < 232 + 24 * g + k then σ (i + 2) else σ i := by
  induction k generalizing i with
  | zero => rw [if_neg (by omega)]; rfl
  | succ k ih =>
    unfold F_sh upd
    split
    next h => subst h; rw [ih, if_neg (by omega), if_pos (by omega)]
    next h =>
      rw [ih]
      split
      next h2 => rw [if_pos (by omega)]
      next h2 => rw [if_neg (by omega)]
theorem F_sh_lo {σ : Nat → Int32} {g k i : Nat} (h : i < 232 + 24 * g ∨ 232 + 24 * g + k ≤ i) : F_sh σ g k i = σ i := by rw [F_sh_at, if_neg (by omega)]
abbrev G_halt (σ : Nat → Int32) (g : Nat) : Nat → Int32 := G_set (G_set σ g 5 (nI 0)) g 7 (σ (192 + 10 * g + 7) + nI 1)
/-- a guard sets off from the room r through the door d -/
def G_go (σ : Nat → Int32) (g d r m sn mi : Nat) (room stay : Int32) : Nat → Int32 :=
  upd (G_set (G_set (G_set (G_set (upd (G_set (F_sh σ g 22) g 5 (nI (m - 1))) (1298 + 4 * mi + g) (nI (1000 * r + sn + 1))) g 0 (-5)) g 1 room) g 2 (σ (92 + 5 * d + 2))) g 4 stay) (92 + 5 * d + 4) (σ (92 + 5 * d + 4) + nI 1)
abbrev F_may (σ : Nat → Int32) (g d : Nat) : Prop := σ (92 + 5 * d + 3) < 0 ∨ F_bit (σ (192 + 10 * g + 6)) (σ (92 + 5 * d + 3))
def F_so (σ : Nat → Int32) (g nD r m sn mi : Nat) : Nat → Int32 :=
  if F_db σ (nI r) (σ (232 + 24 * g)) nD = -5 ∨ ¬ F_may σ g (F_db σ (nI r) (σ (232 + 24 * g)) nD).toNatClampNeg then G_halt σ g
  else G_go σ g (F_db σ (nI r) (σ (232 + 24 * g)) nD).toNatClampNeg r m sn mi (σ (232 + 24 * g)) (σ (232 + 24 * g + 1))
theorem c_setsOff_l {X : mX}  {h0 : mH} {R : Nat → Nat → Int32} {σ : Nat → Int32} {g : Nat} (hg : g < 4) {l2 l3 l4 l5 : Option Value} {Q : Option Value → mH → Prop} : ∀ (d : Nat) (k : Nat) (h : mH), 22 - k = d → k ≤ 22 → Ms h R (F_sh σ g k) → Frm h0 h 313 8 → (∀ h1, Ms h1 R (F_sh σ g 22) → Frm h0 h1 313 8 → ∀ v, m_wp X 257 137 [some (.ref 313), some (.int (nI g)), l2, l3, l4, l5, some (.int v)] [] h1 Q) → m_wp X 257 90 [some (.ref 313), some (.int (nI g)), l2, l3, l4, l5, some (.int (nI k))] [] h Q := by
  intro d
  induction d using Nat.strongRecOn with
  | ind d ih =>
    intro k h hd hk hR hF K
    refine wp_iload d257_90 rfl ?_
    refine wp_bipush d257_92 (v := nI 22) (by decide) ?_
    refine wp_icmp_ge d257_94 (tgt := 137) (by decide) (fun hc94 => ?_) (fun hc94 => ?_)
    · have hc94 : 22 ≤ k := (nI_leI (by omega) (by omega)).mp hc94
      rw [show k = 22 by omega] at hR
      exact K h hR hF _
    · have hc94 : ¬ (22 ≤ k) := fun z => hc94 ((nI_leI (by omega) (by omega)).mpr z)
      refine wp_aload_n d257_97 rfl ?_
      refine wp_getf (e := 7) (ci := 12) (k := 0) (nest := false) d257_98 (by decide +kernel) (md_0 hR) rfl ?_
      refine wp_sipush d257_101 (v := nI 232) (by decide) ?_
      refine wp_bipush d257_104 (v := nI 24) (by decide) ?_
      refine wp_iload_n d257_106 rfl ?_
      refine wp_imulv d257_107 (v := nI (24 * g)) (nI_mul _ _) ?_
      refine wp_iaddv d257_108 (v := nI (232 + 24 * g)) (nI_add _ _) ?_
      refine wp_iload d257_109 rfl ?_
      refine wp_iaddv d257_111 (v := nI (232 + 24 * g + k)) (nI_add _ _) ?_
      refine wp_aload_n d257_112 rfl ?_
      refine wp_getf (e := 7) (ci := 12) (k := 0) (nest := false) d257_113 (by decide +kernel) (md_0 hR) rfl ?_
      refine wp_sipush d257_116 (v := nI 232) (by decide) ?_
      refine wp_bipush d257_119 (v := nI 24) (by decide) ?_
      refine wp_iload_n d257_121 rfl ?_
      refine wp_imulv d257_122 (v := nI (24 * g)) (nI_mul _ _) ?_
      refine wp_iaddv d257_123 (v := nI (232 + 24 * g)) (nI_add _ _) ?_
      refine wp_iload d257_124 rfl ?_
      refine wp_iaddv d257_126 (v := nI (232 + 24 * g + k)) (nI_add _ _) ?_
      refine wp_iconst d257_127 (v := nI 2) (by decide) ?_
      refine wp_iaddv d257_128 (v := nI (232 + 24 * g + k + 2)) (nI_add _ _) ?_
      refine wp_iald d257_129 (md_1 hR) (nI_in (by omega) (by decide)) (v := ((F_sh σ g k)) (232 + 24 * g + k + 2)) ((congrArg ((F_sh σ g k)) (nI_nat (by omega))).trans rfl) ?_
      refine wp_stS d257_130 hR hF (k := 232 + 24 * g + k) (by omega) (fun h hR hF => ?_)
      refine wp_iinc d257_131 rfl (v := nI (k + 1)) (nI_add _ 1) (Nat.le_of_ble_eq_true rfl) rfl ?_
      refine wp_goto d257_134 (tgt := 90) (by decide) ?_
      exact ih (22 - (k + 1)) (by omega) (k + 1) h rfl (by omega) hR hF K
theorem c_setsOff {X : mX} {h : mH} {R : Nat → Nat → Int32} {σ : Nat → Int32} (hR : Ms h R σ) {g r m sn mi : Nat} (hg : g < 4) (ha : σ (192 + 10 * g + 0) = nI r) (hr : r < 12) (hm : σ (192 + 10 * g + 5) = nI m) (hm0 : 0 < m) (hm12 : m ≤ 12) (hs : σ (192 + 10 * g + 9) = nI sn) (hsn : sn < 1000) (hmi : σ 0 = nI mi) (hmi2 : mi < 720) {nD : Nat} (hn : σ 3 = nI nD) (hD : nD ≤ 20) : Does X 257 [.ref 313, .int (nI g)] h (R) (F_so σ g nD r m sn mi) none := by
  have hF : Frm h h 313 8 := Frm.rf
  refine wp_aload_n d257_0 rfl ?_
  refine wp_iload_n d257_1 rfl ?_
  refine wp_iconst d257_2 (v := nI 0) (by decide) ?_
  refine wp_invvT (e := 81) (j2 := 227) (n := 2) d257_3 (by decide +kernel) (by decide +kernel) rfl rfl rfl (md_0 hR) (by decide +kernel) (Nat.le_of_ble_eq_true rfl) rfl rfl (Nat.le_of_ble_eq_true rfl) (by decide +kernel) (tells_eq (c_guardPart hR (r := g) (p := 0) (by omega) (by omega)) ha) ?_
  refine wp_istore_n d257_6 (Nat.le_of_ble_eq_true rfl) rfl ?_
  refine wp_aload_n d257_7 rfl ?_
  refine wp_getf (e := 7) (ci := 12) (k := 0) (nest := false) d257_8 (by decide +kernel) (md_0 hR) rfl ?_
  refine wp_sipush d257_11 (v := nI 232) (by decide) ?_
  refine wp_bipush d257_14 (v := nI 24) (by decide) ?_
  refine wp_iload_n d257_16 rfl ?_
  refine wp_imulv d257_17 (v := nI (24 * g)) (nI_mul _ _) ?_
  refine wp_iaddv d257_18 (v := nI (232 + 24 * g)) (nI_add _ _) ?_
  refine wp_iald d257_19 (md_1 hR) (nI_in (by omega) (by decide)) (v := σ (232 + 24 * g)) ((congrArg σ (nI_nat (by omega))).trans rfl) ?_
  refine wp_istore_n d257_20 (Nat.le_of_ble_eq_true rfl) rfl ?_
  refine wp_aload_n d257_21 rfl ?_
  refine wp_getf (e := 7) (ci := 12) (k := 0) (nest := false) d257_22 (by decide +kernel) (md_0 hR) rfl ?_
  refine wp_sipush d257_25 (v := nI 232) (by decide) ?_
  refine wp_bipush d257_28 (v := nI 24) (by decide) ?_
  refine wp_iload_n d257_30 rfl ?_
  refine wp_imulv d257_31 (v := nI (24 * g)) (nI_mul _ _) ?_
  refine wp_iaddv d257_32 (v := nI (232 + 24 * g)) (nI_add _ _) ?_
  refine wp_iconst d257_33 (v := nI 1) (by decide) ?_
  refine wp_iaddv d257_34 (v := nI (232 + 24 * g + 1)) (nI_add _ _) ?_
  refine wp_iald d257_35 (md_1 hR) (nI_in (by omega) (by decide)) (v := σ (232 + 24 * g + 1)) ((congrArg σ (nI_nat (by omega))).trans rfl) ?_
  refine wp_istore d257_36 (Nat.le_of_ble_eq_true rfl) rfl ?_
  refine wp_aload_n d257_38 rfl ?_
  refine wp_iload_n d257_39 rfl ?_
  refine wp_iload_n d257_40 rfl ?_
  refine wp_invvT (e := 60) (j2 := 216) (n := 2) d257_41 (by decide +kernel) (by decide +kernel) rfl rfl rfl (md_0 hR) (by decide +kernel) (Nat.le_of_ble_eq_true rfl) rfl rfl (Nat.le_of_ble_eq_true rfl) (by decide +kernel) (c_doorBetween hR hn hD (nI r) (σ (232 + 24 * g))) ?_
  refine wp_istore d257_44 (Nat.le_of_ble_eq_true rfl) rfl ?_
  refine wp_iload d257_46 rfl ?_
  refine wp_bipush d257_48 (v := (-5 : Int32)) (by decide) ?_
  refine wp_icmp_eq d257_50 (tgt := 63) (by decide) (fun hc50 => ?_) (fun hc50 => ?_)
  · refine wp_aload_n d257_63 rfl ?_
    refine wp_iload_n d257_64 rfl ?_
    refine wp_iconst d257_65 (v := nI 5) (by decide) ?_
    refine wp_iconst d257_66 (v := nI 0) (by decide) ?_
    refine wp_invvD (e := 87) (j2 := 230) (n := 3) d257_67 (by decide +kernel) (by decide +kernel) rfl rfl rfl (md_0 hR) (by decide +kernel) (Nat.le_of_ble_eq_true rfl) rfl rfl (Nat.le_of_ble_eq_true rfl) (by decide +kernel) (c_setGuard hR (g := g) (p := 5) (by omega) (by omega) (nI 0)) hF ?_
    intro h hR hF
    refine wp_aload_n d257_70 rfl ?_
    refine wp_iload_n d257_71 rfl ?_
    refine wp_bipush d257_72 (v := nI 7) (by decide) ?_
    refine wp_aload_n d257_74 rfl ?_
    refine wp_iload_n d257_75 rfl ?_
    refine wp_bipush d257_76 (v := nI 7) (by decide) ?_
    refine wp_invvT (e := 81) (j2 := 227) (n := 2) d257_78 (by decide +kernel) (by decide +kernel) rfl rfl rfl (md_0 hR) (by decide +kernel) (Nat.le_of_ble_eq_true rfl) rfl rfl (Nat.le_of_ble_eq_true rfl) (by decide +kernel) (tells_eq (c_guardPart hR (r := g) (p := 7) (by omega) (by omega)) ((upd_ne (by omega)).trans rfl)) ?_
    refine wp_iconst d257_81 (v := nI 1) (by decide) ?_
    refine wp_iadd d257_82 ?_
    refine wp_invvD (e := 87) (j2 := 230) (n := 3) d257_83 (by decide +kernel) (by decide +kernel) rfl rfl rfl (md_0 hR) (by decide +kernel) (Nat.le_of_ble_eq_true rfl) rfl rfl (Nat.le_of_ble_eq_true rfl) (by decide +kernel) (c_setGuard hR (g := g) (p := 7) (by omega) (by omega) (((σ (192 + 10 * g + 7)) + (nI 1)))) hF ?_
    intro h hR hF
    refine wp_vret d257_86 (by decide +kernel) ?_
    refine ⟨rfl, ?_, hF⟩
    unfold F_so
    rw [if_pos (Or.inl hc50)]
    exact hR
  · obtain ⟨dd, hdd, hde⟩ := (F_db_cases _ _ _ _).resolve_left hc50
    rw [hde] at hc50 ⊢
    refine wp_aload_n d257_53 rfl ?_
    refine wp_iload_n d257_54 rfl ?_
    refine wp_iload d257_55 rfl ?_
    refine wp_invvT (e := 128) (j2 := 258) (n := 2) d257_57 (by decide +kernel) (by decide +kernel) rfl rfl rfl (md_0 hR) (by decide +kernel) (Nat.le_of_ble_eq_true rfl) rfl rfl (Nat.le_of_ble_eq_true rfl) (by decide +kernel) (c_mayPass hR (g := g) (d := dd) (by omega) (by omega)) ?_
    refine wp_ifb_ne d257_60 (tgt := 87) (by decide) (fun hc60 => ?_) (fun hc60 => ?_)
    · refine wp_iconst d257_87 (v := nI 0) (by decide) ?_
      refine wp_istore d257_88 (Nat.le_of_ble_eq_true rfl) rfl ?_
      refine c_setsOff_l (σ := σ) hg _ 0 h rfl (by omega) hR hF ?_
      intro h hR hF v6
      refine wp_aload_n d257_137 rfl ?_
      refine wp_iload_n d257_138 rfl ?_
      refine wp_iconst d257_139 (v := nI 5) (by decide) ?_
      refine wp_aload_n d257_140 rfl ?_
      refine wp_iload_n d257_141 rfl ?_
      refine wp_iconst d257_142 (v := nI 5) (by decide) ?_
      refine wp_invvT (e := 81) (j2 := 227) (n := 2) d257_143 (by decide +kernel) (by decide +kernel) rfl rfl rfl (md_0 hR) (by decide +kernel) (Nat.le_of_ble_eq_true rfl) rfl rfl (Nat.le_of_ble_eq_true rfl) (by decide +kernel) (tells_eq (c_guardPart hR (r := g) (p := 5) (by omega) (by omega)) ((F_sh_lo (by omega)).trans hm)) ?_
      refine wp_iconst d257_146 (v := nI 1) (by decide) ?_
      refine wp_isubv d257_147 (v := nI (m - 1)) (nI_sub (by omega) (by omega)) ?_
      refine wp_invvD (e := 87) (j2 := 230) (n := 3) d257_148 (by decide +kernel) (by decide +kernel) rfl rfl rfl (md_0 hR) (by decide +kernel) (Nat.le_of_ble_eq_true rfl) rfl rfl (Nat.le_of_ble_eq_true rfl) (by decide +kernel) (c_setGuard hR (g := g) (p := 5) (by omega) (by omega) (nI (m - 1))) hF ?_
      intro h hR hF
      refine wp_aload_n d257_151 rfl ?_
      refine wp_getf (e := 7) (ci := 12) (k := 0) (nest := false) d257_152 (by decide +kernel) (md_0 hR) rfl ?_
      refine wp_sipush d257_155 (v := nI 1298) (by decide) ?_
      refine wp_iconst d257_158 (v := nI 4) (by decide) ?_
      refine wp_aload_n d257_159 rfl ?_
      refine wp_getf (e := 7) (ci := 12) (k := 0) (nest := false) d257_160 (by decide +kernel) (md_0 hR) rfl ?_
      refine wp_iconst d257_163 (v := nI 0) (by decide) ?_
      refine wp_iald d257_164 (md_1 hR) (nI_in (by omega) (by decide)) (v := nI mi) ((congrArg ((G_set (F_sh σ g 22) g 5 (nI (m - 1)))) (nI_nat (by omega))).trans ((upd_ne (by omega)).trans ((F_sh_lo (by omega)).trans hmi))) ?_
      refine wp_imulv d257_165 (v := nI (4 * mi)) (nI_mul _ _) ?_
      refine wp_iaddv d257_166 (v := nI (1298 + 4 * mi)) (nI_add _ _) ?_
      refine wp_iload_n d257_167 rfl ?_
      refine wp_iaddv d257_168 (v := nI (1298 + 4 * mi + g)) (nI_add _ _) ?_
      refine wp_sipush d257_169 (v := nI 1000) (by decide) ?_
      refine wp_iload_n d257_172 rfl ?_
      refine wp_imulv d257_173 (v := nI (1000 * r)) (nI_mul _ _) ?_
      refine wp_aload_n d257_174 rfl ?_
      refine wp_iload_n d257_175 rfl ?_
      refine wp_bipush d257_176 (v := nI 9) (by decide) ?_
      refine wp_invvT (e := 81) (j2 := 227) (n := 2) d257_178 (by decide +kernel) (by decide +kernel) rfl rfl rfl (md_0 hR) (by decide +kernel) (Nat.le_of_ble_eq_true rfl) rfl rfl (Nat.le_of_ble_eq_true rfl) (by decide +kernel) (tells_eq (c_guardPart hR (r := g) (p := 9) (by omega) (by omega)) ((upd_ne (by omega)).trans ((F_sh_lo (by omega)).trans hs))) ?_
      refine wp_iaddv d257_181 (v := nI (1000 * r + sn)) (nI_add _ _) ?_
      refine wp_iconst d257_182 (v := nI 1) (by decide) ?_
      refine wp_iaddv d257_183 (v := nI (1000 * r + sn + 1)) (nI_add _ _) ?_
      refine wp_stS d257_184 hR hF (k := 1298 + 4 * mi + g) (by omega) (fun h hR hF => ?_)
      refine wp_aload_n d257_185 rfl ?_
      refine wp_iload_n d257_186 rfl ?_
      refine wp_iconst d257_187 (v := nI 0) (by decide) ?_
      refine wp_bipush d257_188 (v := (-5 : Int32)) (by decide) ?_
      refine wp_invvD (e := 87) (j2 := 230) (n := 3) d257_190 (by decide +kernel) (by decide +kernel) rfl rfl rfl (md_0 hR) (by decide +kernel) (Nat.le_of_ble_eq_true rfl) rfl rfl (Nat.le_of_ble_eq_true rfl) (by decide +kernel) (c_setGuard hR (g := g) (p := 0) (by omega) (by omega) ((-5 : Int32))) hF ?_
      intro h hR hF
      refine wp_aload_n d257_193 rfl ?_
      refine wp_iload_n d257_194 rfl ?_
      refine wp_iconst d257_195 (v := nI 1) (by decide) ?_
      refine wp_iload_n d257_196 rfl ?_
      refine wp_invvD (e := 87) (j2 := 230) (n := 3) d257_197 (by decide +kernel) (by decide +kernel) rfl rfl rfl (md_0 hR) (by decide +kernel) (Nat.le_of_ble_eq_true rfl) rfl rfl (Nat.le_of_ble_eq_true rfl) (by decide +kernel) (c_setGuard hR (g := g) (p := 1) (by omega) (by omega) (σ (232 + 24 * g))) hF ?_
      intro h hR hF
      refine wp_aload_n d257_200 rfl ?_
      refine wp_iload_n d257_201 rfl ?_
      refine wp_iconst d257_202 (v := nI 2) (by decide) ?_
      refine wp_aload_n d257_203 rfl ?_
      refine wp_iload d257_204 rfl ?_
      refine wp_iconst d257_206 (v := nI 2) (by decide) ?_
      refine wp_invvT (e := 53) (j2 := 217) (n := 2) d257_207 (by decide +kernel) (by decide +kernel) rfl rfl rfl (md_0 hR) (by decide +kernel) (Nat.le_of_ble_eq_true rfl) rfl rfl (Nat.le_of_ble_eq_true rfl) (by decide +kernel) (tells_eq (c_doorPart hR (r := dd) (p := 2) (by omega) (by omega)) ((upd_ne (by omega)).trans ((upd_ne (by omega)).trans ((upd_ne (by omega)).trans ((upd_ne (by omega)).trans ((F_sh_lo (by omega)).trans rfl)))))) ?_
      refine wp_invvD (e := 87) (j2 := 230) (n := 3) d257_210 (by decide +kernel) (by decide +kernel) rfl rfl rfl (md_0 hR) (by decide +kernel) (Nat.le_of_ble_eq_true rfl) rfl rfl (Nat.le_of_ble_eq_true rfl) (by decide +kernel) (c_setGuard hR (g := g) (p := 2) (by omega) (by omega) (σ (92 + 5 * dd + 2))) hF ?_
      intro h hR hF
      refine wp_aload_n d257_213 rfl ?_
      refine wp_iload_n d257_214 rfl ?_
      refine wp_iconst d257_215 (v := nI 4) (by decide) ?_
      refine wp_iload d257_216 rfl ?_
      refine wp_invvD (e := 87) (j2 := 230) (n := 3) d257_218 (by decide +kernel) (by decide +kernel) rfl rfl rfl (md_0 hR) (by decide +kernel) (Nat.le_of_ble_eq_true rfl) rfl rfl (Nat.le_of_ble_eq_true rfl) (by decide +kernel) (c_setGuard hR (g := g) (p := 4) (by omega) (by omega) (σ (232 + 24 * g + 1))) hF ?_
      intro h hR hF
      refine wp_aload_n d257_221 rfl ?_
      refine wp_getf (e := 7) (ci := 12) (k := 0) (nest := false) d257_222 (by decide +kernel) (md_0 hR) rfl ?_
      refine wp_bipush d257_225 (v := nI 92) (by decide) ?_
      refine wp_iconst d257_227 (v := nI 5) (by decide) ?_
      refine wp_iload d257_228 rfl ?_
      refine wp_imulv d257_230 (v := nI (5 * dd)) (nI_mul _ _) ?_
      refine wp_iaddv d257_231 (v := nI (92 + 5 * dd)) (nI_add _ _) ?_
      refine wp_iconst d257_232 (v := nI 4) (by decide) ?_
      refine wp_iaddv d257_233 (v := nI (92 + 5 * dd + 4)) (nI_add _ _) ?_
      refine wp_dup2 d257_234 rfl rfl ?_
      refine wp_iald d257_235 (md_1 hR) (nI_in (by omega) (by decide)) (v := σ (92 + 5 * dd + 4)) ((congrArg ((G_set (G_set (G_set (G_set (upd (G_set (F_sh σ g 22) g 5 (nI (m - 1))) (1298 + 4 * mi + g) (nI (1000 * r + sn + 1))) g 0 ((-5 : Int32))) g 1 (σ (232 + 24 * g))) g 2 (σ (92 + 5 * dd + 2))) g 4 (σ (232 + 24 * g + 1)))) (nI_nat (by omega))).trans ((upd_ne (by omega)).trans ((upd_ne (by omega)).trans ((upd_ne (by omega)).trans ((upd_ne (by omega)).trans ((upd_ne (by omega)).trans ((upd_ne (by omega)).trans ((F_sh_lo (by omega)).trans rfl)))))))) ?_
      refine wp_iconst d257_236 (v := nI 1) (by decide) ?_
      refine wp_iadd d257_237 ?_
      refine wp_stS d257_238 hR hF (k := 92 + 5 * dd + 4) (by omega) (fun h hR hF => ?_)
      refine wp_vret d257_239 (by decide +kernel) ?_
      refine ⟨rfl, ?_, hF⟩
      unfold F_so
      rw [hde, if_neg (by rw [nI_nat (by omega)]; exact fun z => z.elim (fun z => hc50 z) (fun z => z hc60)), nI_nat (by omega)]
      exact hR
    · refine wp_aload_n d257_63 rfl ?_
      refine wp_iload_n d257_64 rfl ?_
      refine wp_iconst d257_65 (v := nI 5) (by decide) ?_
      refine wp_iconst d257_66 (v := nI 0) (by decide) ?_
      refine wp_invvD (e := 87) (j2 := 230) (n := 3) d257_67 (by decide +kernel) (by decide +kernel) rfl rfl rfl (md_0 hR) (by decide +kernel) (Nat.le_of_ble_eq_true rfl) rfl rfl (Nat.le_of_ble_eq_true rfl) (by decide +kernel) (c_setGuard hR (g := g) (p := 5) (by omega) (by omega) (nI 0)) hF ?_
      intro h hR hF
      refine wp_aload_n d257_70 rfl ?_
      refine wp_iload_n d257_71 rfl ?_
      refine wp_bipush d257_72 (v := nI 7) (by decide) ?_
      refine wp_aload_n d257_74 rfl ?_
      refine wp_iload_n d257_75 rfl ?_
      refine wp_bipush d257_76 (v := nI 7) (by decide) ?_
      refine wp_invvT (e := 81) (j2 := 227) (n := 2) d257_78 (by decide +kernel) (by decide +kernel) rfl rfl rfl (md_0 hR) (by decide +kernel) (Nat.le_of_ble_eq_true rfl) rfl rfl (Nat.le_of_ble_eq_true rfl) (by decide +kernel) (tells_eq (c_guardPart hR (r := g) (p := 7) (by omega) (by omega)) ((upd_ne (by omega)).trans rfl)) ?_
      refine wp_iconst d257_81 (v := nI 1) (by decide) ?_
      refine wp_iadd d257_82 ?_
      refine wp_invvD (e := 87) (j2 := 230) (n := 3) d257_83 (by decide +kernel) (by decide +kernel) rfl rfl rfl (md_0 hR) (by decide +kernel) (Nat.le_of_ble_eq_true rfl) rfl rfl (Nat.le_of_ble_eq_true rfl) (by decide +kernel) (c_setGuard hR (g := g) (p := 7) (by omega) (by omega) (((σ (192 + 10 * g + 7)) + (nI 1)))) hF ?_
      intro h hR hF
      refine wp_vret d257_86 (by decide +kernel) ?_
      refine ⟨rfl, ?_, hF⟩
      unfold F_so
      rw [hde, nI_nat (by omega), if_pos (Or.inr hc60)]
      exact hR
end
section
/-! The reference begins a minute. -/
theorem d256_0 : decode (m_code 256) 0 = .ok (.iconst 0, 1) := by decide +kernel
theorem d256_1 : decode (m_code 256) 1 = .ok (.istore_n 1, 1) := by decide +kernel
theorem d256_2 : decode (m_code 256) 2 = .ok (.iload_n 1, 1) := by decide +kernel
theorem d256_3 : decode (m_code 256) 3 = .ok (.aload_n 0, 1) := by decide +kernel
theorem d256_4 : decode (m_code 256) 4 = .ok (.getfield 7, 3) := by decide +kernel
theorem d256_7 : decode (m_code 256) 7 = .ok (.iconst 4, 1) := by decide +kernel
theorem d256_8 : decode (m_code 256) 8 = .ok (.iaload, 1) := by decide +kernel
theorem d256_9 : decode (m_code 256) 9 = .ok (.if_icmp .ge 77, 3) := by decide +kernel
theorem d256_12 : decode (m_code 256) 12 = .ok (.aload_n 0, 1) := by decide +kernel
theorem d256_13 : decode (m_code 256) 13 = .ok (.iload_n 1, 1) := by decide +kernel
theorem d256_14 : decode (m_code 256) 14 = .ok (.iconst 3, 1) := by decide +kernel
theorem d256_15 : decode (m_code 256) 15 = .ok (.invokevirtual 81, 3) := by decide +kernel
theorem d256_18 : decode (m_code 256) 18 = .ok (.ifCond .le 7, 3) := by decide +kernel
theorem d256_21 : decode (m_code 256) 21 = .ok (.iconst 1, 1) := by decide +kernel
theorem d256_22 : decode (m_code 256) 22 = .ok (.goto 4, 3) := by decide +kernel
theorem d256_25 : decode (m_code 256) 25 = .ok (.iconst 0, 1) := by decide +kernel
theorem d256_26 : decode (m_code 256) 26 = .ok (.istore_n 2, 1) := by decide +kernel
theorem d256_27 : decode (m_code 256) 27 = .ok (.aload_n 0, 1) := by decide +kernel
theorem d256_28 : decode (m_code 256) 28 = .ok (.iload_n 1, 1) := by decide +kernel
theorem d256_29 : decode (m_code 256) 29 = .ok (.iconst 0, 1) := by decide +kernel
theorem d256_30 : decode (m_code 256) 30 = .ok (.invokevirtual 81, 3) := by decide +kernel
theorem d256_33 : decode (m_code 256) 33 = .ok (.ifCond .lt 24, 3) := by decide +kernel
theorem d256_36 : decode (m_code 256) 36 = .ok (.iload_n 2, 1) := by decide +kernel
theorem d256_37 : decode (m_code 256) 37 = .ok (.ifCond .eq 20, 3) := by decide +kernel
theorem d256_40 : decode (m_code 256) 40 = .ok (.aload_n 0, 1) := by decide +kernel
theorem d256_41 : decode (m_code 256) 41 = .ok (.iload_n 1, 1) := by decide +kernel
theorem d256_42 : decode (m_code 256) 42 = .ok (.iconst 3, 1) := by decide +kernel
theorem d256_43 : decode (m_code 256) 43 = .ok (.aload_n 0, 1) := by decide +kernel
theorem d256_44 : decode (m_code 256) 44 = .ok (.iload_n 1, 1) := by decide +kernel
theorem d256_45 : decode (m_code 256) 45 = .ok (.iconst 3, 1) := by decide +kernel
theorem d256_46 : decode (m_code 256) 46 = .ok (.invokevirtual 81, 3) := by decide +kernel
theorem d256_49 : decode (m_code 256) 49 = .ok (.iconst 1, 1) := by decide +kernel
theorem d256_50 : decode (m_code 256) 50 = .ok (.isub, 1) := by decide +kernel
theorem d256_51 : decode (m_code 256) 51 = .ok (.invokevirtual 87, 3) := by decide +kernel
theorem d256_54 : decode (m_code 256) 54 = .ok (.goto 26, 3) := by decide +kernel
theorem d256_57 : decode (m_code 256) 57 = .ok (.aload_n 0, 1) := by decide +kernel
theorem d256_58 : decode (m_code 256) 58 = .ok (.iload_n 1, 1) := by decide +kernel
theorem d256_59 : decode (m_code 256) 59 = .ok (.iconst 0, 1) := by decide +kernel
theorem d256_60 : decode (m_code 256) 60 = .ok (.invokevirtual 81, 3) := by decide +kernel
theorem d256_63 : decode (m_code 256) 63 = .ok (.ifCond .lt 17, 3) := by decide +kernel
theorem d256_66 : decode (m_code 256) 66 = .ok (.aload_n 0, 1) := by decide +kernel
theorem d256_67 : decode (m_code 256) 67 = .ok (.iload_n 1, 1) := by decide +kernel
theorem d256_68 : decode (m_code 256) 68 = .ok (.iconst 5, 1) := by decide +kernel
theorem d256_69 : decode (m_code 256) 69 = .ok (.invokevirtual 81, 3) := by decide +kernel
theorem d256_72 : decode (m_code 256) 72 = .ok (.ifCond .le 8, 3) := by decide +kernel
theorem d256_75 : decode (m_code 256) 75 = .ok (.aload_n 0, 1) := by decide +kernel
theorem d256_76 : decode (m_code 256) 76 = .ok (.iload_n 1, 1) := by decide +kernel
theorem d256_77 : decode (m_code 256) 77 = .ok (.invokevirtual 131, 3) := by decide +kernel
theorem d256_80 : decode (m_code 256) 80 = .ok (.iinc 1 1, 3) := by decide +kernel
theorem d256_83 : decode (m_code 256) 83 = .ok (.goto (-81), 3) := by decide +kernel
theorem d256_86 : decode (m_code 256) 86 = .ok (.return_, 1) := by decide +kernel
/-- what one guard does as a minute begins -/
def F_gb1 (σ : Nat → Int32) (g nD : Nat) : Nat → Int32 :=
  if 0 ≤ σ (192 + 10 * g + 0) ∧ 0 < σ (192 + 10 * g + 3) then G_set σ g 3 (σ (192 + 10 * g + 3) - nI 1)
  else if 0 ≤ σ (192 + 10 * g + 0) ∧ 0 < σ (192 + 10 * g + 5) then F_so σ g nD (σ (192 + 10 * g + 0)).toNatClampNeg (σ (192 + 10 * g + 5)).toNatClampNeg (σ (192 + 10 * g + 9)).toNatClampNeg (σ 0).toNatClampNeg
  else σ
def F_gb (σ : Nat → Int32) (nD : Nat) : Nat → (Nat → Int32)
  | 0 => σ
  | g + 1 => F_gb1 (F_gb σ nD g) g nD
/-- what the reference asks of its row as the guard g begins a minute -/
def P_gb (σ : Nat → Int32) (g nD nG : Nat) : Prop :=
  (∃ mi, mi < 720 ∧ σ 0 = nI mi) ∧ σ 3 = nI nD ∧ σ 4 = nI nG ∧ (σ (192 + 10 * g + 0) < 0 ∨ ∃ r, r < 12 ∧ σ (192 + 10 * g + 0) = nI r) ∧ (∃ m, m ≤ 12 ∧ σ (192 + 10 * g + 5) = nI m) ∧ ∃ sn, sn < 1000 ∧ σ (192 + 10 * g + 9) = nI sn
theorem c_setsOff_gb {X : mX} {h : mH} {R : Nat → Nat → Int32} {σ : Nat → Int32} (hR : Ms h R σ) {g nD nG : Nat} (hg : g < 4) (hD : nD ≤ 20) (hP : P_gb σ g nD nG) (h1 : ¬ (0 ≤ σ (192 + 10 * g + 0) ∧ 0 < σ (192 + 10 * g + 3))) (h2 : ¬ σ (192 + 10 * g + 0) < 0) (h3 : ¬ σ (192 + 10 * g + 5) ≤ 0) : Does X 257 [.ref 313, .int (nI g)] h R (F_gb1 σ g nD) none := by
  obtain ⟨⟨mi, hmi2, hmi⟩, hn3, -, hat, ⟨m, hm12, hm⟩, sn, hsn, hs⟩ := hP
  obtain ⟨r, hr, hr2⟩ := hat.resolve_left h2
  have hm0 : 0 < m := by
    rcases Nat.eq_zero_or_pos m with z | z
    · subst z
      rw [hm] at h3
      exact absurd (by decide) h3
    · exact z
  unfold F_gb1
  rw [if_neg h1, if_pos ⟨Int32.not_lt.mp h2, Int32.not_le.mp h3⟩, hr2, hm, hs, hmi, nI_nat (by omega), nI_nat (by omega), nI_nat (by omega), nI_nat (by omega)]
  exact c_setsOff hR hg hr2 hr hm hm0 hm12 hs hsn hmi hmi2 hn3 hD
theorem c_guardsBegin_l {X : mX}  {h0 : mH} {R : Nat → Nat → Int32} {σ : Nat → Int32} {nD nG : Nat} (hD : nD ≤ 20) (hG : nG ≤ 4) (hP : ∀ k, k ≤ nG → P_gb (F_gb σ nD k) k nD nG) : ∀ (d : Nat) (k : Nat) (h : mH) (l2 : Option Value), nG - k = d → k ≤ nG → Ms h R (F_gb σ nD k) → Frm h0 h 313 8 → m_wp X 256 2 [some (.ref 313), some (.int (nI k)), l2] [] h (fun w h1 => w = none ∧ Ms h1 R (F_gb σ nD nG) ∧ Frm h0 h1 313 8) := by
  intro d
  induction d using Nat.strongRecOn with
  | ind d ih =>
    intro k h l2 hd hk hR hF
    refine wp_iload_n d256_2 rfl ?_
    refine wp_aload_n d256_3 rfl ?_
    refine wp_getf (e := 7) (ci := 12) (k := 0) (nest := false) d256_4 (by decide +kernel) (md_0 hR) rfl ?_
    refine wp_iconst d256_7 (v := nI 4) (by decide) ?_
    refine wp_iald d256_8 (md_1 hR) (nI_in (by omega) (by decide)) (v := nI nG) ((congrArg ((F_gb σ nD k)) (nI_nat (by omega))).trans (hP k (by omega)).2.2.1) ?_
    refine wp_icmp_ge d256_9 (tgt := 86) (by decide) (fun hc9 => ?_) (fun hc9 => ?_)
    · have hc9 : nG ≤ k := (nI_leI (by omega) (by omega)).mp hc9
      refine wp_vret d256_86 (by decide +kernel) ?_
      exact ⟨rfl, by rw [show nG = k by omega]; exact hR, hF⟩
    · have hc9 : ¬ (nG ≤ k) := fun z => hc9 ((nI_leI (by omega) (by omega)).mpr z)
      refine wp_aload_n d256_12 rfl ?_
      refine wp_iload_n d256_13 rfl ?_
      refine wp_iconst d256_14 (v := nI 3) (by decide) ?_
      refine wp_invvT (e := 81) (j2 := 227) (n := 2) d256_15 (by decide +kernel) (by decide +kernel) rfl rfl rfl (md_0 hR) (by decide +kernel) (Nat.le_of_ble_eq_true rfl) rfl rfl (Nat.le_of_ble_eq_true rfl) (by decide +kernel) (c_guardPart hR (r := k) (p := 3) (by omega) (by omega)) ?_
      refine wp_if_le d256_18 (tgt := 25) (by decide) (fun hc18 => ?_) (fun hc18 => ?_)
      · refine wp_iconst d256_25 (v := nI 0) (by decide) ?_
        refine wp_istore_n d256_26 (Nat.le_of_ble_eq_true rfl) rfl ?_
        refine wp_aload_n d256_27 rfl ?_
        refine wp_iload_n d256_28 rfl ?_
        refine wp_iconst d256_29 (v := nI 0) (by decide) ?_
        refine wp_invvT (e := 81) (j2 := 227) (n := 2) d256_30 (by decide +kernel) (by decide +kernel) rfl rfl rfl (md_0 hR) (by decide +kernel) (Nat.le_of_ble_eq_true rfl) rfl rfl (Nat.le_of_ble_eq_true rfl) (by decide +kernel) (c_guardPart hR (r := k) (p := 0) (by omega) (by omega)) ?_
        refine wp_if_lt d256_33 (tgt := 57) (by decide) (fun hc33 => ?_) (fun hc33 => ?_)
        · refine wp_aload_n d256_57 rfl ?_
          refine wp_iload_n d256_58 rfl ?_
          refine wp_iconst d256_59 (v := nI 0) (by decide) ?_
          refine wp_invvT (e := 81) (j2 := 227) (n := 2) d256_60 (by decide +kernel) (by decide +kernel) rfl rfl rfl (md_0 hR) (by decide +kernel) (Nat.le_of_ble_eq_true rfl) rfl rfl (Nat.le_of_ble_eq_true rfl) (by decide +kernel) (c_guardPart hR (r := k) (p := 0) (by omega) (by omega)) ?_
          refine wp_if_lt d256_63 (tgt := 80) (by decide) (fun hc63 => ?_) (fun hc63 => ?_)
          · refine wp_iinc d256_80 rfl (v := nI (k + 1)) (nI_add _ 1) (Nat.le_of_ble_eq_true rfl) rfl ?_
            refine wp_goto d256_83 (tgt := 2) (by decide) ?_
            exact ih (nG - (k + 1)) (by omega) (k + 1) h _ rfl (by omega) (by simp only [F_gb, F_gb1]; rw [if_neg (by grind), if_neg (by grind)]; exact hR) hF
          · refine wp_aload_n d256_66 rfl ?_
            refine wp_iload_n d256_67 rfl ?_
            refine wp_iconst d256_68 (v := nI 5) (by decide) ?_
            refine wp_invvT (e := 81) (j2 := 227) (n := 2) d256_69 (by decide +kernel) (by decide +kernel) rfl rfl rfl (md_0 hR) (by decide +kernel) (Nat.le_of_ble_eq_true rfl) rfl rfl (Nat.le_of_ble_eq_true rfl) (by decide +kernel) (c_guardPart hR (r := k) (p := 5) (by omega) (by omega)) ?_
            refine wp_if_le d256_72 (tgt := 80) (by decide) (fun hc72 => ?_) (fun hc72 => ?_)
            · refine wp_iinc d256_80 rfl (v := nI (k + 1)) (nI_add _ 1) (Nat.le_of_ble_eq_true rfl) rfl ?_
              refine wp_goto d256_83 (tgt := 2) (by decide) ?_
              exact ih (nG - (k + 1)) (by omega) (k + 1) h _ rfl (by omega) (by simp only [F_gb, F_gb1]; rw [if_neg (by grind), if_neg (by grind)]; exact hR) hF
            · refine wp_aload_n d256_75 rfl ?_
              refine wp_iload_n d256_76 rfl ?_
              refine wp_invvD (e := 131) (j2 := 257) (n := 1) d256_77 (by decide +kernel) (by decide +kernel) rfl rfl rfl (md_0 hR) (by decide +kernel) (Nat.le_of_ble_eq_true rfl) rfl rfl (Nat.le_of_ble_eq_true rfl) (by decide +kernel) (c_setsOff_gb hR (g := k) (by omega) hD (hP k (by omega)) (by grind) (by assumption) (by assumption)) hF ?_
              intro h hR hF
              refine wp_iinc d256_80 rfl (v := nI (k + 1)) (nI_add _ 1) (Nat.le_of_ble_eq_true rfl) rfl ?_
              refine wp_goto d256_83 (tgt := 2) (by decide) ?_
              exact ih (nG - (k + 1)) (by omega) (k + 1) h _ rfl (by omega) (by exact hR) hF
        · refine wp_iload_n d256_36 rfl ?_
          refine wp_if_eq d256_37 (tgt := 57) (by decide) (fun _ => ?_) (fun hz => absurd hz (by decide))
          refine wp_aload_n d256_57 rfl ?_
          refine wp_iload_n d256_58 rfl ?_
          refine wp_iconst d256_59 (v := nI 0) (by decide) ?_
          refine wp_invvT (e := 81) (j2 := 227) (n := 2) d256_60 (by decide +kernel) (by decide +kernel) rfl rfl rfl (md_0 hR) (by decide +kernel) (Nat.le_of_ble_eq_true rfl) rfl rfl (Nat.le_of_ble_eq_true rfl) (by decide +kernel) (c_guardPart hR (r := k) (p := 0) (by omega) (by omega)) ?_
          refine wp_if_lt d256_63 (tgt := 80) (by decide) (fun hc63 => ?_) (fun hc63 => ?_)
          · refine wp_iinc d256_80 rfl (v := nI (k + 1)) (nI_add _ 1) (Nat.le_of_ble_eq_true rfl) rfl ?_
            refine wp_goto d256_83 (tgt := 2) (by decide) ?_
            exact ih (nG - (k + 1)) (by omega) (k + 1) h _ rfl (by omega) (by simp only [F_gb, F_gb1]; rw [if_neg (by grind), if_neg (by grind)]; exact hR) hF
          · refine wp_aload_n d256_66 rfl ?_
            refine wp_iload_n d256_67 rfl ?_
            refine wp_iconst d256_68 (v := nI 5) (by decide) ?_
            refine wp_invvT (e := 81) (j2 := 227) (n := 2) d256_69 (by decide +kernel) (by decide +kernel) rfl rfl rfl (md_0 hR) (by decide +kernel) (Nat.le_of_ble_eq_true rfl) rfl rfl (Nat.le_of_ble_eq_true rfl) (by decide +kernel) (c_guardPart hR (r := k) (p := 5) (by omega) (by omega)) ?_
            refine wp_if_le d256_72 (tgt := 80) (by decide) (fun hc72 => ?_) (fun hc72 => ?_)
            · refine wp_iinc d256_80 rfl (v := nI (k + 1)) (nI_add _ 1) (Nat.le_of_ble_eq_true rfl) rfl ?_
              refine wp_goto d256_83 (tgt := 2) (by decide) ?_
              exact ih (nG - (k + 1)) (by omega) (k + 1) h _ rfl (by omega) (by simp only [F_gb, F_gb1]; rw [if_neg (by grind), if_neg (by grind)]; exact hR) hF
            · refine wp_aload_n d256_75 rfl ?_
              refine wp_iload_n d256_76 rfl ?_
              refine wp_invvD (e := 131) (j2 := 257) (n := 1) d256_77 (by decide +kernel) (by decide +kernel) rfl rfl rfl (md_0 hR) (by decide +kernel) (Nat.le_of_ble_eq_true rfl) rfl rfl (Nat.le_of_ble_eq_true rfl) (by decide +kernel) (c_setsOff_gb hR (g := k) (by omega) hD (hP k (by omega)) (by grind) (by assumption) (by assumption)) hF ?_
              intro h hR hF
              refine wp_iinc d256_80 rfl (v := nI (k + 1)) (nI_add _ 1) (Nat.le_of_ble_eq_true rfl) rfl ?_
              refine wp_goto d256_83 (tgt := 2) (by decide) ?_
              exact ih (nG - (k + 1)) (by omega) (k + 1) h _ rfl (by omega) (by exact hR) hF
      · refine wp_iconst d256_21 (v := nI 1) (by decide) ?_
        refine wp_goto d256_22 (tgt := 26) (by decide) ?_
        refine wp_istore_n d256_26 (Nat.le_of_ble_eq_true rfl) rfl ?_
        refine wp_aload_n d256_27 rfl ?_
        refine wp_iload_n d256_28 rfl ?_
        refine wp_iconst d256_29 (v := nI 0) (by decide) ?_
        refine wp_invvT (e := 81) (j2 := 227) (n := 2) d256_30 (by decide +kernel) (by decide +kernel) rfl rfl rfl (md_0 hR) (by decide +kernel) (Nat.le_of_ble_eq_true rfl) rfl rfl (Nat.le_of_ble_eq_true rfl) (by decide +kernel) (c_guardPart hR (r := k) (p := 0) (by omega) (by omega)) ?_
        refine wp_if_lt d256_33 (tgt := 57) (by decide) (fun hc33 => ?_) (fun hc33 => ?_)
        · refine wp_aload_n d256_57 rfl ?_
          refine wp_iload_n d256_58 rfl ?_
          refine wp_iconst d256_59 (v := nI 0) (by decide) ?_
          refine wp_invvT (e := 81) (j2 := 227) (n := 2) d256_60 (by decide +kernel) (by decide +kernel) rfl rfl rfl (md_0 hR) (by decide +kernel) (Nat.le_of_ble_eq_true rfl) rfl rfl (Nat.le_of_ble_eq_true rfl) (by decide +kernel) (c_guardPart hR (r := k) (p := 0) (by omega) (by omega)) ?_
          refine wp_if_lt d256_63 (tgt := 80) (by decide) (fun hc63 => ?_) (fun hc63 => ?_)
          · refine wp_iinc d256_80 rfl (v := nI (k + 1)) (nI_add _ 1) (Nat.le_of_ble_eq_true rfl) rfl ?_
            refine wp_goto d256_83 (tgt := 2) (by decide) ?_
            exact ih (nG - (k + 1)) (by omega) (k + 1) h _ rfl (by omega) (by simp only [F_gb, F_gb1]; rw [if_neg (by grind), if_neg (by grind)]; exact hR) hF
          · refine wp_aload_n d256_66 rfl ?_
            refine wp_iload_n d256_67 rfl ?_
            refine wp_iconst d256_68 (v := nI 5) (by decide) ?_
            refine wp_invvT (e := 81) (j2 := 227) (n := 2) d256_69 (by decide +kernel) (by decide +kernel) rfl rfl rfl (md_0 hR) (by decide +kernel) (Nat.le_of_ble_eq_true rfl) rfl rfl (Nat.le_of_ble_eq_true rfl) (by decide +kernel) (c_guardPart hR (r := k) (p := 5) (by omega) (by omega)) ?_
            refine wp_if_le d256_72 (tgt := 80) (by decide) (fun hc72 => ?_) (fun hc72 => ?_)
            · refine wp_iinc d256_80 rfl (v := nI (k + 1)) (nI_add _ 1) (Nat.le_of_ble_eq_true rfl) rfl ?_
              refine wp_goto d256_83 (tgt := 2) (by decide) ?_
              exact ih (nG - (k + 1)) (by omega) (k + 1) h _ rfl (by omega) (by simp only [F_gb, F_gb1]; rw [if_neg (by grind), if_neg (by grind)]; exact hR) hF
            · refine wp_aload_n d256_75 rfl ?_
              refine wp_iload_n d256_76 rfl ?_
              refine wp_invvD (e := 131) (j2 := 257) (n := 1) d256_77 (by decide +kernel) (by decide +kernel) rfl rfl rfl (md_0 hR) (by decide +kernel) (Nat.le_of_ble_eq_true rfl) rfl rfl (Nat.le_of_ble_eq_true rfl) (by decide +kernel) (c_setsOff_gb hR (g := k) (by omega) hD (hP k (by omega)) (by grind) (by assumption) (by assumption)) hF ?_
              intro h hR hF
              refine wp_iinc d256_80 rfl (v := nI (k + 1)) (nI_add _ 1) (Nat.le_of_ble_eq_true rfl) rfl ?_
              refine wp_goto d256_83 (tgt := 2) (by decide) ?_
              exact ih (nG - (k + 1)) (by omega) (k + 1) h _ rfl (by omega) (by exact hR) hF
        · refine wp_iload_n d256_36 rfl ?_
          refine wp_if_eq d256_37 (tgt := 57) (by decide) (fun hz => absurd hz (by decide)) (fun _ => ?_)
          refine wp_aload_n d256_40 rfl ?_
          refine wp_iload_n d256_41 rfl ?_
          refine wp_iconst d256_42 (v := nI 3) (by decide) ?_
          refine wp_aload_n d256_43 rfl ?_
          refine wp_iload_n d256_44 rfl ?_
          refine wp_iconst d256_45 (v := nI 3) (by decide) ?_
          refine wp_invvT (e := 81) (j2 := 227) (n := 2) d256_46 (by decide +kernel) (by decide +kernel) rfl rfl rfl (md_0 hR) (by decide +kernel) (Nat.le_of_ble_eq_true rfl) rfl rfl (Nat.le_of_ble_eq_true rfl) (by decide +kernel) (c_guardPart hR (r := k) (p := 3) (by omega) (by omega)) ?_
          refine wp_iconst d256_49 (v := nI 1) (by decide) ?_
          refine wp_isub d256_50 ?_
          refine wp_invvD (e := 87) (j2 := 230) (n := 3) d256_51 (by decide +kernel) (by decide +kernel) rfl rfl rfl (md_0 hR) (by decide +kernel) (Nat.le_of_ble_eq_true rfl) rfl rfl (Nat.le_of_ble_eq_true rfl) (by decide +kernel) (c_setGuard hR (g := k) (p := 3) (by omega) (by omega) (((F_gb σ nD k) (192 + 10 * k + 3) - (nI 1)))) hF ?_
          intro h hR hF
          refine wp_goto d256_54 (tgt := 80) (by decide) ?_
          refine wp_iinc d256_80 rfl (v := nI (k + 1)) (nI_add _ 1) (Nat.le_of_ble_eq_true rfl) rfl ?_
          refine wp_goto d256_83 (tgt := 2) (by decide) ?_
          exact ih (nG - (k + 1)) (by omega) (k + 1) h _ rfl (by omega) (by simp only [F_gb, F_gb1]; rw [if_pos ⟨Int32.not_lt.mp hc33, Int32.not_le.mp hc18⟩]; exact hR) hF
theorem c_guardsBegin {X : mX} {h : mH} {R : Nat → Nat → Int32} {σ : Nat → Int32} (hR : Ms h R σ) {nD nG : Nat} (hD : nD ≤ 20) (hG : nG ≤ 4) (hP : ∀ k, k ≤ nG → P_gb (F_gb σ nD k) k nD nG) : Does X 256 [.ref 313] h (R) (F_gb σ nD nG) none := by
  have hF : Frm h h 313 8 := Frm.rf
  refine wp_iconst d256_0 (v := nI 0) (by decide) ?_
  refine wp_istore_n d256_1 (Nat.le_of_ble_eq_true rfl) rfl ?_
  exact c_guardsBegin_l hD hG hP _ 0 h _ rfl (by omega) hR hF
end
section
/-! The reference: rooms are watched, guards walk. -/
theorem d259_0 : decode (m_code 259) 0 = .ok (.iconst 0, 1) := by decide +kernel
theorem d259_1 : decode (m_code 259) 1 = .ok (.istore_n 1, 1) := by decide +kernel
theorem d259_2 : decode (m_code 259) 2 = .ok (.iconst 0, 1) := by decide +kernel
theorem d259_3 : decode (m_code 259) 3 = .ok (.istore_n 2, 1) := by decide +kernel
theorem d259_4 : decode (m_code 259) 4 = .ok (.iload_n 2, 1) := by decide +kernel
theorem d259_5 : decode (m_code 259) 5 = .ok (.aload_n 0, 1) := by decide +kernel
theorem d259_6 : decode (m_code 259) 6 = .ok (.getfield 7, 3) := by decide +kernel
theorem d259_9 : decode (m_code 259) 9 = .ok (.iconst 2, 1) := by decide +kernel
theorem d259_10 : decode (m_code 259) 10 = .ok (.iaload, 1) := by decide +kernel
theorem d259_11 : decode (m_code 259) 11 = .ok (.if_icmp .ge 134, 3) := by decide +kernel
theorem d259_14 : decode (m_code 259) 14 = .ok (.bipush 20, 2) := by decide +kernel
theorem d259_16 : decode (m_code 259) 16 = .ok (.bipush 6, 2) := by decide +kernel
theorem d259_18 : decode (m_code 259) 18 = .ok (.iload_n 2, 1) := by decide +kernel
theorem d259_19 : decode (m_code 259) 19 = .ok (.imul, 1) := by decide +kernel
theorem d259_20 : decode (m_code 259) 20 = .ok (.iadd, 1) := by decide +kernel
theorem d259_21 : decode (m_code 259) 21 = .ok (.istore_n 3, 1) := by decide +kernel
theorem d259_22 : decode (m_code 259) 22 = .ok (.aload_n 0, 1) := by decide +kernel
theorem d259_23 : decode (m_code 259) 23 = .ok (.iload_n 2, 1) := by decide +kernel
theorem d259_24 : decode (m_code 259) 24 = .ok (.invokevirtual 119, 3) := by decide +kernel
theorem d259_27 : decode (m_code 259) 27 = .ok (.ifCond .le 45, 3) := by decide +kernel
theorem d259_30 : decode (m_code 259) 30 = .ok (.iload_n 1, 1) := by decide +kernel
theorem d259_31 : decode (m_code 259) 31 = .ok (.iconst 1, 1) := by decide +kernel
theorem d259_32 : decode (m_code 259) 32 = .ok (.iload_n 2, 1) := by decide +kernel
theorem d259_33 : decode (m_code 259) 33 = .ok (.ishl, 1) := by decide +kernel
theorem d259_34 : decode (m_code 259) 34 = .ok (.ior, 1) := by decide +kernel
theorem d259_35 : decode (m_code 259) 35 = .ok (.istore_n 1, 1) := by decide +kernel
theorem d259_36 : decode (m_code 259) 36 = .ok (.aload_n 0, 1) := by decide +kernel
theorem d259_37 : decode (m_code 259) 37 = .ok (.getfield 7, 3) := by decide +kernel
theorem d259_40 : decode (m_code 259) 40 = .ok (.iload_n 3, 1) := by decide +kernel
theorem d259_41 : decode (m_code 259) 41 = .ok (.iconst 2, 1) := by decide +kernel
theorem d259_42 : decode (m_code 259) 42 = .ok (.iadd, 1) := by decide +kernel
theorem d259_43 : decode (m_code 259) 43 = .ok (.dup2, 1) := by decide +kernel
theorem d259_44 : decode (m_code 259) 44 = .ok (.iaload, 1) := by decide +kernel
theorem d259_45 : decode (m_code 259) 45 = .ok (.iconst 1, 1) := by decide +kernel
theorem d259_46 : decode (m_code 259) 46 = .ok (.iadd, 1) := by decide +kernel
theorem d259_47 : decode (m_code 259) 47 = .ok (.iastore, 1) := by decide +kernel
theorem d259_48 : decode (m_code 259) 48 = .ok (.aload_n 0, 1) := by decide +kernel
theorem d259_49 : decode (m_code 259) 49 = .ok (.getfield 7, 3) := by decide +kernel
theorem d259_52 : decode (m_code 259) 52 = .ok (.iload_n 3, 1) := by decide +kernel
theorem d259_53 : decode (m_code 259) 53 = .ok (.iconst 3, 1) := by decide +kernel
theorem d259_54 : decode (m_code 259) 54 = .ok (.iadd, 1) := by decide +kernel
theorem d259_55 : decode (m_code 259) 55 = .ok (.iconst 0, 1) := by decide +kernel
theorem d259_56 : decode (m_code 259) 56 = .ok (.iastore, 1) := by decide +kernel
theorem d259_57 : decode (m_code 259) 57 = .ok (.aload_n 0, 1) := by decide +kernel
theorem d259_58 : decode (m_code 259) 58 = .ok (.getfield 7, 3) := by decide +kernel
theorem d259_61 : decode (m_code 259) 61 = .ok (.iload_n 3, 1) := by decide +kernel
theorem d259_62 : decode (m_code 259) 62 = .ok (.iconst 5, 1) := by decide +kernel
theorem d259_63 : decode (m_code 259) 63 = .ok (.iadd, 1) := by decide +kernel
theorem d259_64 : decode (m_code 259) 64 = .ok (.dup2, 1) := by decide +kernel
theorem d259_65 : decode (m_code 259) 65 = .ok (.iaload, 1) := by decide +kernel
theorem d259_66 : decode (m_code 259) 66 = .ok (.iconst 1, 1) := by decide +kernel
theorem d259_67 : decode (m_code 259) 67 = .ok (.iadd, 1) := by decide +kernel
theorem d259_68 : decode (m_code 259) 68 = .ok (.iastore, 1) := by decide +kernel
theorem d259_69 : decode (m_code 259) 69 = .ok (.goto 70, 3) := by decide +kernel
theorem d259_72 : decode (m_code 259) 72 = .ok (.aload_n 0, 1) := by decide +kernel
theorem d259_73 : decode (m_code 259) 73 = .ok (.getfield 7, 3) := by decide +kernel
theorem d259_76 : decode (m_code 259) 76 = .ok (.iload_n 3, 1) := by decide +kernel
theorem d259_77 : decode (m_code 259) 77 = .ok (.iconst 2, 1) := by decide +kernel
theorem d259_78 : decode (m_code 259) 78 = .ok (.iadd, 1) := by decide +kernel
theorem d259_79 : decode (m_code 259) 79 = .ok (.iconst 0, 1) := by decide +kernel
theorem d259_80 : decode (m_code 259) 80 = .ok (.iastore, 1) := by decide +kernel
theorem d259_81 : decode (m_code 259) 81 = .ok (.aload_n 0, 1) := by decide +kernel
theorem d259_82 : decode (m_code 259) 82 = .ok (.getfield 7, 3) := by decide +kernel
theorem d259_85 : decode (m_code 259) 85 = .ok (.iload_n 3, 1) := by decide +kernel
theorem d259_86 : decode (m_code 259) 86 = .ok (.iconst 3, 1) := by decide +kernel
theorem d259_87 : decode (m_code 259) 87 = .ok (.iadd, 1) := by decide +kernel
theorem d259_88 : decode (m_code 259) 88 = .ok (.dup2, 1) := by decide +kernel
theorem d259_89 : decode (m_code 259) 89 = .ok (.iaload, 1) := by decide +kernel
theorem d259_90 : decode (m_code 259) 90 = .ok (.iconst 1, 1) := by decide +kernel
theorem d259_91 : decode (m_code 259) 91 = .ok (.iadd, 1) := by decide +kernel
theorem d259_92 : decode (m_code 259) 92 = .ok (.iastore, 1) := by decide +kernel
theorem d259_93 : decode (m_code 259) 93 = .ok (.aload_n 0, 1) := by decide +kernel
theorem d259_94 : decode (m_code 259) 94 = .ok (.getfield 7, 3) := by decide +kernel
theorem d259_97 : decode (m_code 259) 97 = .ok (.iload_n 3, 1) := by decide +kernel
theorem d259_98 : decode (m_code 259) 98 = .ok (.iconst 4, 1) := by decide +kernel
theorem d259_99 : decode (m_code 259) 99 = .ok (.iadd, 1) := by decide +kernel
theorem d259_100 : decode (m_code 259) 100 = .ok (.aload_n 0, 1) := by decide +kernel
theorem d259_101 : decode (m_code 259) 101 = .ok (.getfield 7, 3) := by decide +kernel
theorem d259_104 : decode (m_code 259) 104 = .ok (.iload_n 3, 1) := by decide +kernel
theorem d259_105 : decode (m_code 259) 105 = .ok (.iconst 3, 1) := by decide +kernel
theorem d259_106 : decode (m_code 259) 106 = .ok (.iadd, 1) := by decide +kernel
theorem d259_107 : decode (m_code 259) 107 = .ok (.iaload, 1) := by decide +kernel
theorem d259_108 : decode (m_code 259) 108 = .ok (.aload_n 0, 1) := by decide +kernel
theorem d259_109 : decode (m_code 259) 109 = .ok (.getfield 7, 3) := by decide +kernel
theorem d259_112 : decode (m_code 259) 112 = .ok (.iload_n 3, 1) := by decide +kernel
theorem d259_113 : decode (m_code 259) 113 = .ok (.iconst 4, 1) := by decide +kernel
theorem d259_114 : decode (m_code 259) 114 = .ok (.iadd, 1) := by decide +kernel
theorem d259_115 : decode (m_code 259) 115 = .ok (.iaload, 1) := by decide +kernel
theorem d259_116 : decode (m_code 259) 116 = .ok (.if_icmp .le 14, 3) := by decide +kernel
theorem d259_119 : decode (m_code 259) 119 = .ok (.aload_n 0, 1) := by decide +kernel
theorem d259_120 : decode (m_code 259) 120 = .ok (.getfield 7, 3) := by decide +kernel
theorem d259_123 : decode (m_code 259) 123 = .ok (.iload_n 3, 1) := by decide +kernel
theorem d259_124 : decode (m_code 259) 124 = .ok (.iconst 3, 1) := by decide +kernel
theorem d259_125 : decode (m_code 259) 125 = .ok (.iadd, 1) := by decide +kernel
theorem d259_126 : decode (m_code 259) 126 = .ok (.iaload, 1) := by decide +kernel
theorem d259_127 : decode (m_code 259) 127 = .ok (.goto 11, 3) := by decide +kernel
theorem d259_130 : decode (m_code 259) 130 = .ok (.aload_n 0, 1) := by decide +kernel
theorem d259_131 : decode (m_code 259) 131 = .ok (.getfield 7, 3) := by decide +kernel
theorem d259_134 : decode (m_code 259) 134 = .ok (.iload_n 3, 1) := by decide +kernel
theorem d259_135 : decode (m_code 259) 135 = .ok (.iconst 4, 1) := by decide +kernel
theorem d259_136 : decode (m_code 259) 136 = .ok (.iadd, 1) := by decide +kernel
theorem d259_137 : decode (m_code 259) 137 = .ok (.iaload, 1) := by decide +kernel
theorem d259_138 : decode (m_code 259) 138 = .ok (.iastore, 1) := by decide +kernel
theorem d259_139 : decode (m_code 259) 139 = .ok (.iinc 2 1, 3) := by decide +kernel
theorem d259_142 : decode (m_code 259) 142 = .ok (.goto (-138), 3) := by decide +kernel
theorem d259_145 : decode (m_code 259) 145 = .ok (.aload_n 0, 1) := by decide +kernel
theorem d259_146 : decode (m_code 259) 146 = .ok (.getfield 7, 3) := by decide +kernel
theorem d259_149 : decode (m_code 259) 149 = .ok (.sipush 578, 3) := by decide +kernel
theorem d259_152 : decode (m_code 259) 152 = .ok (.aload_n 0, 1) := by decide +kernel
theorem d259_153 : decode (m_code 259) 153 = .ok (.getfield 7, 3) := by decide +kernel
theorem d259_156 : decode (m_code 259) 156 = .ok (.iconst 0, 1) := by decide +kernel
theorem d259_157 : decode (m_code 259) 157 = .ok (.iaload, 1) := by decide +kernel
theorem d259_158 : decode (m_code 259) 158 = .ok (.iadd, 1) := by decide +kernel
theorem d259_159 : decode (m_code 259) 159 = .ok (.iload_n 1, 1) := by decide +kernel
theorem d259_160 : decode (m_code 259) 160 = .ok (.iastore, 1) := by decide +kernel
theorem d259_161 : decode (m_code 259) 161 = .ok (.return_, 1) := by decide +kernel
theorem d260_0 : decode (m_code 260) 0 = .ok (.iconst 0, 1) := by decide +kernel
theorem d260_1 : decode (m_code 260) 1 = .ok (.istore_n 1, 1) := by decide +kernel
theorem d260_2 : decode (m_code 260) 2 = .ok (.iconst 0, 1) := by decide +kernel
theorem d260_3 : decode (m_code 260) 3 = .ok (.istore_n 2, 1) := by decide +kernel
theorem d260_4 : decode (m_code 260) 4 = .ok (.iload_n 2, 1) := by decide +kernel
theorem d260_5 : decode (m_code 260) 5 = .ok (.aload_n 0, 1) := by decide +kernel
theorem d260_6 : decode (m_code 260) 6 = .ok (.getfield 7, 3) := by decide +kernel
theorem d260_9 : decode (m_code 260) 9 = .ok (.iconst 4, 1) := by decide +kernel
theorem d260_10 : decode (m_code 260) 10 = .ok (.iaload, 1) := by decide +kernel
theorem d260_11 : decode (m_code 260) 11 = .ok (.if_icmp .ge 145, 3) := by decide +kernel
theorem d260_14 : decode (m_code 260) 14 = .ok (.aload_n 0, 1) := by decide +kernel
theorem d260_15 : decode (m_code 260) 15 = .ok (.iload_n 2, 1) := by decide +kernel
theorem d260_16 : decode (m_code 260) 16 = .ok (.iconst 0, 1) := by decide +kernel
theorem d260_17 : decode (m_code 260) 17 = .ok (.invokevirtual 81, 3) := by decide +kernel
theorem d260_20 : decode (m_code 260) 20 = .ok (.ifCond .ge 130, 3) := by decide +kernel
theorem d260_23 : decode (m_code 260) 23 = .ok (.aload_n 0, 1) := by decide +kernel
theorem d260_24 : decode (m_code 260) 24 = .ok (.iload_n 2, 1) := by decide +kernel
theorem d260_25 : decode (m_code 260) 25 = .ok (.iconst 2, 1) := by decide +kernel
theorem d260_26 : decode (m_code 260) 26 = .ok (.aload_n 0, 1) := by decide +kernel
theorem d260_27 : decode (m_code 260) 27 = .ok (.iload_n 2, 1) := by decide +kernel
theorem d260_28 : decode (m_code 260) 28 = .ok (.iconst 2, 1) := by decide +kernel
theorem d260_29 : decode (m_code 260) 29 = .ok (.invokevirtual 81, 3) := by decide +kernel
theorem d260_32 : decode (m_code 260) 32 = .ok (.iconst 1, 1) := by decide +kernel
theorem d260_33 : decode (m_code 260) 33 = .ok (.isub, 1) := by decide +kernel
theorem d260_34 : decode (m_code 260) 34 = .ok (.invokevirtual 87, 3) := by decide +kernel
theorem d260_37 : decode (m_code 260) 37 = .ok (.aload_n 0, 1) := by decide +kernel
theorem d260_38 : decode (m_code 260) 38 = .ok (.iload_n 2, 1) := by decide +kernel
theorem d260_39 : decode (m_code 260) 39 = .ok (.iconst 2, 1) := by decide +kernel
theorem d260_40 : decode (m_code 260) 40 = .ok (.invokevirtual 81, 3) := by decide +kernel
theorem d260_43 : decode (m_code 260) 43 = .ok (.ifCond .ne 107, 3) := by decide +kernel
theorem d260_46 : decode (m_code 260) 46 = .ok (.aload_n 0, 1) := by decide +kernel
theorem d260_47 : decode (m_code 260) 47 = .ok (.iload_n 2, 1) := by decide +kernel
theorem d260_48 : decode (m_code 260) 48 = .ok (.iconst 1, 1) := by decide +kernel
theorem d260_49 : decode (m_code 260) 49 = .ok (.invokevirtual 81, 3) := by decide +kernel
theorem d260_52 : decode (m_code 260) 52 = .ok (.istore_n 3, 1) := by decide +kernel
theorem d260_53 : decode (m_code 260) 53 = .ok (.aload_n 0, 1) := by decide +kernel
theorem d260_54 : decode (m_code 260) 54 = .ok (.iload_n 2, 1) := by decide +kernel
theorem d260_55 : decode (m_code 260) 55 = .ok (.iconst 0, 1) := by decide +kernel
theorem d260_56 : decode (m_code 260) 56 = .ok (.iload_n 3, 1) := by decide +kernel
theorem d260_57 : decode (m_code 260) 57 = .ok (.invokevirtual 87, 3) := by decide +kernel
theorem d260_60 : decode (m_code 260) 60 = .ok (.aload_n 0, 1) := by decide +kernel
theorem d260_61 : decode (m_code 260) 61 = .ok (.iload_n 2, 1) := by decide +kernel
theorem d260_62 : decode (m_code 260) 62 = .ok (.iconst 1, 1) := by decide +kernel
theorem d260_63 : decode (m_code 260) 63 = .ok (.bipush (-5), 2) := by decide +kernel
theorem d260_65 : decode (m_code 260) 65 = .ok (.invokevirtual 87, 3) := by decide +kernel
theorem d260_68 : decode (m_code 260) 68 = .ok (.aload_n 0, 1) := by decide +kernel
theorem d260_69 : decode (m_code 260) 69 = .ok (.iload_n 2, 1) := by decide +kernel
theorem d260_70 : decode (m_code 260) 70 = .ok (.iconst 3, 1) := by decide +kernel
theorem d260_71 : decode (m_code 260) 71 = .ok (.aload_n 0, 1) := by decide +kernel
theorem d260_72 : decode (m_code 260) 72 = .ok (.iload_n 2, 1) := by decide +kernel
theorem d260_73 : decode (m_code 260) 73 = .ok (.iconst 4, 1) := by decide +kernel
theorem d260_74 : decode (m_code 260) 74 = .ok (.invokevirtual 81, 3) := by decide +kernel
theorem d260_77 : decode (m_code 260) 77 = .ok (.invokevirtual 87, 3) := by decide +kernel
theorem d260_80 : decode (m_code 260) 80 = .ok (.aload_n 0, 1) := by decide +kernel
theorem d260_81 : decode (m_code 260) 81 = .ok (.iload_n 2, 1) := by decide +kernel
theorem d260_82 : decode (m_code 260) 82 = .ok (.bipush 9, 2) := by decide +kernel
theorem d260_84 : decode (m_code 260) 84 = .ok (.aload_n 0, 1) := by decide +kernel
theorem d260_85 : decode (m_code 260) 85 = .ok (.getfield 7, 3) := by decide +kernel
theorem d260_88 : decode (m_code 260) 88 = .ok (.iconst 0, 1) := by decide +kernel
theorem d260_89 : decode (m_code 260) 89 = .ok (.iaload, 1) := by decide +kernel
theorem d260_90 : decode (m_code 260) 90 = .ok (.iconst 1, 1) := by decide +kernel
theorem d260_91 : decode (m_code 260) 91 = .ok (.iadd, 1) := by decide +kernel
theorem d260_92 : decode (m_code 260) 92 = .ok (.invokevirtual 87, 3) := by decide +kernel
theorem d260_95 : decode (m_code 260) 95 = .ok (.aload_n 0, 1) := by decide +kernel
theorem d260_96 : decode (m_code 260) 96 = .ok (.iload_n 2, 1) := by decide +kernel
theorem d260_97 : decode (m_code 260) 97 = .ok (.bipush 8, 2) := by decide +kernel
theorem d260_99 : decode (m_code 260) 99 = .ok (.aload_n 0, 1) := by decide +kernel
theorem d260_100 : decode (m_code 260) 100 = .ok (.iload_n 2, 1) := by decide +kernel
theorem d260_101 : decode (m_code 260) 101 = .ok (.bipush 8, 2) := by decide +kernel
theorem d260_103 : decode (m_code 260) 103 = .ok (.invokevirtual 81, 3) := by decide +kernel
theorem d260_106 : decode (m_code 260) 106 = .ok (.iconst 1, 1) := by decide +kernel
theorem d260_107 : decode (m_code 260) 107 = .ok (.iadd, 1) := by decide +kernel
theorem d260_108 : decode (m_code 260) 108 = .ok (.invokevirtual 87, 3) := by decide +kernel
theorem d260_111 : decode (m_code 260) 111 = .ok (.aload_n 0, 1) := by decide +kernel
theorem d260_112 : decode (m_code 260) 112 = .ok (.iload_n 3, 1) := by decide +kernel
theorem d260_113 : decode (m_code 260) 113 = .ok (.iconst 0, 1) := by decide +kernel
theorem d260_114 : decode (m_code 260) 114 = .ok (.invokevirtual 63, 3) := by decide +kernel
theorem d260_117 : decode (m_code 260) 117 = .ok (.istore 4, 2) := by decide +kernel
theorem d260_119 : decode (m_code 260) 119 = .ok (.iload_n 1, 1) := by decide +kernel
theorem d260_120 : decode (m_code 260) 120 = .ok (.iload 4, 2) := by decide +kernel
theorem d260_122 : decode (m_code 260) 122 = .ok (.ifCond .lt 25, 3) := by decide +kernel
theorem d260_125 : decode (m_code 260) 125 = .ok (.aload_n 0, 1) := by decide +kernel
theorem d260_126 : decode (m_code 260) 126 = .ok (.getfield 7, 3) := by decide +kernel
theorem d260_129 : decode (m_code 260) 129 = .ok (.bipush 8, 2) := by decide +kernel
theorem d260_131 : decode (m_code 260) 131 = .ok (.iload 4, 2) := by decide +kernel
theorem d260_133 : decode (m_code 260) 133 = .ok (.iadd, 1) := by decide +kernel
theorem d260_134 : decode (m_code 260) 134 = .ok (.iaload, 1) := by decide +kernel
theorem d260_135 : decode (m_code 260) 135 = .ok (.ifCond .ne 12, 3) := by decide +kernel
theorem d260_138 : decode (m_code 260) 138 = .ok (.aload_n 0, 1) := by decide +kernel
theorem d260_139 : decode (m_code 260) 139 = .ok (.iconst 0, 1) := by decide +kernel
theorem d260_140 : decode (m_code 260) 140 = .ok (.iload_n 3, 1) := by decide +kernel
theorem d260_141 : decode (m_code 260) 141 = .ok (.invokevirtual 135, 3) := by decide +kernel
theorem d260_144 : decode (m_code 260) 144 = .ok (.goto 4, 3) := by decide +kernel
theorem d260_147 : decode (m_code 260) 147 = .ok (.iconst 0, 1) := by decide +kernel
theorem d260_148 : decode (m_code 260) 148 = .ok (.iadd, 1) := by decide +kernel
theorem d260_149 : decode (m_code 260) 149 = .ok (.istore_n 1, 1) := by decide +kernel
theorem d260_150 : decode (m_code 260) 150 = .ok (.iinc 2 1, 3) := by decide +kernel
theorem d260_153 : decode (m_code 260) 153 = .ok (.goto (-149), 3) := by decide +kernel
theorem d260_156 : decode (m_code 260) 156 = .ok (.iload_n 1, 1) := by decide +kernel
theorem d260_157 : decode (m_code 260) 157 = .ok (.ireturn, 1) := by decide +kernel
/-- one room's minute -/
def F_rw1 (s : Nat → Int32) (r nG : Nat) : Nat → Int32 :=
  if 0 < F_gi s (nI r) nG then upd (upd (upd s (20 + 6 * r + 2) (s (20 + 6 * r + 2) + nI 1)) (20 + 6 * r + 3) (nI 0)) (20 + 6 * r + 5) (s (20 + 6 * r + 5) + nI 1)
  else upd (upd (upd s (20 + 6 * r + 2) (nI 0)) (20 + 6 * r + 3) (s (20 + 6 * r + 3) + nI 1)) (20 + 6 * r + 4) (if s (20 + 6 * r + 3) + nI 1 ≤ s (20 + 6 * r + 4) then s (20 + 6 * r + 4) else s (20 + 6 * r + 3) + nI 1)
def F_rw (s : Nat → Int32) (nG : Nat) : Nat → (Nat → Int32)
  | 0 => s
  | r + 1 => F_rw1 (F_rw s nG r) r nG
def F_rwb (s : Nat → Int32) (nG : Nat) : Nat → Int32
  | 0 => nI 0
  | r + 1 => if 0 < F_gi (F_rw s nG r) (nI r) nG then F_rwb s nG r ||| (nI 1 <<< (nI r &&& 31)) else F_rwb s nG r
theorem F_rw1_lo {s : Nat → Int32} {r nG i : Nat} (hr : r < 12) (hi : i < 20 + 6 * r ∨ 26 + 6 * r ≤ i) : F_rw1 s r nG i = s i := by
  unfold F_rw1
  split <;> rw [upd_ne (by omega), upd_ne (by omega), upd_ne (by omega)]
theorem F_rw_lo {s : Nat → Int32} {nG k i : Nat} (hk : k ≤ 12) (hi : i < 20 ∨ 92 ≤ i) : F_rw s nG k i = s i := by
  induction k with
  | zero => rfl
  | succ k ih => rw [F_rw, F_rw1_lo (by omega) (by omega), ih (by omega)]
abbrev F_watch (s : Nat → Int32) (nR nG mi : Nat) : Nat → Int32 := upd (F_rw s nG nR) (578 + mi) (F_rwb s nG nR)
theorem c_watch_l {X : mX}  {h0 : mH} {R : Nat → Nat → Int32} {σ : Nat → Int32} {nR nG mi : Nat} (hr : σ 2 = nI nR) (hr12 : nR ≤ 12) (hg : σ 4 = nI nG) (hG : nG ≤ 4) (hmi : σ 0 = nI mi) (hmi2 : mi < 720) : ∀ (d : Nat) (k : Nat) (h : mH) (a : Int32) (l3 : Option Value), nR - k = d → k ≤ nR → Ms h R (F_rw σ nG k) → Frm h0 h 313 8 → a = F_rwb σ nG k → m_wp X 259 4 [some (.ref 313), some (.int (a)), some (.int (nI k)), l3] [] h (fun w h1 => w = none ∧ Ms h1 R (F_watch σ nR nG mi) ∧ Frm h0 h1 313 8) := by
  intro d
  induction d using Nat.strongRecOn with
  | ind d ih =>
    intro k h a l3 hd hk hR hF ha
    refine wp_iload_n d259_4 rfl ?_
    refine wp_aload_n d259_5 rfl ?_
    refine wp_getf (e := 7) (ci := 12) (k := 0) (nest := false) d259_6 (by decide +kernel) (md_0 hR) rfl ?_
    refine wp_iconst d259_9 (v := nI 2) (by decide) ?_
    refine wp_iald d259_10 (md_1 hR) (nI_in (by omega) (by decide)) (v := nI nR) ((congrArg ((F_rw σ nG k)) (nI_nat (by omega))).trans ((F_rw_lo (by omega) (by omega)).trans hr)) ?_
    refine wp_icmp_ge d259_11 (tgt := 145) (by decide) (fun hc11 => ?_) (fun hc11 => ?_)
    · have hc11 : nR ≤ k := (nI_leI (by omega) (by omega)).mp hc11
      refine wp_aload_n d259_145 rfl ?_
      refine wp_getf (e := 7) (ci := 12) (k := 0) (nest := false) d259_146 (by decide +kernel) (md_0 hR) rfl ?_
      refine wp_sipush d259_149 (v := nI 578) (by decide) ?_
      refine wp_aload_n d259_152 rfl ?_
      refine wp_getf (e := 7) (ci := 12) (k := 0) (nest := false) d259_153 (by decide +kernel) (md_0 hR) rfl ?_
      refine wp_iconst d259_156 (v := nI 0) (by decide) ?_
      refine wp_iald d259_157 (md_1 hR) (nI_in (by omega) (by decide)) (v := nI mi) ((congrArg ((F_rw σ nG k)) (nI_nat (by omega))).trans ((F_rw_lo (by omega) (by omega)).trans hmi)) ?_
      refine wp_iaddv d259_158 (v := nI (578 + mi)) (nI_add _ _) ?_
      refine wp_iload_n d259_159 rfl ?_
      refine wp_stS d259_160 hR hF (k := 578 + mi) (by omega) (fun h hR hF => ?_)
      refine wp_vret d259_161 (by decide +kernel) ?_
      exact ⟨rfl, by show Ms h R (upd (F_rw σ nG nR) (578 + mi) (F_rwb σ nG nR)); rw [show nR = k by omega, ← ha]; exact hR, hF⟩
    · have hc11 : ¬ (nR ≤ k) := fun z => hc11 ((nI_leI (by omega) (by omega)).mpr z)
      refine wp_bipush d259_14 (v := nI 20) (by decide) ?_
      refine wp_bipush d259_16 (v := nI 6) (by decide) ?_
      refine wp_iload_n d259_18 rfl ?_
      refine wp_imulv d259_19 (v := nI (6 * k)) (nI_mul _ _) ?_
      refine wp_iaddv d259_20 (v := nI (20 + 6 * k)) (nI_add _ _) ?_
      refine wp_istore_n d259_21 (Nat.le_of_ble_eq_true rfl) rfl ?_
      refine wp_aload_n d259_22 rfl ?_
      refine wp_iload_n d259_23 rfl ?_
      refine wp_invvT (e := 119) (j2 := 247) (n := 1) d259_24 (by decide +kernel) (by decide +kernel) rfl rfl rfl (md_0 hR) (by decide +kernel) (Nat.le_of_ble_eq_true rfl) rfl rfl (Nat.le_of_ble_eq_true rfl) (by decide +kernel) (show Tells X 247 _ h (nI (F_gi (F_rw σ nG k) (nI k) nG)) from c_guardsIn (σ := F_rw σ nG k) hR ((F_rw_lo (by omega) (by omega)).trans hg) hG (nI k)) ?_
      refine wp_if_le d259_27 (tgt := 72) (by decide) (fun hc27 => ?_) (fun hc27 => ?_)
      · have hc27 : ¬ 0 < F_gi (F_rw σ nG k) (nI k) nG := fun z => nI_nle z (by have := F_gi_le (F_rw σ nG k) (nI k) nG; omega) hc27
        refine wp_aload_n d259_72 rfl ?_
        refine wp_getf (e := 7) (ci := 12) (k := 0) (nest := false) d259_73 (by decide +kernel) (md_0 hR) rfl ?_
        refine wp_iload_n d259_76 rfl ?_
        refine wp_iconst d259_77 (v := nI 2) (by decide) ?_
        refine wp_iaddv d259_78 (v := nI (20 + 6 * k + 2)) (nI_add _ _) ?_
        refine wp_iconst d259_79 (v := nI 0) (by decide) ?_
        refine wp_stS d259_80 hR hF (k := 20 + 6 * k + 2) (by omega) (fun h hR hF => ?_)
        refine wp_aload_n d259_81 rfl ?_
        refine wp_getf (e := 7) (ci := 12) (k := 0) (nest := false) d259_82 (by decide +kernel) (md_0 hR) rfl ?_
        refine wp_iload_n d259_85 rfl ?_
        refine wp_iconst d259_86 (v := nI 3) (by decide) ?_
        refine wp_iaddv d259_87 (v := nI (20 + 6 * k + 3)) (nI_add _ _) ?_
        refine wp_dup2 d259_88 rfl rfl ?_
        refine wp_iald d259_89 (md_1 hR) (nI_in (by omega) (by decide)) (v := ((F_rw σ nG k)) (20 + 6 * k + 3)) ((congrArg ((upd (F_rw σ nG k) (20 + 6 * k + 2) (nI 0))) (nI_nat (by omega))).trans ((upd_ne (by omega)).trans rfl)) ?_
        refine wp_iconst d259_90 (v := nI 1) (by decide) ?_
        refine wp_iadd d259_91 ?_
        refine wp_stS d259_92 hR hF (k := 20 + 6 * k + 3) (by omega) (fun h hR hF => ?_)
        refine wp_aload_n d259_93 rfl ?_
        refine wp_getf (e := 7) (ci := 12) (k := 0) (nest := false) d259_94 (by decide +kernel) (md_0 hR) rfl ?_
        refine wp_iload_n d259_97 rfl ?_
        refine wp_iconst d259_98 (v := nI 4) (by decide) ?_
        refine wp_iaddv d259_99 (v := nI (20 + 6 * k + 4)) (nI_add _ _) ?_
        refine wp_aload_n d259_100 rfl ?_
        refine wp_getf (e := 7) (ci := 12) (k := 0) (nest := false) d259_101 (by decide +kernel) (md_0 hR) rfl ?_
        refine wp_iload_n d259_104 rfl ?_
        refine wp_iconst d259_105 (v := nI 3) (by decide) ?_
        refine wp_iaddv d259_106 (v := nI (20 + 6 * k + 3)) (nI_add _ _) ?_
        refine wp_iald d259_107 (md_1 hR) (nI_in (by omega) (by decide)) (v := (((F_rw σ nG k)) (20 + 6 * k + 3) + (nI 1))) ((congrArg ((upd (upd (F_rw σ nG k) (20 + 6 * k + 2) (nI 0)) (20 + 6 * k + 3) ((((F_rw σ nG k)) (20 + 6 * k + 3) + (nI 1))))) (nI_nat (by omega))).trans upd_eq) ?_
        refine wp_aload_n d259_108 rfl ?_
        refine wp_getf (e := 7) (ci := 12) (k := 0) (nest := false) d259_109 (by decide +kernel) (md_0 hR) rfl ?_
        refine wp_iload_n d259_112 rfl ?_
        refine wp_iconst d259_113 (v := nI 4) (by decide) ?_
        refine wp_iaddv d259_114 (v := nI (20 + 6 * k + 4)) (nI_add _ _) ?_
        refine wp_iald d259_115 (md_1 hR) (nI_in (by omega) (by decide)) (v := ((F_rw σ nG k)) (20 + 6 * k + 4)) ((congrArg ((upd (upd (F_rw σ nG k) (20 + 6 * k + 2) (nI 0)) (20 + 6 * k + 3) ((((F_rw σ nG k)) (20 + 6 * k + 3) + (nI 1))))) (nI_nat (by omega))).trans ((upd_ne (by omega)).trans ((upd_ne (by omega)).trans rfl))) ?_
        refine wp_icmp_le d259_116 (tgt := 130) (by decide) (fun hc116 => ?_) (fun hc116 => ?_)
        · refine wp_aload_n d259_130 rfl ?_
          refine wp_getf (e := 7) (ci := 12) (k := 0) (nest := false) d259_131 (by decide +kernel) (md_0 hR) rfl ?_
          refine wp_iload_n d259_134 rfl ?_
          refine wp_iconst d259_135 (v := nI 4) (by decide) ?_
          refine wp_iaddv d259_136 (v := nI (20 + 6 * k + 4)) (nI_add _ _) ?_
          refine wp_iald d259_137 (md_1 hR) (nI_in (by omega) (by decide)) (v := ((F_rw σ nG k)) (20 + 6 * k + 4)) ((congrArg ((upd (upd (F_rw σ nG k) (20 + 6 * k + 2) (nI 0)) (20 + 6 * k + 3) ((((F_rw σ nG k)) (20 + 6 * k + 3) + (nI 1))))) (nI_nat (by omega))).trans ((upd_ne (by omega)).trans ((upd_ne (by omega)).trans rfl))) ?_
          refine wp_stS d259_138 hR hF (k := 20 + 6 * k + 4) (by omega) (fun h hR hF => ?_)
          refine wp_iinc d259_139 rfl (v := nI (k + 1)) (nI_add _ 1) (Nat.le_of_ble_eq_true rfl) rfl ?_
          refine wp_goto d259_142 (tgt := 4) (by decide) ?_
          exact ih (nR - (k + 1)) (by omega) (k + 1) h _ _ rfl (by omega) (by simp only [F_rw, F_rw1]; rw [if_neg hc27, if_pos hc116]; exact hR) hF (by simp only [F_rwb]; rw [if_neg hc27]; rw [ha])
        · refine wp_aload_n d259_119 rfl ?_
          refine wp_getf (e := 7) (ci := 12) (k := 0) (nest := false) d259_120 (by decide +kernel) (md_0 hR) rfl ?_
          refine wp_iload_n d259_123 rfl ?_
          refine wp_iconst d259_124 (v := nI 3) (by decide) ?_
          refine wp_iaddv d259_125 (v := nI (20 + 6 * k + 3)) (nI_add _ _) ?_
          refine wp_iald d259_126 (md_1 hR) (nI_in (by omega) (by decide)) (v := (((F_rw σ nG k)) (20 + 6 * k + 3) + (nI 1))) ((congrArg ((upd (upd (F_rw σ nG k) (20 + 6 * k + 2) (nI 0)) (20 + 6 * k + 3) ((((F_rw σ nG k)) (20 + 6 * k + 3) + (nI 1))))) (nI_nat (by omega))).trans upd_eq) ?_
          refine wp_goto d259_127 (tgt := 138) (by decide) ?_
          refine wp_stS d259_138 hR hF (k := 20 + 6 * k + 4) (by omega) (fun h hR hF => ?_)
          refine wp_iinc d259_139 rfl (v := nI (k + 1)) (nI_add _ 1) (Nat.le_of_ble_eq_true rfl) rfl ?_
          refine wp_goto d259_142 (tgt := 4) (by decide) ?_
          exact ih (nR - (k + 1)) (by omega) (k + 1) h _ _ rfl (by omega) (by simp only [F_rw, F_rw1]; rw [if_neg hc27, if_neg hc116]; exact hR) hF (by simp only [F_rwb]; rw [if_neg hc27]; rw [ha])
      · have hc27 : 0 < F_gi (F_rw σ nG k) (nI k) nG := by
          rcases Nat.eq_zero_or_pos (F_gi (F_rw σ nG k) (nI k) nG) with z | z
          · rw [z] at hc27; exact absurd (by decide) hc27
          · exact z
        refine wp_iload_n d259_30 rfl ?_
        refine wp_iconst d259_31 (v := nI 1) (by decide) ?_
        refine wp_iload_n d259_32 rfl ?_
        refine wp_ishl d259_33 ?_
        refine wp_ior d259_34 ?_
        refine wp_istore_n d259_35 (Nat.le_of_ble_eq_true rfl) rfl ?_
        refine wp_aload_n d259_36 rfl ?_
        refine wp_getf (e := 7) (ci := 12) (k := 0) (nest := false) d259_37 (by decide +kernel) (md_0 hR) rfl ?_
        refine wp_iload_n d259_40 rfl ?_
        refine wp_iconst d259_41 (v := nI 2) (by decide) ?_
        refine wp_iaddv d259_42 (v := nI (20 + 6 * k + 2)) (nI_add _ _) ?_
        refine wp_dup2 d259_43 rfl rfl ?_
        refine wp_iald d259_44 (md_1 hR) (nI_in (by omega) (by decide)) (v := ((F_rw σ nG k)) (20 + 6 * k + 2)) ((congrArg ((F_rw σ nG k)) (nI_nat (by omega))).trans rfl) ?_
        refine wp_iconst d259_45 (v := nI 1) (by decide) ?_
        refine wp_iadd d259_46 ?_
        refine wp_stS d259_47 hR hF (k := 20 + 6 * k + 2) (by omega) (fun h hR hF => ?_)
        refine wp_aload_n d259_48 rfl ?_
        refine wp_getf (e := 7) (ci := 12) (k := 0) (nest := false) d259_49 (by decide +kernel) (md_0 hR) rfl ?_
        refine wp_iload_n d259_52 rfl ?_
        refine wp_iconst d259_53 (v := nI 3) (by decide) ?_
        refine wp_iaddv d259_54 (v := nI (20 + 6 * k + 3)) (nI_add _ _) ?_
        refine wp_iconst d259_55 (v := nI 0) (by decide) ?_
        refine wp_stS d259_56 hR hF (k := 20 + 6 * k + 3) (by omega) (fun h hR hF => ?_)
        refine wp_aload_n d259_57 rfl ?_
        refine wp_getf (e := 7) (ci := 12) (k := 0) (nest := false) d259_58 (by decide +kernel) (md_0 hR) rfl ?_
        refine wp_iload_n d259_61 rfl ?_
        refine wp_iconst d259_62 (v := nI 5) (by decide) ?_
        refine wp_iaddv d259_63 (v := nI (20 + 6 * k + 5)) (nI_add _ _) ?_
        refine wp_dup2 d259_64 rfl rfl ?_
        refine wp_iald d259_65 (md_1 hR) (nI_in (by omega) (by decide)) (v := ((F_rw σ nG k)) (20 + 6 * k + 5)) ((congrArg ((upd (upd (F_rw σ nG k) (20 + 6 * k + 2) ((((F_rw σ nG k)) (20 + 6 * k + 2) + (nI 1)))) (20 + 6 * k + 3) (nI 0))) (nI_nat (by omega))).trans ((upd_ne (by omega)).trans ((upd_ne (by omega)).trans rfl))) ?_
        refine wp_iconst d259_66 (v := nI 1) (by decide) ?_
        refine wp_iadd d259_67 ?_
        refine wp_stS d259_68 hR hF (k := 20 + 6 * k + 5) (by omega) (fun h hR hF => ?_)
        refine wp_goto d259_69 (tgt := 139) (by decide) ?_
        refine wp_iinc d259_139 rfl (v := nI (k + 1)) (nI_add _ 1) (Nat.le_of_ble_eq_true rfl) rfl ?_
        refine wp_goto d259_142 (tgt := 4) (by decide) ?_
        exact ih (nR - (k + 1)) (by omega) (k + 1) h _ _ rfl (by omega) (by simp only [F_rw, F_rw1]; rw [if_pos hc27]; exact hR) hF (by simp only [F_rwb]; rw [if_pos hc27]; rw [ha])
theorem c_watch {X : mX} {h : mH} {R : Nat → Nat → Int32} {σ : Nat → Int32} (hR : Ms h R σ) {nR nG mi : Nat} (hr : σ 2 = nI nR) (hr12 : nR ≤ 12) (hg : σ 4 = nI nG) (hG : nG ≤ 4) (hmi : σ 0 = nI mi) (hmi2 : mi < 720) : Does X 259 [.ref 313] h (R) (F_watch σ nR nG mi) none := by
  have hF : Frm h h 313 8 := Frm.rf
  refine wp_iconst d259_0 (v := nI 0) (by decide) ?_
  refine wp_istore_n d259_1 (Nat.le_of_ble_eq_true rfl) rfl ?_
  refine wp_iconst d259_2 (v := nI 0) (by decide) ?_
  refine wp_istore_n d259_3 (Nat.le_of_ble_eq_true rfl) rfl ?_
  exact c_watch_l hr hr12 hg hG hmi hmi2 _ 0 h _ _ rfl (by omega) hR hF rfl
abbrev G_arr (s : Nat → Int32) (g t mi : Nat) : Nat → Int32 := G_set (G_set (G_set (G_set (G_set (G_set s g 2 (s (192 + 10 * g + 2) - nI 1)) g 0 (nI t)) g 1 (-5)) g 3 (s (192 + 10 * g + 4))) g 9 (nI (mi + 1))) g 8 (s (192 + 10 * g + 8) + nI 1)
/-- whether the guard g comes this minute to a room of a zone that is closed -/
abbrev F_ring (s : Nat → Int32) (t : Nat) : Prop := 0 ≤ s (20 + 6 * t + 0) ∧ s (8 + (s (20 + 6 * t + 0)).toNatClampNeg) = 0
def F_gw1 (s : Nat → Int32) (g : Nat) : Nat → Int32 :=
  if s (192 + 10 * g + 0) < 0 then
    (if s (192 + 10 * g + 2) - nI 1 = 0 then
      (if F_ring s (s (192 + 10 * g + 1)).toNatClampNeg then F_al (G_arr s g (s (192 + 10 * g + 1)).toNatClampNeg (s 0).toNatClampNeg) (s 6).toNatClampNeg (nI 0) (s (192 + 10 * g + 1))
       else G_arr s g (s (192 + 10 * g + 1)).toNatClampNeg (s 0).toNatClampNeg)
     else G_set s g 2 (s (192 + 10 * g + 2) - nI 1))
  else s
def F_gwc (s : Nat → Int32) (g : Nat) : Nat :=
  if s (192 + 10 * g + 0) < 0 then (if s (192 + 10 * g + 2) - nI 1 = 0 then (if F_ring s (s (192 + 10 * g + 1)).toNatClampNeg then 1 else 0) else 0) else 0
def F_gw (s : Nat → Int32) : Nat → (Nat → Int32)
  | 0 => s
  | g + 1 => F_gw1 (F_gw s g) g
def F_gwn (s : Nat → Int32) : Nat → Nat
  | 0 => 0
  | g + 1 => F_gwn s g + F_gwc (F_gw s g) g
def P_gw (s : Nat → Int32) (g nG : Nat) : Prop :=
  (∃ mi, mi < 720 ∧ s 0 = nI mi) ∧ s 4 = nI nG ∧ (∃ nA, nA ≤ 40 ∧ s 6 = nI nA) ∧ (s (192 + 10 * g + 0) < 0 → ∃ t, t < 12 ∧ s (192 + 10 * g + 1) = nI t ∧ (s (20 + 6 * t + 0) < 0 ∨ ∃ z, z < 6 ∧ s (20 + 6 * t + 0) = nI z))
theorem c_guardsWalk_l {X : mX}  {h0 : mH} {R : Nat → Nat → Int32} {σ : Nat → Int32} {nG : Nat} (hG : nG ≤ 4) (hP : ∀ k, k ≤ nG → P_gw (F_gw σ k) k nG) : ∀ (d : Nat) (k : Nat) (h : mH) (a : Nat) (l3 l4 : Option Value), nG - k = d → k ≤ nG → Ms h R (F_gw σ k) → Frm h0 h 313 8 → a = F_gwn σ k → m_wp X 260 4 [some (.ref 313), some (.int (nI a)), some (.int (nI k)), l3, l4] [] h (fun w h1 => w = some (.int (nI (F_gwn σ nG))) ∧ Ms h1 R (F_gw σ nG) ∧ Frm h0 h1 313 8) := by
  intro d
  induction d using Nat.strongRecOn with
  | ind d ih =>
    intro k h a l3 l4 hd hk hR hF ha
    refine wp_iload_n d260_4 rfl ?_
    refine wp_aload_n d260_5 rfl ?_
    refine wp_getf (e := 7) (ci := 12) (k := 0) (nest := false) d260_6 (by decide +kernel) (md_0 hR) rfl ?_
    refine wp_iconst d260_9 (v := nI 4) (by decide) ?_
    refine wp_iald d260_10 (md_1 hR) (nI_in (by omega) (by decide)) (v := nI nG) ((congrArg ((F_gw σ k)) (nI_nat (by omega))).trans (hP k (by omega)).2.1) ?_
    refine wp_icmp_ge d260_11 (tgt := 156) (by decide) (fun hc11 => ?_) (fun hc11 => ?_)
    · have hc11 : nG ≤ k := (nI_leI (by omega) (by omega)).mp hc11
      refine wp_iload_n d260_156 rfl ?_
      refine wp_iret d260_157 (by decide +kernel) ?_
      exact ⟨by rw [show nG = k by omega, ← ha], by rw [show nG = k by omega]; exact hR, hF⟩
    · have hc11 : ¬ (nG ≤ k) := fun z => hc11 ((nI_leI (by omega) (by omega)).mpr z)
      refine wp_aload_n d260_14 rfl ?_
      refine wp_iload_n d260_15 rfl ?_
      refine wp_iconst d260_16 (v := nI 0) (by decide) ?_
      refine wp_invvT (e := 81) (j2 := 227) (n := 2) d260_17 (by decide +kernel) (by decide +kernel) rfl rfl rfl (md_0 hR) (by decide +kernel) (Nat.le_of_ble_eq_true rfl) rfl rfl (Nat.le_of_ble_eq_true rfl) (by decide +kernel) (c_guardPart hR (r := k) (p := 0) (by omega) (by omega)) ?_
      refine wp_if_ge d260_20 (tgt := 150) (by decide) (fun hc20 => ?_) (fun hc20 => ?_)
      · refine wp_iinc d260_150 rfl (v := nI (k + 1)) (nI_add _ 1) (Nat.le_of_ble_eq_true rfl) rfl ?_
        refine wp_goto d260_153 (tgt := 4) (by decide) ?_
        exact ih (nG - (k + 1)) (by omega) (k + 1) h _ _ _ rfl (by omega) (by simp only [F_gw, F_gw1]; rw [if_neg (Int32.not_lt.mpr hc20)]; exact hR) hF (by simp only [F_gwn, F_gwc]; rw [if_neg (Int32.not_lt.mpr hc20)]; omega)
      · have hc20 := Int32.not_le.mp hc20
        obtain ⟨t, ht, ht2, hz⟩ := (hP k (by omega)).2.2.2 hc20
        obtain ⟨mi, hmi2, hmi⟩ := (hP k (by omega)).1
        obtain ⟨nA, hA40, hA⟩ := (hP k (by omega)).2.2.1
        refine wp_aload_n d260_23 rfl ?_
        refine wp_iload_n d260_24 rfl ?_
        refine wp_iconst d260_25 (v := nI 2) (by decide) ?_
        refine wp_aload_n d260_26 rfl ?_
        refine wp_iload_n d260_27 rfl ?_
        refine wp_iconst d260_28 (v := nI 2) (by decide) ?_
        refine wp_invvT (e := 81) (j2 := 227) (n := 2) d260_29 (by decide +kernel) (by decide +kernel) rfl rfl rfl (md_0 hR) (by decide +kernel) (Nat.le_of_ble_eq_true rfl) rfl rfl (Nat.le_of_ble_eq_true rfl) (by decide +kernel) (c_guardPart hR (r := k) (p := 2) (by omega) (by omega)) ?_
        refine wp_iconst d260_32 (v := nI 1) (by decide) ?_
        refine wp_isub d260_33 ?_
        refine wp_invvD (e := 87) (j2 := 230) (n := 3) d260_34 (by decide +kernel) (by decide +kernel) rfl rfl rfl (md_0 hR) (by decide +kernel) (Nat.le_of_ble_eq_true rfl) rfl rfl (Nat.le_of_ble_eq_true rfl) (by decide +kernel) (c_setGuard hR (g := k) (p := 2) (by omega) (by omega) (((F_gw σ k) (192 + 10 * k + 2) - (nI 1)))) hF ?_
        intro h hR hF
        refine wp_aload_n d260_37 rfl ?_
        refine wp_iload_n d260_38 rfl ?_
        refine wp_iconst d260_39 (v := nI 2) (by decide) ?_
        refine wp_invvT (e := 81) (j2 := 227) (n := 2) d260_40 (by decide +kernel) (by decide +kernel) rfl rfl rfl (md_0 hR) (by decide +kernel) (Nat.le_of_ble_eq_true rfl) rfl rfl (Nat.le_of_ble_eq_true rfl) (by decide +kernel) (tells_eq (c_guardPart hR (r := k) (p := 2) (by omega) (by omega)) upd_eq) ?_
        refine wp_if_ne d260_43 (tgt := 150) (by decide) (fun hc43 => ?_) (fun hc43 => ?_)
        · refine wp_iinc d260_150 rfl (v := nI (k + 1)) (nI_add _ 1) (Nat.le_of_ble_eq_true rfl) rfl ?_
          refine wp_goto d260_153 (tgt := 4) (by decide) ?_
          exact ih (nG - (k + 1)) (by omega) (k + 1) h _ _ _ rfl (by omega) (by simp only [F_gw, F_gw1]; rw [if_pos hc20, if_neg hc43]; exact hR) hF (by simp only [F_gwn, F_gwc]; rw [if_pos hc20, if_neg hc43]; omega)
        · refine wp_aload_n d260_46 rfl ?_
          refine wp_iload_n d260_47 rfl ?_
          refine wp_iconst d260_48 (v := nI 1) (by decide) ?_
          refine wp_invvT (e := 81) (j2 := 227) (n := 2) d260_49 (by decide +kernel) (by decide +kernel) rfl rfl rfl (md_0 hR) (by decide +kernel) (Nat.le_of_ble_eq_true rfl) rfl rfl (Nat.le_of_ble_eq_true rfl) (by decide +kernel) (tells_eq (c_guardPart hR (r := k) (p := 1) (by omega) (by omega)) ((upd_ne (by omega)).trans ht2)) ?_
          refine wp_istore_n d260_52 (Nat.le_of_ble_eq_true rfl) rfl ?_
          refine wp_aload_n d260_53 rfl ?_
          refine wp_iload_n d260_54 rfl ?_
          refine wp_iconst d260_55 (v := nI 0) (by decide) ?_
          refine wp_iload_n d260_56 rfl ?_
          refine wp_invvD (e := 87) (j2 := 230) (n := 3) d260_57 (by decide +kernel) (by decide +kernel) rfl rfl rfl (md_0 hR) (by decide +kernel) (Nat.le_of_ble_eq_true rfl) rfl rfl (Nat.le_of_ble_eq_true rfl) (by decide +kernel) (c_setGuard hR (g := k) (p := 0) (by omega) (by omega) (nI t)) hF ?_
          intro h hR hF
          refine wp_aload_n d260_60 rfl ?_
          refine wp_iload_n d260_61 rfl ?_
          refine wp_iconst d260_62 (v := nI 1) (by decide) ?_
          refine wp_bipush d260_63 (v := (-5 : Int32)) (by decide) ?_
          refine wp_invvD (e := 87) (j2 := 230) (n := 3) d260_65 (by decide +kernel) (by decide +kernel) rfl rfl rfl (md_0 hR) (by decide +kernel) (Nat.le_of_ble_eq_true rfl) rfl rfl (Nat.le_of_ble_eq_true rfl) (by decide +kernel) (c_setGuard hR (g := k) (p := 1) (by omega) (by omega) ((-5 : Int32))) hF ?_
          intro h hR hF
          refine wp_aload_n d260_68 rfl ?_
          refine wp_iload_n d260_69 rfl ?_
          refine wp_iconst d260_70 (v := nI 3) (by decide) ?_
          refine wp_aload_n d260_71 rfl ?_
          refine wp_iload_n d260_72 rfl ?_
          refine wp_iconst d260_73 (v := nI 4) (by decide) ?_
          refine wp_invvT (e := 81) (j2 := 227) (n := 2) d260_74 (by decide +kernel) (by decide +kernel) rfl rfl rfl (md_0 hR) (by decide +kernel) (Nat.le_of_ble_eq_true rfl) rfl rfl (Nat.le_of_ble_eq_true rfl) (by decide +kernel) (tells_eq (c_guardPart hR (r := k) (p := 4) (by omega) (by omega)) ((upd_ne (by omega)).trans ((upd_ne (by omega)).trans ((upd_ne (by omega)).trans rfl)))) ?_
          refine wp_invvD (e := 87) (j2 := 230) (n := 3) d260_77 (by decide +kernel) (by decide +kernel) rfl rfl rfl (md_0 hR) (by decide +kernel) (Nat.le_of_ble_eq_true rfl) rfl rfl (Nat.le_of_ble_eq_true rfl) (by decide +kernel) (c_setGuard hR (g := k) (p := 3) (by omega) (by omega) (((F_gw σ k)) (192 + 10 * k + 4))) hF ?_
          intro h hR hF
          refine wp_aload_n d260_80 rfl ?_
          refine wp_iload_n d260_81 rfl ?_
          refine wp_bipush d260_82 (v := nI 9) (by decide) ?_
          refine wp_aload_n d260_84 rfl ?_
          refine wp_getf (e := 7) (ci := 12) (k := 0) (nest := false) d260_85 (by decide +kernel) (md_0 hR) rfl ?_
          refine wp_iconst d260_88 (v := nI 0) (by decide) ?_
          refine wp_iald d260_89 (md_1 hR) (nI_in (by omega) (by decide)) (v := nI mi) ((congrArg ((G_set (G_set (G_set (G_set (F_gw σ k) k 2 (((F_gw σ k) (192 + 10 * k + 2) - (nI 1)))) k 0 (nI t)) k 1 ((-5 : Int32))) k 3 (((F_gw σ k)) (192 + 10 * k + 4)))) (nI_nat (by omega))).trans ((upd_ne (by omega)).trans ((upd_ne (by omega)).trans ((upd_ne (by omega)).trans ((upd_ne (by omega)).trans hmi))))) ?_
          refine wp_iconst d260_90 (v := nI 1) (by decide) ?_
          refine wp_iaddv d260_91 (v := nI (mi + 1)) (nI_add _ _) ?_
          refine wp_invvD (e := 87) (j2 := 230) (n := 3) d260_92 (by decide +kernel) (by decide +kernel) rfl rfl rfl (md_0 hR) (by decide +kernel) (Nat.le_of_ble_eq_true rfl) rfl rfl (Nat.le_of_ble_eq_true rfl) (by decide +kernel) (c_setGuard hR (g := k) (p := 9) (by omega) (by omega) (nI (mi + 1))) hF ?_
          intro h hR hF
          refine wp_aload_n d260_95 rfl ?_
          refine wp_iload_n d260_96 rfl ?_
          refine wp_bipush d260_97 (v := nI 8) (by decide) ?_
          refine wp_aload_n d260_99 rfl ?_
          refine wp_iload_n d260_100 rfl ?_
          refine wp_bipush d260_101 (v := nI 8) (by decide) ?_
          refine wp_invvT (e := 81) (j2 := 227) (n := 2) d260_103 (by decide +kernel) (by decide +kernel) rfl rfl rfl (md_0 hR) (by decide +kernel) (Nat.le_of_ble_eq_true rfl) rfl rfl (Nat.le_of_ble_eq_true rfl) (by decide +kernel) (tells_eq (c_guardPart hR (r := k) (p := 8) (by omega) (by omega)) ((upd_ne (by omega)).trans ((upd_ne (by omega)).trans ((upd_ne (by omega)).trans ((upd_ne (by omega)).trans ((upd_ne (by omega)).trans rfl)))))) ?_
          refine wp_iconst d260_106 (v := nI 1) (by decide) ?_
          refine wp_iadd d260_107 ?_
          refine wp_invvD (e := 87) (j2 := 230) (n := 3) d260_108 (by decide +kernel) (by decide +kernel) rfl rfl rfl (md_0 hR) (by decide +kernel) (Nat.le_of_ble_eq_true rfl) rfl rfl (Nat.le_of_ble_eq_true rfl) (by decide +kernel) (c_setGuard hR (g := k) (p := 8) (by omega) (by omega) ((((F_gw σ k)) (192 + 10 * k + 8) + (nI 1)))) hF ?_
          intro h hR hF
          refine wp_aload_n d260_111 rfl ?_
          refine wp_iload_n d260_112 rfl ?_
          refine wp_iconst d260_113 (v := nI 0) (by decide) ?_
          refine wp_invvT (e := 63) (j2 := 219) (n := 2) d260_114 (by decide +kernel) (by decide +kernel) rfl rfl rfl (md_0 hR) (by decide +kernel) (Nat.le_of_ble_eq_true rfl) rfl rfl (Nat.le_of_ble_eq_true rfl) (by decide +kernel) (tells_eq (c_roomPart hR (r := t) (p := 0) (by omega) (by omega)) ((upd_ne (by omega)).trans ((upd_ne (by omega)).trans ((upd_ne (by omega)).trans ((upd_ne (by omega)).trans ((upd_ne (by omega)).trans ((upd_ne (by omega)).trans rfl))))))) ?_
          refine wp_istore d260_117 (Nat.le_of_ble_eq_true rfl) rfl ?_
          refine wp_iload_n d260_119 rfl ?_
          refine wp_iload d260_120 rfl ?_
          refine wp_if_lt d260_122 (tgt := 147) (by decide) (fun hc122 => ?_) (fun hc122 => ?_)
          · refine wp_iconst d260_147 (v := nI 0) (by decide) ?_
            refine wp_iaddv d260_148 (v := nI (a + 0)) (nI_add _ _) ?_
            refine wp_istore_n d260_149 (Nat.le_of_ble_eq_true rfl) rfl ?_
            refine wp_iinc d260_150 rfl (v := nI (k + 1)) (nI_add _ 1) (Nat.le_of_ble_eq_true rfl) rfl ?_
            refine wp_goto d260_153 (tgt := 4) (by decide) ?_
            exact ih (nG - (k + 1)) (by omega) (k + 1) h _ _ _ rfl (by omega) (by simp only [F_gw, F_gw1]; rw [if_pos hc20, if_pos hc43, ht2, nI_nat (by omega), if_neg (fun q => absurd hc122 (Int32.not_lt.mpr q.1))]; rw [hmi, nI_nat (by omega)]; exact hR) hF (by simp only [F_gwn, F_gwc]; rw [if_pos hc20, if_pos hc43, ht2, nI_nat (by omega), if_neg (fun q => absurd hc122 (Int32.not_lt.mpr q.1))]; omega)
          · obtain ⟨z, hz6, hz2⟩ := hz.resolve_left hc122
            rw [hz2] at hc122 ⊢
            refine wp_aload_n d260_125 rfl ?_
            refine wp_getf (e := 7) (ci := 12) (k := 0) (nest := false) d260_126 (by decide +kernel) (md_0 hR) rfl ?_
            refine wp_bipush d260_129 (v := nI 8) (by decide) ?_
            refine wp_iload d260_131 rfl ?_
            refine wp_iaddv d260_133 (v := nI (8 + z)) (nI_add _ _) ?_
            refine wp_iald d260_134 (md_1 hR) (nI_in (by omega) (by decide)) (v := ((F_gw σ k)) (8 + z)) ((congrArg ((G_set (G_set (G_set (G_set (G_set (G_set (F_gw σ k) k 2 (((F_gw σ k) (192 + 10 * k + 2) - (nI 1)))) k 0 (nI t)) k 1 ((-5 : Int32))) k 3 (((F_gw σ k)) (192 + 10 * k + 4))) k 9 (nI (mi + 1))) k 8 ((((F_gw σ k)) (192 + 10 * k + 8) + (nI 1))))) (nI_nat (by omega))).trans ((upd_ne (by omega)).trans ((upd_ne (by omega)).trans ((upd_ne (by omega)).trans ((upd_ne (by omega)).trans ((upd_ne (by omega)).trans ((upd_ne (by omega)).trans rfl))))))) ?_
            refine wp_if_ne d260_135 (tgt := 147) (by decide) (fun hc135 => ?_) (fun hc135 => ?_)
            · refine wp_iconst d260_147 (v := nI 0) (by decide) ?_
              refine wp_iaddv d260_148 (v := nI (a + 0)) (nI_add _ _) ?_
              refine wp_istore_n d260_149 (Nat.le_of_ble_eq_true rfl) rfl ?_
              refine wp_iinc d260_150 rfl (v := nI (k + 1)) (nI_add _ 1) (Nat.le_of_ble_eq_true rfl) rfl ?_
              refine wp_goto d260_153 (tgt := 4) (by decide) ?_
              exact ih (nG - (k + 1)) (by omega) (k + 1) h _ _ _ rfl (by omega) (by simp only [F_gw, F_gw1]; rw [if_pos hc20, if_pos hc43, ht2, nI_nat (by omega), if_neg (fun q => hc135 (by have := q.2; rw [hz2, nI_nat (by omega)] at this; exact this))]; rw [hmi, nI_nat (by omega)]; exact hR) hF (by simp only [F_gwn, F_gwc]; rw [if_pos hc20, if_pos hc43, ht2, nI_nat (by omega), if_neg (fun q => hc135 (by have := q.2; rw [hz2, nI_nat (by omega)] at this; exact this))]; omega)
            · refine wp_aload_n d260_138 rfl ?_
              refine wp_iconst d260_139 (v := nI 0) (by decide) ?_
              refine wp_iload_n d260_140 rfl ?_
              refine wp_invvDI (e := 135) (j2 := 261) (n := 2) d260_141 (by decide +kernel) (by decide +kernel) rfl rfl rfl (md_0 hR) (by decide +kernel) (Nat.le_of_ble_eq_true rfl) rfl rfl (Nat.le_of_ble_eq_true rfl) (by decide +kernel) (c_alarms hR (nA := nA) ((upd_ne (by omega)).trans ((upd_ne (by omega)).trans ((upd_ne (by omega)).trans ((upd_ne (by omega)).trans ((upd_ne (by omega)).trans ((upd_ne (by omega)).trans hA)))))) hA40 (nI 0) (nI t)) hF ?_
              intro h hR hF
              refine wp_goto d260_144 (tgt := 148) (by decide) ?_
              refine wp_iaddv d260_148 (v := nI (a + 1)) (nI_add _ _) ?_
              refine wp_istore_n d260_149 (Nat.le_of_ble_eq_true rfl) rfl ?_
              refine wp_iinc d260_150 rfl (v := nI (k + 1)) (nI_add _ 1) (Nat.le_of_ble_eq_true rfl) rfl ?_
              refine wp_goto d260_153 (tgt := 4) (by decide) ?_
              exact ih (nG - (k + 1)) (by omega) (k + 1) h _ _ _ rfl (by omega) (by simp only [F_gw, F_gw1]; rw [if_pos hc20, if_pos hc43, ht2, nI_nat (by omega), if_pos (by unfold F_ring; rw [hz2, nI_nat (by omega)]; exact ⟨nI_pos' (by omega), hc135⟩)]; rw [hA, hmi, nI_nat (by omega), nI_nat (by omega)]; exact hR) hF (by simp only [F_gwn, F_gwc]; rw [if_pos hc20, if_pos hc43, ht2, nI_nat (by omega), if_pos (by unfold F_ring; rw [hz2, nI_nat (by omega)]; exact ⟨nI_pos' (by omega), hc135⟩)]; omega)
theorem c_guardsWalk {X : mX} {h : mH} {R : Nat → Nat → Int32} {σ : Nat → Int32} (hR : Ms h R σ) {nG : Nat} (hG : nG ≤ 4) (hP : ∀ k, k ≤ nG → P_gw (F_gw σ k) k nG) : Does X 260 [.ref 313] h (R) (F_gw σ nG) (some (.int (nI (F_gwn σ nG)))) := by
  have hF : Frm h h 313 8 := Frm.rf
  refine wp_iconst d260_0 (v := nI 0) (by decide) ?_
  refine wp_istore_n d260_1 (Nat.le_of_ble_eq_true rfl) rfl ?_
  refine wp_iconst d260_2 (v := nI 0) (by decide) ?_
  refine wp_istore_n d260_3 (Nat.le_of_ble_eq_true rfl) rfl ?_
  exact c_guardsWalk_l hG hP _ 0 h 0 _ _ rfl (by omega) hR hF rfl
end
section
/-! The reference looks at a work. -/
theorem d262_0 : decode (m_code 262) 0 = .ok (.aload_n 0, 1) := by decide +kernel
theorem d262_1 : decode (m_code 262) 1 = .ok (.iload_n 1, 1) := by decide +kernel
theorem d262_2 : decode (m_code 262) 2 = .ok (.iconst 1, 1) := by decide +kernel
theorem d262_3 : decode (m_code 262) 3 = .ok (.invokevirtual 116, 3) := by decide +kernel
theorem d262_6 : decode (m_code 262) 6 = .ok (.istore_n 2, 1) := by decide +kernel
theorem d262_7 : decode (m_code 262) 7 = .ok (.aload_n 0, 1) := by decide +kernel
theorem d262_8 : decode (m_code 262) 8 = .ok (.iload_n 1, 1) := by decide +kernel
theorem d262_9 : decode (m_code 262) 9 = .ok (.iconst 0, 1) := by decide +kernel
theorem d262_10 : decode (m_code 262) 10 = .ok (.invokevirtual 116, 3) := by decide +kernel
theorem d262_13 : decode (m_code 262) 13 = .ok (.istore_n 3, 1) := by decide +kernel
theorem d262_14 : decode (m_code 262) 14 = .ok (.iload_n 3, 1) := by decide +kernel
theorem d262_15 : decode (m_code 262) 15 = .ok (.ifCond .ne 36, 3) := by decide +kernel
theorem d262_18 : decode (m_code 262) 18 = .ok (.aload_n 0, 1) := by decide +kernel
theorem d262_19 : decode (m_code 262) 19 = .ok (.getfield 7, 3) := by decide +kernel
theorem d262_22 : decode (m_code 262) 22 = .ok (.bipush 8, 2) := by decide +kernel
theorem d262_24 : decode (m_code 262) 24 = .ok (.aload_n 0, 1) := by decide +kernel
theorem d262_25 : decode (m_code 262) 25 = .ok (.iload_n 2, 1) := by decide +kernel
theorem d262_26 : decode (m_code 262) 26 = .ok (.iconst 0, 1) := by decide +kernel
theorem d262_27 : decode (m_code 262) 27 = .ok (.invokevirtual 63, 3) := by decide +kernel
theorem d262_30 : decode (m_code 262) 30 = .ok (.iadd, 1) := by decide +kernel
theorem d262_31 : decode (m_code 262) 31 = .ok (.iaload, 1) := by decide +kernel
theorem d262_32 : decode (m_code 262) 32 = .ok (.iconst 1, 1) := by decide +kernel
theorem d262_33 : decode (m_code 262) 33 = .ok (.if_icmp .ne 16, 3) := by decide +kernel
theorem d262_36 : decode (m_code 262) 36 = .ok (.aload_n 0, 1) := by decide +kernel
theorem d262_37 : decode (m_code 262) 37 = .ok (.iload_n 2, 1) := by decide +kernel
theorem d262_38 : decode (m_code 262) 38 = .ok (.iconst 2, 1) := by decide +kernel
theorem d262_39 : decode (m_code 262) 39 = .ok (.invokevirtual 63, 3) := by decide +kernel
theorem d262_42 : decode (m_code 262) 42 = .ok (.ifCond .ne 7, 3) := by decide +kernel
theorem d262_45 : decode (m_code 262) 45 = .ok (.iconst 1, 1) := by decide +kernel
theorem d262_46 : decode (m_code 262) 46 = .ok (.goto 4, 3) := by decide +kernel
theorem d262_49 : decode (m_code 262) 49 = .ok (.iconst 0, 1) := by decide +kernel
theorem d262_50 : decode (m_code 262) 50 = .ok (.ireturn, 1) := by decide +kernel
theorem d262_51 : decode (m_code 262) 51 = .ok (.aload_n 0, 1) := by decide +kernel
theorem d262_52 : decode (m_code 262) 52 = .ok (.iload_n 2, 1) := by decide +kernel
theorem d262_53 : decode (m_code 262) 53 = .ok (.iload_n 3, 1) := by decide +kernel
theorem d262_54 : decode (m_code 262) 54 = .ok (.iconst 1, 1) := by decide +kernel
theorem d262_55 : decode (m_code 262) 55 = .ok (.if_icmp .ne 7, 3) := by decide +kernel
theorem d262_58 : decode (m_code 262) 58 = .ok (.iconst 2, 1) := by decide +kernel
theorem d262_59 : decode (m_code 262) 59 = .ok (.goto 4, 3) := by decide +kernel
theorem d262_62 : decode (m_code 262) 62 = .ok (.iconst 3, 1) := by decide +kernel
theorem d262_63 : decode (m_code 262) 63 = .ok (.invokevirtual 63, 3) := by decide +kernel
theorem d262_66 : decode (m_code 262) 66 = .ok (.aload_n 0, 1) := by decide +kernel
theorem d262_67 : decode (m_code 262) 67 = .ok (.iload_n 1, 1) := by decide +kernel
theorem d262_68 : decode (m_code 262) 68 = .ok (.iconst 2, 1) := by decide +kernel
theorem d262_69 : decode (m_code 262) 69 = .ok (.invokevirtual 116, 3) := by decide +kernel
theorem d262_72 : decode (m_code 262) 72 = .ok (.if_icmp .le 7, 3) := by decide +kernel
theorem d262_75 : decode (m_code 262) 75 = .ok (.iconst 1, 1) := by decide +kernel
theorem d262_76 : decode (m_code 262) 76 = .ok (.goto 4, 3) := by decide +kernel
theorem d262_79 : decode (m_code 262) 79 = .ok (.iconst 0, 1) := by decide +kernel
theorem d262_80 : decode (m_code 262) 80 = .ok (.ireturn, 1) := by decide +kernel
theorem F_so_lo {σ : Nat → Int32} {g nD r m sn mi i : Nat} (hi : i < 92) : F_so σ g nD r m sn mi i = σ i := by
  unfold F_so
  split
  · simp only [G_halt, G_set]
    rw [upd_ne (by omega), upd_ne (by omega)]
  · simp only [G_go, G_set]
    rw [upd_ne (by omega), upd_ne (by omega), upd_ne (by omega), upd_ne (by omega), upd_ne (by omega), upd_ne (by omega), upd_ne (by omega), F_sh_lo (by omega)]
theorem F_gb1_lo {σ : Nat → Int32} {g nD i : Nat} (hi : i < 92) : F_gb1 σ g nD i = σ i := by
  unfold F_gb1
  split
  · simp only [G_set]
    rw [upd_ne (by omega)]
  · split
    · exact F_so_lo hi
    · rfl
theorem F_gb_lo {σ : Nat → Int32} {nD g i : Nat} (hi : i < 92) : F_gb σ nD g i = σ i := by
  induction g with
  | zero => rfl
  | succ g ih => rw [F_gb, F_gb1_lo hi, ih]
theorem F_al_lo {σ : Nat → Int32} {n i : Nat} {a b : Int32} (h6 : i ≠ 6) (h7 : i ≠ 7) (hi : i < 378 ∨ 578 ≤ i) (hn : n ≤ 40) : F_al σ n a b i = σ i := by
  unfold F_al
  split
  · rw [upd_ne (by omega)]
  · rw [upd_ne (by omega), upd_ne (by omega), upd_ne (by omega), upd_ne (by omega), upd_ne (by omega), upd_ne (by omega)]
theorem F_al_6 {σ : Nat → Int32} {n : Nat} {a b : Int32} (h : σ 6 = nI n) (hn : n ≤ 40) : ∃ n2, n2 ≤ 40 ∧ F_al σ n a b 6 = nI n2 := by
  unfold F_al
  split
  · exact ⟨n, hn, by rw [upd_ne (by omega), h]⟩
  · exact ⟨n + 1, by omega, upd_eq⟩
/-- whether a work is troubled -/
def F_tr (s : Nat → Int32) (w : Nat) : Prop :=
  if s (328 + 5 * w + 0) = 0 then s (8 + (s (20 + 6 * (s (328 + 5 * w + 1)).toNatClampNeg + 0)).toNatClampNeg) = nI 1 ∧ s (20 + 6 * (s (328 + 5 * w + 1)).toNatClampNeg + 2) = 0
  else s (328 + 5 * w + 2) < s (20 + 6 * (s (328 + 5 * w + 1)).toNatClampNeg + (if s (328 + 5 * w + 0) = nI 1 then 2 else 3))
def F_trb (s : Nat → Int32) (w : Nat) : Bool :=
  if s (328 + 5 * w + 0) = 0 then decide (s (8 + (s (20 + 6 * (s (328 + 5 * w + 1)).toNatClampNeg + 0)).toNatClampNeg) = nI 1) && decide (s (20 + 6 * (s (328 + 5 * w + 1)).toNatClampNeg + 2) = 0)
  else decide (s (328 + 5 * w + 2) < s (20 + 6 * (s (328 + 5 * w + 1)).toNatClampNeg + (if s (328 + 5 * w + 0) = nI 1 then 2 else 3)))
theorem c_isTroubled {X : mX} {h : mH} {R : Nat → Nat → Int32} {σ : Nat → Int32} (hR : Ms h R σ) {w p z : Nat} (hw : w < 10) (hp2 : σ (328 + 5 * w + 1) = nI p) (hp : p < 12) (hz2 : σ (20 + 6 * p + 0) = nI z) (hz : z < 6) : Tells X 262 [.ref 313, .int (nI w)] h (m_b (F_trb σ w = true)) := by
  refine wp_aload_n d262_0 rfl ?_
  refine wp_iload_n d262_1 rfl ?_
  refine wp_iconst d262_2 (v := nI 1) (by decide) ?_
  refine wp_invvT (e := 116) (j2 := 246) (n := 2) d262_3 (by decide +kernel) (by decide +kernel) rfl rfl rfl (md_0 hR) (by decide +kernel) (Nat.le_of_ble_eq_true rfl) rfl rfl (Nat.le_of_ble_eq_true rfl) (by decide +kernel) (tells_eq (c_workPart hR (r := w) (p := 1) (by omega) (by omega)) hp2) ?_
  refine wp_istore_n d262_6 (Nat.le_of_ble_eq_true rfl) rfl ?_
  refine wp_aload_n d262_7 rfl ?_
  refine wp_iload_n d262_8 rfl ?_
  refine wp_iconst d262_9 (v := nI 0) (by decide) ?_
  refine wp_invvT (e := 116) (j2 := 246) (n := 2) d262_10 (by decide +kernel) (by decide +kernel) rfl rfl rfl (md_0 hR) (by decide +kernel) (Nat.le_of_ble_eq_true rfl) rfl rfl (Nat.le_of_ble_eq_true rfl) (by decide +kernel) (c_workPart hR (r := w) (p := 0) (by omega) (by omega)) ?_
  refine wp_istore_n d262_13 (Nat.le_of_ble_eq_true rfl) rfl ?_
  refine wp_iload_n d262_14 rfl ?_
  refine wp_if_ne d262_15 (tgt := 51) (by decide) (fun hc15 => ?_) (fun hc15 => ?_)
  · refine wp_aload_n d262_51 rfl ?_
    refine wp_iload_n d262_52 rfl ?_
    refine wp_iload_n d262_53 rfl ?_
    refine wp_iconst d262_54 (v := nI 1) (by decide) ?_
    refine wp_icmp_ne d262_55 (tgt := 62) (by decide) (fun hc55 => ?_) (fun hc55 => ?_)
    · refine wp_iconst d262_62 (v := nI 3) (by decide) ?_
      refine wp_invvT (e := 63) (j2 := 219) (n := 2) d262_63 (by decide +kernel) (by decide +kernel) rfl rfl rfl (md_0 hR) (by decide +kernel) (Nat.le_of_ble_eq_true rfl) rfl rfl (Nat.le_of_ble_eq_true rfl) (by decide +kernel) (c_roomPart hR (r := p) (p := 3) (by omega) (by omega)) ?_
      refine wp_aload_n d262_66 rfl ?_
      refine wp_iload_n d262_67 rfl ?_
      refine wp_iconst d262_68 (v := nI 2) (by decide) ?_
      refine wp_invvT (e := 116) (j2 := 246) (n := 2) d262_69 (by decide +kernel) (by decide +kernel) rfl rfl rfl (md_0 hR) (by decide +kernel) (Nat.le_of_ble_eq_true rfl) rfl rfl (Nat.le_of_ble_eq_true rfl) (by decide +kernel) (c_workPart hR (r := w) (p := 2) (by omega) (by omega)) ?_
      refine wp_icmp_le d262_72 (tgt := 79) (by decide) (fun hc72 => ?_) (fun hc72 => ?_)
      · refine wp_iconst d262_79 (v := nI 0) (by decide) ?_
        refine wp_zret d262_80 (by decide +kernel) (by decide) ?_
        exact ⟨congrArg (fun z => some (Value.int z)) (m_b_f (by unfold F_trb; rw [if_neg hc15, hp2, nI_nat (by omega), if_neg hc55, decide_eq_true_eq]; exact Int32.not_lt.mpr hc72)).symm, rfl⟩
      · refine wp_iconst d262_75 (v := nI 1) (by decide) ?_
        refine wp_goto d262_76 (tgt := 80) (by decide) ?_
        refine wp_zret d262_80 (by decide +kernel) (by decide) ?_
        exact ⟨congrArg (fun z => some (Value.int z)) (m_b_t (by unfold F_trb; rw [if_neg hc15, hp2, nI_nat (by omega), if_neg hc55, decide_eq_true_eq]; exact Int32.not_le.mp hc72)).symm, rfl⟩
    · refine wp_iconst d262_58 (v := nI 2) (by decide) ?_
      refine wp_goto d262_59 (tgt := 63) (by decide) ?_
      refine wp_invvT (e := 63) (j2 := 219) (n := 2) d262_63 (by decide +kernel) (by decide +kernel) rfl rfl rfl (md_0 hR) (by decide +kernel) (Nat.le_of_ble_eq_true rfl) rfl rfl (Nat.le_of_ble_eq_true rfl) (by decide +kernel) (c_roomPart hR (r := p) (p := 2) (by omega) (by omega)) ?_
      refine wp_aload_n d262_66 rfl ?_
      refine wp_iload_n d262_67 rfl ?_
      refine wp_iconst d262_68 (v := nI 2) (by decide) ?_
      refine wp_invvT (e := 116) (j2 := 246) (n := 2) d262_69 (by decide +kernel) (by decide +kernel) rfl rfl rfl (md_0 hR) (by decide +kernel) (Nat.le_of_ble_eq_true rfl) rfl rfl (Nat.le_of_ble_eq_true rfl) (by decide +kernel) (c_workPart hR (r := w) (p := 2) (by omega) (by omega)) ?_
      refine wp_icmp_le d262_72 (tgt := 79) (by decide) (fun hc72 => ?_) (fun hc72 => ?_)
      · refine wp_iconst d262_79 (v := nI 0) (by decide) ?_
        refine wp_zret d262_80 (by decide +kernel) (by decide) ?_
        exact ⟨congrArg (fun z => some (Value.int z)) (m_b_f (by unfold F_trb; rw [if_neg hc15, hp2, nI_nat (by omega), if_pos hc55, decide_eq_true_eq]; exact Int32.not_lt.mpr hc72)).symm, rfl⟩
      · refine wp_iconst d262_75 (v := nI 1) (by decide) ?_
        refine wp_goto d262_76 (tgt := 80) (by decide) ?_
        refine wp_zret d262_80 (by decide +kernel) (by decide) ?_
        exact ⟨congrArg (fun z => some (Value.int z)) (m_b_t (by unfold F_trb; rw [if_neg hc15, hp2, nI_nat (by omega), if_pos hc55, decide_eq_true_eq]; exact Int32.not_le.mp hc72)).symm, rfl⟩
  · refine wp_aload_n d262_18 rfl ?_
    refine wp_getf (e := 7) (ci := 12) (k := 0) (nest := false) d262_19 (by decide +kernel) (md_0 hR) rfl ?_
    refine wp_bipush d262_22 (v := nI 8) (by decide) ?_
    refine wp_aload_n d262_24 rfl ?_
    refine wp_iload_n d262_25 rfl ?_
    refine wp_iconst d262_26 (v := nI 0) (by decide) ?_
    refine wp_invvT (e := 63) (j2 := 219) (n := 2) d262_27 (by decide +kernel) (by decide +kernel) rfl rfl rfl (md_0 hR) (by decide +kernel) (Nat.le_of_ble_eq_true rfl) rfl rfl (Nat.le_of_ble_eq_true rfl) (by decide +kernel) (tells_eq (c_roomPart hR (r := p) (p := 0) (by omega) (by omega)) hz2) ?_
    refine wp_iaddv d262_30 (v := nI (8 + z)) (nI_add _ _) ?_
    refine wp_iald d262_31 (md_1 hR) (nI_in (by omega) (by decide)) (v := σ (8 + z)) ((congrArg σ (nI_nat (by omega))).trans rfl) ?_
    refine wp_iconst d262_32 (v := nI 1) (by decide) ?_
    refine wp_icmp_ne d262_33 (tgt := 49) (by decide) (fun hc33 => ?_) (fun hc33 => ?_)
    · refine wp_iconst d262_49 (v := nI 0) (by decide) ?_
      refine wp_zret d262_50 (by decide +kernel) (by decide) ?_
      exact ⟨congrArg (fun z => some (Value.int z)) (m_b_f (by unfold F_trb; rw [if_pos hc15, hp2, nI_nat (by omega), hz2, nI_nat (by omega), Bool.and_eq_true, decide_eq_true_eq, decide_eq_true_eq]; exact fun q => hc33 q.1)).symm, rfl⟩
    · refine wp_aload_n d262_36 rfl ?_
      refine wp_iload_n d262_37 rfl ?_
      refine wp_iconst d262_38 (v := nI 2) (by decide) ?_
      refine wp_invvT (e := 63) (j2 := 219) (n := 2) d262_39 (by decide +kernel) (by decide +kernel) rfl rfl rfl (md_0 hR) (by decide +kernel) (Nat.le_of_ble_eq_true rfl) rfl rfl (Nat.le_of_ble_eq_true rfl) (by decide +kernel) (c_roomPart hR (r := p) (p := 2) (by omega) (by omega)) ?_
      refine wp_if_ne d262_42 (tgt := 49) (by decide) (fun hc42 => ?_) (fun hc42 => ?_)
      · refine wp_iconst d262_49 (v := nI 0) (by decide) ?_
        refine wp_zret d262_50 (by decide +kernel) (by decide) ?_
        exact ⟨congrArg (fun z => some (Value.int z)) (m_b_f (by unfold F_trb; rw [if_pos hc15, hp2, nI_nat (by omega), hz2, nI_nat (by omega), Bool.and_eq_true, decide_eq_true_eq, decide_eq_true_eq]; exact fun q => hc42 q.2)).symm, rfl⟩
      · refine wp_iconst d262_45 (v := nI 1) (by decide) ?_
        refine wp_goto d262_46 (tgt := 50) (by decide) ?_
        refine wp_zret d262_50 (by decide +kernel) (by decide) ?_
        exact ⟨congrArg (fun z => some (Value.int z)) (m_b_t (by unfold F_trb; rw [if_pos hc15, hp2, nI_nat (by omega), hz2, nI_nat (by omega), Bool.and_eq_true, decide_eq_true_eq, decide_eq_true_eq]; exact ⟨hc33, hc42⟩)).symm, rfl⟩
end
section
/-! The reference lets a minute pass. -/
theorem d255_0 : decode (m_code 255) 0 = .ok (.aload_n 0, 1) := by decide +kernel
theorem d255_1 : decode (m_code 255) 1 = .ok (.invokevirtual 138, 3) := by decide +kernel
theorem d255_4 : decode (m_code 255) 4 = .ok (.aload_n 0, 1) := by decide +kernel
theorem d255_5 : decode (m_code 255) 5 = .ok (.invokevirtual 141, 3) := by decide +kernel
theorem d255_8 : decode (m_code 255) 8 = .ok (.aload_n 0, 1) := by decide +kernel
theorem d255_9 : decode (m_code 255) 9 = .ok (.invokevirtual 144, 3) := by decide +kernel
theorem d255_12 : decode (m_code 255) 12 = .ok (.istore_n 1, 1) := by decide +kernel
theorem d255_13 : decode (m_code 255) 13 = .ok (.iconst 0, 1) := by decide +kernel
theorem d255_14 : decode (m_code 255) 14 = .ok (.istore_n 2, 1) := by decide +kernel
theorem d255_15 : decode (m_code 255) 15 = .ok (.iload_n 2, 1) := by decide +kernel
theorem d255_16 : decode (m_code 255) 16 = .ok (.aload_n 0, 1) := by decide +kernel
theorem d255_17 : decode (m_code 255) 17 = .ok (.getfield 7, 3) := by decide +kernel
theorem d255_20 : decode (m_code 255) 20 = .ok (.iconst 2, 1) := by decide +kernel
theorem d255_21 : decode (m_code 255) 21 = .ok (.iaload, 1) := by decide +kernel
theorem d255_22 : decode (m_code 255) 22 = .ok (.if_icmp .ge 58, 3) := by decide +kernel
theorem d255_25 : decode (m_code 255) 25 = .ok (.aload_n 0, 1) := by decide +kernel
theorem d255_26 : decode (m_code 255) 26 = .ok (.iload_n 2, 1) := by decide +kernel
theorem d255_27 : decode (m_code 255) 27 = .ok (.iconst 1, 1) := by decide +kernel
theorem d255_28 : decode (m_code 255) 28 = .ok (.invokevirtual 63, 3) := by decide +kernel
theorem d255_31 : decode (m_code 255) 31 = .ok (.ifCond .le 24, 3) := by decide +kernel
theorem d255_34 : decode (m_code 255) 34 = .ok (.aload_n 0, 1) := by decide +kernel
theorem d255_35 : decode (m_code 255) 35 = .ok (.iload_n 2, 1) := by decide +kernel
theorem d255_36 : decode (m_code 255) 36 = .ok (.iconst 3, 1) := by decide +kernel
theorem d255_37 : decode (m_code 255) 37 = .ok (.invokevirtual 63, 3) := by decide +kernel
theorem d255_40 : decode (m_code 255) 40 = .ok (.aload_n 0, 1) := by decide +kernel
theorem d255_41 : decode (m_code 255) 41 = .ok (.iload_n 2, 1) := by decide +kernel
theorem d255_42 : decode (m_code 255) 42 = .ok (.iconst 1, 1) := by decide +kernel
theorem d255_43 : decode (m_code 255) 43 = .ok (.invokevirtual 63, 3) := by decide +kernel
theorem d255_46 : decode (m_code 255) 46 = .ok (.iconst 1, 1) := by decide +kernel
theorem d255_47 : decode (m_code 255) 47 = .ok (.iadd, 1) := by decide +kernel
theorem d255_48 : decode (m_code 255) 48 = .ok (.if_icmp .ne 7, 3) := by decide +kernel
theorem d255_51 : decode (m_code 255) 51 = .ok (.iconst 1, 1) := by decide +kernel
theorem d255_52 : decode (m_code 255) 52 = .ok (.goto 4, 3) := by decide +kernel
theorem d255_55 : decode (m_code 255) 55 = .ok (.iconst 0, 1) := by decide +kernel
theorem d255_56 : decode (m_code 255) 56 = .ok (.istore_n 3, 1) := by decide +kernel
theorem d255_57 : decode (m_code 255) 57 = .ok (.iload_n 1, 1) := by decide +kernel
theorem d255_58 : decode (m_code 255) 58 = .ok (.iload_n 3, 1) := by decide +kernel
theorem d255_59 : decode (m_code 255) 59 = .ok (.ifCond .eq 12, 3) := by decide +kernel
theorem d255_62 : decode (m_code 255) 62 = .ok (.aload_n 0, 1) := by decide +kernel
theorem d255_63 : decode (m_code 255) 63 = .ok (.iconst 1, 1) := by decide +kernel
theorem d255_64 : decode (m_code 255) 64 = .ok (.iload_n 2, 1) := by decide +kernel
theorem d255_65 : decode (m_code 255) 65 = .ok (.invokevirtual 135, 3) := by decide +kernel
theorem d255_68 : decode (m_code 255) 68 = .ok (.goto 4, 3) := by decide +kernel
theorem d255_71 : decode (m_code 255) 71 = .ok (.iconst 0, 1) := by decide +kernel
theorem d255_72 : decode (m_code 255) 72 = .ok (.iadd, 1) := by decide +kernel
theorem d255_73 : decode (m_code 255) 73 = .ok (.istore_n 1, 1) := by decide +kernel
theorem d255_74 : decode (m_code 255) 74 = .ok (.iinc 2 1, 3) := by decide +kernel
theorem d255_77 : decode (m_code 255) 77 = .ok (.goto (-62), 3) := by decide +kernel
theorem d255_80 : decode (m_code 255) 80 = .ok (.iconst 0, 1) := by decide +kernel
theorem d255_81 : decode (m_code 255) 81 = .ok (.istore_n 2, 1) := by decide +kernel
theorem d255_82 : decode (m_code 255) 82 = .ok (.iload_n 2, 1) := by decide +kernel
theorem d255_83 : decode (m_code 255) 83 = .ok (.aload_n 0, 1) := by decide +kernel
theorem d255_84 : decode (m_code 255) 84 = .ok (.getfield 7, 3) := by decide +kernel
theorem d255_87 : decode (m_code 255) 87 = .ok (.iconst 5, 1) := by decide +kernel
theorem d255_88 : decode (m_code 255) 88 = .ok (.iaload, 1) := by decide +kernel
theorem d255_89 : decode (m_code 255) 89 = .ok (.if_icmp .ge 94, 3) := by decide +kernel
theorem d255_92 : decode (m_code 255) 92 = .ok (.aload_n 0, 1) := by decide +kernel
theorem d255_93 : decode (m_code 255) 93 = .ok (.iload_n 2, 1) := by decide +kernel
theorem d255_94 : decode (m_code 255) 94 = .ok (.iconst 3, 1) := by decide +kernel
theorem d255_95 : decode (m_code 255) 95 = .ok (.invokevirtual 116, 3) := by decide +kernel
theorem d255_98 : decode (m_code 255) 98 = .ok (.iconst 2, 1) := by decide +kernel
theorem d255_99 : decode (m_code 255) 99 = .ok (.if_icmp .eq 78, 3) := by decide +kernel
theorem d255_102 : decode (m_code 255) 102 = .ok (.aload_n 0, 1) := by decide +kernel
theorem d255_103 : decode (m_code 255) 103 = .ok (.iload_n 2, 1) := by decide +kernel
theorem d255_104 : decode (m_code 255) 104 = .ok (.invokevirtual 147, 3) := by decide +kernel
theorem d255_107 : decode (m_code 255) 107 = .ok (.ifCond .eq 7, 3) := by decide +kernel
theorem d255_110 : decode (m_code 255) 110 = .ok (.iconst 1, 1) := by decide +kernel
theorem d255_111 : decode (m_code 255) 111 = .ok (.goto 4, 3) := by decide +kernel
theorem d255_114 : decode (m_code 255) 114 = .ok (.iconst 0, 1) := by decide +kernel
theorem d255_115 : decode (m_code 255) 115 = .ok (.istore_n 3, 1) := by decide +kernel
theorem d255_116 : decode (m_code 255) 116 = .ok (.iload_n 3, 1) := by decide +kernel
theorem d255_117 : decode (m_code 255) 117 = .ok (.iconst 1, 1) := by decide +kernel
theorem d255_118 : decode (m_code 255) 118 = .ok (.if_icmp .ne 44, 3) := by decide +kernel
theorem d255_121 : decode (m_code 255) 121 = .ok (.aload_n 0, 1) := by decide +kernel
theorem d255_122 : decode (m_code 255) 122 = .ok (.iload_n 2, 1) := by decide +kernel
theorem d255_123 : decode (m_code 255) 123 = .ok (.iconst 3, 1) := by decide +kernel
theorem d255_124 : decode (m_code 255) 124 = .ok (.invokevirtual 116, 3) := by decide +kernel
theorem d255_127 : decode (m_code 255) 127 = .ok (.ifCond .ne 35, 3) := by decide +kernel
theorem d255_130 : decode (m_code 255) 130 = .ok (.iload_n 1, 1) := by decide +kernel
theorem d255_131 : decode (m_code 255) 131 = .ok (.aload_n 0, 1) := by decide +kernel
theorem d255_132 : decode (m_code 255) 132 = .ok (.iconst 2, 1) := by decide +kernel
theorem d255_133 : decode (m_code 255) 133 = .ok (.aload_n 0, 1) := by decide +kernel
theorem d255_134 : decode (m_code 255) 134 = .ok (.iload_n 2, 1) := by decide +kernel
theorem d255_135 : decode (m_code 255) 135 = .ok (.iconst 1, 1) := by decide +kernel
theorem d255_136 : decode (m_code 255) 136 = .ok (.invokevirtual 116, 3) := by decide +kernel
theorem d255_139 : decode (m_code 255) 139 = .ok (.invokevirtual 135, 3) := by decide +kernel
theorem d255_142 : decode (m_code 255) 142 = .ok (.iadd, 1) := by decide +kernel
theorem d255_143 : decode (m_code 255) 143 = .ok (.istore_n 1, 1) := by decide +kernel
theorem d255_144 : decode (m_code 255) 144 = .ok (.aload_n 0, 1) := by decide +kernel
theorem d255_145 : decode (m_code 255) 145 = .ok (.getfield 7, 3) := by decide +kernel
theorem d255_148 : decode (m_code 255) 148 = .ok (.sipush 328, 3) := by decide +kernel
theorem d255_151 : decode (m_code 255) 151 = .ok (.iconst 5, 1) := by decide +kernel
theorem d255_152 : decode (m_code 255) 152 = .ok (.iload_n 2, 1) := by decide +kernel
theorem d255_153 : decode (m_code 255) 153 = .ok (.imul, 1) := by decide +kernel
theorem d255_154 : decode (m_code 255) 154 = .ok (.iadd, 1) := by decide +kernel
theorem d255_155 : decode (m_code 255) 155 = .ok (.iconst 4, 1) := by decide +kernel
theorem d255_156 : decode (m_code 255) 156 = .ok (.iadd, 1) := by decide +kernel
theorem d255_157 : decode (m_code 255) 157 = .ok (.dup2, 1) := by decide +kernel
theorem d255_158 : decode (m_code 255) 158 = .ok (.iaload, 1) := by decide +kernel
theorem d255_159 : decode (m_code 255) 159 = .ok (.iconst 1, 1) := by decide +kernel
theorem d255_160 : decode (m_code 255) 160 = .ok (.iadd, 1) := by decide +kernel
theorem d255_161 : decode (m_code 255) 161 = .ok (.iastore, 1) := by decide +kernel
theorem d255_162 : decode (m_code 255) 162 = .ok (.aload_n 0, 1) := by decide +kernel
theorem d255_163 : decode (m_code 255) 163 = .ok (.getfield 7, 3) := by decide +kernel
theorem d255_166 : decode (m_code 255) 166 = .ok (.sipush 328, 3) := by decide +kernel
theorem d255_169 : decode (m_code 255) 169 = .ok (.iconst 5, 1) := by decide +kernel
theorem d255_170 : decode (m_code 255) 170 = .ok (.iload_n 2, 1) := by decide +kernel
theorem d255_171 : decode (m_code 255) 171 = .ok (.imul, 1) := by decide +kernel
theorem d255_172 : decode (m_code 255) 172 = .ok (.iadd, 1) := by decide +kernel
theorem d255_173 : decode (m_code 255) 173 = .ok (.iconst 3, 1) := by decide +kernel
theorem d255_174 : decode (m_code 255) 174 = .ok (.iadd, 1) := by decide +kernel
theorem d255_175 : decode (m_code 255) 175 = .ok (.iload_n 3, 1) := by decide +kernel
theorem d255_176 : decode (m_code 255) 176 = .ok (.iastore, 1) := by decide +kernel
theorem d255_177 : decode (m_code 255) 177 = .ok (.iinc 2 1, 3) := by decide +kernel
theorem d255_180 : decode (m_code 255) 180 = .ok (.goto (-98), 3) := by decide +kernel
theorem d255_183 : decode (m_code 255) 183 = .ok (.aload_n 0, 1) := by decide +kernel
theorem d255_184 : decode (m_code 255) 184 = .ok (.getfield 7, 3) := by decide +kernel
theorem d255_187 : decode (m_code 255) 187 = .ok (.iconst 0, 1) := by decide +kernel
theorem d255_188 : decode (m_code 255) 188 = .ok (.dup2, 1) := by decide +kernel
theorem d255_189 : decode (m_code 255) 189 = .ok (.iaload, 1) := by decide +kernel
theorem d255_190 : decode (m_code 255) 190 = .ok (.iconst 1, 1) := by decide +kernel
theorem d255_191 : decode (m_code 255) 191 = .ok (.iadd, 1) := by decide +kernel
theorem d255_192 : decode (m_code 255) 192 = .ok (.iastore, 1) := by decide +kernel
theorem d255_193 : decode (m_code 255) 193 = .ok (.iload_n 1, 1) := by decide +kernel
theorem d255_194 : decode (m_code 255) 194 = .ok (.ireturn, 1) := by decide +kernel
def F_bd1 (s : Nat → Int32) (r : Nat) : Nat → Int32 :=
  if 0 < s (20 + 6 * r + 1) ∧ s (20 + 6 * r + 3) = s (20 + 6 * r + 1) + nI 1 then F_al s (s 6).toNatClampNeg (nI 1) (nI r) else s
def F_bdc (s : Nat → Int32) (r : Nat) : Nat := if 0 < s (20 + 6 * r + 1) ∧ s (20 + 6 * r + 3) = s (20 + 6 * r + 1) + nI 1 then 1 else 0
def F_bd (s : Nat → Int32) : Nat → (Nat → Int32)
  | 0 => s
  | r + 1 => F_bd1 (F_bd s r) r
def F_bdn (s : Nat → Int32) : Nat → Nat
  | 0 => 0
  | r + 1 => F_bdn s r + F_bdc (F_bd s r) r
/-- a work's look; troubled or not -/
def F_wk1 (s : Nat → Int32) (w : Nat) : Nat → Int32 :=
  if s (328 + 5 * w + 3) = nI 2 then s
  else if F_trb s w = true then
    (if s (328 + 5 * w + 3) = 0 then upd (upd (F_al s (s 6).toNatClampNeg (nI 2) (s (328 + 5 * w + 1))) (328 + 5 * w + 4) (s (328 + 5 * w + 4) + nI 1)) (328 + 5 * w + 3) (nI 1)
     else upd s (328 + 5 * w + 3) (nI 1))
  else upd s (328 + 5 * w + 3) (nI 0)
def F_wkc (s : Nat → Int32) (w : Nat) : Nat := if s (328 + 5 * w + 3) = nI 2 then 0 else if F_trb s w = true then (if s (328 + 5 * w + 3) = 0 then 1 else 0) else 0
def F_wk (s : Nat → Int32) : Nat → (Nat → Int32)
  | 0 => s
  | w + 1 => F_wk1 (F_wk s w) w
def F_wkn (s : Nat → Int32) : Nat → Nat
  | 0 => 0
  | w + 1 => F_wkn s w + F_wkc (F_wk s w) w
/-- what the reference asks of its row as a work is looked at -/
def P_wk (s : Nat → Int32) (w nW : Nat) : Prop :=
  (∃ mi, mi < 720 ∧ s 0 = nI mi) ∧ s 5 = nI nW ∧ (∃ nA, nA ≤ 40 ∧ s 6 = nI nA) ∧ (w < nW → ∃ p z, p < 12 ∧ z < 6 ∧ s (328 + 5 * w + 1) = nI p ∧ s (20 + 6 * p + 0) = nI z)
def P_bd (s : Nat → Int32) (nR : Nat) : Prop := s 2 = nI nR ∧ ∃ nA, nA ≤ 40 ∧ s 6 = nI nA
/-- the state behind the first three steps, before the bounds -/
abbrev F_m3 (σ : Nat → Int32) (nR nD nG mi : Nat) : Nat → Int32 := F_gw (F_watch (F_gb σ nD nG) nR nG mi) nG
abbrev F_m4 (σ : Nat → Int32) (nR nD nG mi : Nat) : Nat → Int32 := F_bd (F_m3 σ nR nD nG mi) nR
def F_min (σ : Nat → Int32) (nR nD nG nW mi : Nat) : Nat → Int32 := upd (F_wk (F_m4 σ nR nD nG mi) nW) 0 (nI (mi + 1))
def F_minn (σ : Nat → Int32) (nR nD nG nW mi : Nat) : Nat := F_gwn (F_watch (F_gb σ nD nG) nR nG mi) nG + F_bdn (F_m3 σ nR nD nG mi) nR + F_wkn (F_m4 σ nR nD nG mi) nW
theorem c_minute_w {X : mX}  {h0 : mH} {R : Nat → Nat → Int32} {σ : Nat → Int32} {nW a0 mi : Nat} (hW : nW ≤ 10) (hP : ∀ k, k ≤ nW → P_wk (F_wk σ k) k nW) (hm0 : ∀ k, k ≤ nW → F_wk σ k 0 = nI mi) : ∀ (d : Nat) (k : Nat) (h : mH) (a : Nat) (l3 : Option Value), nW - k = d → k ≤ nW → Ms h R (F_wk σ k) → Frm h0 h 313 8 → a = a0 + F_wkn σ k → m_wp X 255 82 [some (.ref 313), some (.int (nI a)), some (.int (nI k)), l3] [] h (fun w h1 => w = some (.int (nI (a0 + F_wkn σ nW))) ∧ Ms h1 R (upd (F_wk σ nW) 0 (nI (mi + 1))) ∧ Frm h0 h1 313 8) := by
  intro d
  induction d using Nat.strongRecOn with
  | ind d ih =>
    intro k h a l3 hd hk hR hF ha
    refine wp_iload_n d255_82 rfl ?_
    refine wp_aload_n d255_83 rfl ?_
    refine wp_getf (e := 7) (ci := 12) (k := 0) (nest := false) d255_84 (by decide +kernel) (md_0 hR) rfl ?_
    refine wp_iconst d255_87 (v := nI 5) (by decide) ?_
    refine wp_iald d255_88 (md_1 hR) (nI_in (by omega) (by decide)) (v := nI nW) ((congrArg ((F_wk σ k)) (nI_nat (by omega))).trans (hP k (by omega)).2.1) ?_
    refine wp_icmp_ge d255_89 (tgt := 183) (by decide) (fun hc89 => ?_) (fun hc89 => ?_)
    · have hc89 : nW ≤ k := (nI_leI (by omega) (by omega)).mp hc89
      obtain ⟨mi2, -, hmi3⟩ := (hP k (by omega)).1
      have hmi : F_wk σ k 0 = nI mi := hm0 k (by omega)
      refine wp_aload_n d255_183 rfl ?_
      refine wp_getf (e := 7) (ci := 12) (k := 0) (nest := false) d255_184 (by decide +kernel) (md_0 hR) rfl ?_
      refine wp_iconst d255_187 (v := nI 0) (by decide) ?_
      refine wp_dup2 d255_188 rfl rfl ?_
      refine wp_iald d255_189 (md_1 hR) (nI_in (by omega) (by decide)) (v := nI mi) ((congrArg ((F_wk σ k)) (nI_nat (by omega))).trans hmi) ?_
      refine wp_iconst d255_190 (v := nI 1) (by decide) ?_
      refine wp_iaddv d255_191 (v := nI (mi + 1)) (nI_add _ _) ?_
      refine wp_stS d255_192 hR hF (k := 0) (by omega) (fun h hR hF => ?_)
      refine wp_iload_n d255_193 rfl ?_
      refine wp_iret d255_194 (by decide +kernel) ?_
      exact ⟨by rw [show nW = k by omega, ha], by rw [show nW = k by omega]; exact hR, hF⟩
    · have hc89 : ¬ (nW ≤ k) := fun z => hc89 ((nI_leI (by omega) (by omega)).mpr z)
      obtain ⟨nA, hA40, hA⟩ := (hP k (by omega)).2.2.1
      obtain ⟨p, z, hp, hz, hp2, hz2⟩ := (hP k (by omega)).2.2.2 (by omega)
      refine wp_aload_n d255_92 rfl ?_
      refine wp_iload_n d255_93 rfl ?_
      refine wp_iconst d255_94 (v := nI 3) (by decide) ?_
      refine wp_invvT (e := 116) (j2 := 246) (n := 2) d255_95 (by decide +kernel) (by decide +kernel) rfl rfl rfl (md_0 hR) (by decide +kernel) (Nat.le_of_ble_eq_true rfl) rfl rfl (Nat.le_of_ble_eq_true rfl) (by decide +kernel) (c_workPart hR (r := k) (p := 3) (by omega) (by omega)) ?_
      refine wp_iconst d255_98 (v := nI 2) (by decide) ?_
      refine wp_icmp_eq d255_99 (tgt := 177) (by decide) (fun hc99 => ?_) (fun hc99 => ?_)
      · refine wp_iinc d255_177 rfl (v := nI (k + 1)) (nI_add _ 1) (Nat.le_of_ble_eq_true rfl) rfl ?_
        refine wp_goto d255_180 (tgt := 82) (by decide) ?_
        exact ih (nW - (k + 1)) (by omega) (k + 1) h _ _ rfl (by omega) (by simp only [F_wk, F_wk1]; rw [if_pos hc99]; exact hR) hF (by simp only [F_wkn, F_wkc]; rw [if_pos hc99]; omega)
      · refine wp_aload_n d255_102 rfl ?_
        refine wp_iload_n d255_103 rfl ?_
        refine wp_invvT (e := 147) (j2 := 262) (n := 1) d255_104 (by decide +kernel) (by decide +kernel) rfl rfl rfl (md_0 hR) (by decide +kernel) (Nat.le_of_ble_eq_true rfl) rfl rfl (Nat.le_of_ble_eq_true rfl) (by decide +kernel) (show Tells X 262 _ h (m_b (F_trb (F_wk σ k) k = true)) from c_isTroubled hR (w := k) (by omega) hp2 hp hz2 hz) ?_
        refine wp_ifb_eq d255_107 (tgt := 114) (by decide) (fun hc107 => ?_) (fun hc107 => ?_)
        · refine wp_iconst d255_114 (v := nI 0) (by decide) ?_
          refine wp_istore_n d255_115 (Nat.le_of_ble_eq_true rfl) rfl ?_
          refine wp_iload_n d255_116 rfl ?_
          refine wp_iconst d255_117 (v := nI 1) (by decide) ?_
          refine wp_icmp_ne d255_118 (tgt := 162) (by decide) (fun _ => ?_) (fun hz => absurd hz (by decide))
          refine wp_aload_n d255_162 rfl ?_
          refine wp_getf (e := 7) (ci := 12) (k := 0) (nest := false) d255_163 (by decide +kernel) (md_0 hR) rfl ?_
          refine wp_sipush d255_166 (v := nI 328) (by decide) ?_
          refine wp_iconst d255_169 (v := nI 5) (by decide) ?_
          refine wp_iload_n d255_170 rfl ?_
          refine wp_imulv d255_171 (v := nI (5 * k)) (nI_mul _ _) ?_
          refine wp_iaddv d255_172 (v := nI (328 + 5 * k)) (nI_add _ _) ?_
          refine wp_iconst d255_173 (v := nI 3) (by decide) ?_
          refine wp_iaddv d255_174 (v := nI (328 + 5 * k + 3)) (nI_add _ _) ?_
          refine wp_iload_n d255_175 rfl ?_
          refine wp_stS d255_176 hR hF (k := 328 + 5 * k + 3) (by omega) (fun h hR hF => ?_)
          refine wp_iinc d255_177 rfl (v := nI (k + 1)) (nI_add _ 1) (Nat.le_of_ble_eq_true rfl) rfl ?_
          refine wp_goto d255_180 (tgt := 82) (by decide) ?_
          exact ih (nW - (k + 1)) (by omega) (k + 1) h _ _ rfl (by omega) (by simp only [F_wk, F_wk1]; rw [if_neg hc99, if_neg hc107]; exact hR) hF (by simp only [F_wkn, F_wkc]; rw [if_neg hc99, if_neg hc107]; omega)
        · refine wp_iconst d255_110 (v := nI 1) (by decide) ?_
          refine wp_goto d255_111 (tgt := 115) (by decide) ?_
          refine wp_istore_n d255_115 (Nat.le_of_ble_eq_true rfl) rfl ?_
          refine wp_iload_n d255_116 rfl ?_
          refine wp_iconst d255_117 (v := nI 1) (by decide) ?_
          refine wp_icmp_ne d255_118 (tgt := 162) (by decide) (fun hz => absurd hz (by decide)) (fun _ => ?_)
          refine wp_aload_n d255_121 rfl ?_
          refine wp_iload_n d255_122 rfl ?_
          refine wp_iconst d255_123 (v := nI 3) (by decide) ?_
          refine wp_invvT (e := 116) (j2 := 246) (n := 2) d255_124 (by decide +kernel) (by decide +kernel) rfl rfl rfl (md_0 hR) (by decide +kernel) (Nat.le_of_ble_eq_true rfl) rfl rfl (Nat.le_of_ble_eq_true rfl) (by decide +kernel) (c_workPart hR (r := k) (p := 3) (by omega) (by omega)) ?_
          refine wp_if_ne d255_127 (tgt := 162) (by decide) (fun hc127 => ?_) (fun hc127 => ?_)
          · refine wp_aload_n d255_162 rfl ?_
            refine wp_getf (e := 7) (ci := 12) (k := 0) (nest := false) d255_163 (by decide +kernel) (md_0 hR) rfl ?_
            refine wp_sipush d255_166 (v := nI 328) (by decide) ?_
            refine wp_iconst d255_169 (v := nI 5) (by decide) ?_
            refine wp_iload_n d255_170 rfl ?_
            refine wp_imulv d255_171 (v := nI (5 * k)) (nI_mul _ _) ?_
            refine wp_iaddv d255_172 (v := nI (328 + 5 * k)) (nI_add _ _) ?_
            refine wp_iconst d255_173 (v := nI 3) (by decide) ?_
            refine wp_iaddv d255_174 (v := nI (328 + 5 * k + 3)) (nI_add _ _) ?_
            refine wp_iload_n d255_175 rfl ?_
            refine wp_stS d255_176 hR hF (k := 328 + 5 * k + 3) (by omega) (fun h hR hF => ?_)
            refine wp_iinc d255_177 rfl (v := nI (k + 1)) (nI_add _ 1) (Nat.le_of_ble_eq_true rfl) rfl ?_
            refine wp_goto d255_180 (tgt := 82) (by decide) ?_
            exact ih (nW - (k + 1)) (by omega) (k + 1) h _ _ rfl (by omega) (by simp only [F_wk, F_wk1]; rw [if_neg hc99, if_pos hc107, if_neg hc127]; exact hR) hF (by simp only [F_wkn, F_wkc]; rw [if_neg hc99, if_pos hc107, if_neg hc127]; omega)
          · refine wp_iload_n d255_130 rfl ?_
            refine wp_aload_n d255_131 rfl ?_
            refine wp_iconst d255_132 (v := nI 2) (by decide) ?_
            refine wp_aload_n d255_133 rfl ?_
            refine wp_iload_n d255_134 rfl ?_
            refine wp_iconst d255_135 (v := nI 1) (by decide) ?_
            refine wp_invvT (e := 116) (j2 := 246) (n := 2) d255_136 (by decide +kernel) (by decide +kernel) rfl rfl rfl (md_0 hR) (by decide +kernel) (Nat.le_of_ble_eq_true rfl) rfl rfl (Nat.le_of_ble_eq_true rfl) (by decide +kernel) (tells_eq (c_workPart hR (r := k) (p := 1) (by omega) (by omega)) hp2) ?_
            refine wp_invvDI (e := 135) (j2 := 261) (n := 2) d255_139 (by decide +kernel) (by decide +kernel) rfl rfl rfl (md_0 hR) (by decide +kernel) (Nat.le_of_ble_eq_true rfl) rfl rfl (Nat.le_of_ble_eq_true rfl) (by decide +kernel) (c_alarms hR (nA := nA) hA hA40 (nI 2) (nI p)) hF ?_
            intro h hR hF
            refine wp_iaddv d255_142 (v := nI (a + 1)) (nI_add _ _) ?_
            refine wp_istore_n d255_143 (Nat.le_of_ble_eq_true rfl) rfl ?_
            refine wp_aload_n d255_144 rfl ?_
            refine wp_getf (e := 7) (ci := 12) (k := 0) (nest := false) d255_145 (by decide +kernel) (md_0 hR) rfl ?_
            refine wp_sipush d255_148 (v := nI 328) (by decide) ?_
            refine wp_iconst d255_151 (v := nI 5) (by decide) ?_
            refine wp_iload_n d255_152 rfl ?_
            refine wp_imulv d255_153 (v := nI (5 * k)) (nI_mul _ _) ?_
            refine wp_iaddv d255_154 (v := nI (328 + 5 * k)) (nI_add _ _) ?_
            refine wp_iconst d255_155 (v := nI 4) (by decide) ?_
            refine wp_iaddv d255_156 (v := nI (328 + 5 * k + 4)) (nI_add _ _) ?_
            refine wp_dup2 d255_157 rfl rfl ?_
            refine wp_iald d255_158 (md_1 hR) (nI_in (by omega) (by decide)) (v := ((F_wk σ k)) (328 + 5 * k + 4)) ((congrArg ((F_al (F_wk σ k) nA (nI 2) (nI p))) (nI_nat (by omega))).trans ((F_al_lo (by omega) (by omega) (by omega) hA40).trans rfl)) ?_
            refine wp_iconst d255_159 (v := nI 1) (by decide) ?_
            refine wp_iadd d255_160 ?_
            refine wp_stS d255_161 hR hF (k := 328 + 5 * k + 4) (by omega) (fun h hR hF => ?_)
            refine wp_aload_n d255_162 rfl ?_
            refine wp_getf (e := 7) (ci := 12) (k := 0) (nest := false) d255_163 (by decide +kernel) (md_0 hR) rfl ?_
            refine wp_sipush d255_166 (v := nI 328) (by decide) ?_
            refine wp_iconst d255_169 (v := nI 5) (by decide) ?_
            refine wp_iload_n d255_170 rfl ?_
            refine wp_imulv d255_171 (v := nI (5 * k)) (nI_mul _ _) ?_
            refine wp_iaddv d255_172 (v := nI (328 + 5 * k)) (nI_add _ _) ?_
            refine wp_iconst d255_173 (v := nI 3) (by decide) ?_
            refine wp_iaddv d255_174 (v := nI (328 + 5 * k + 3)) (nI_add _ _) ?_
            refine wp_iload_n d255_175 rfl ?_
            refine wp_stS d255_176 hR hF (k := 328 + 5 * k + 3) (by omega) (fun h hR hF => ?_)
            refine wp_iinc d255_177 rfl (v := nI (k + 1)) (nI_add _ 1) (Nat.le_of_ble_eq_true rfl) rfl ?_
            refine wp_goto d255_180 (tgt := 82) (by decide) ?_
            exact ih (nW - (k + 1)) (by omega) (k + 1) h _ _ rfl (by omega) (by simp only [F_wk, F_wk1]; rw [if_neg hc99, if_pos hc107, if_pos hc127]; rw [hA, hp2, nI_nat (by omega)]; exact hR) hF (by simp only [F_wkn, F_wkc]; rw [if_neg hc99, if_pos hc107, if_pos hc127]; omega)
theorem c_minute_b {X : mX}  {h0 : mH} {R : Nat → Nat → Int32} {σ : Nat → Int32} {nR a0 : Nat} {Q : Option Value → mH → Prop} (hr12 : nR ≤ 12) (hP : ∀ k, k ≤ nR → P_bd (F_bd σ k) nR) : ∀ (d : Nat) (k : Nat) (h : mH) (a : Nat) (l3 : Option Value), nR - k = d → k ≤ nR → Ms h R (F_bd σ k) → Frm h0 h 313 8 → a = a0 + F_bdn σ k → (∀ (h : mH) (a : Nat) (l2 l3 : Option Value), Ms h R (F_bd σ nR) → Frm h0 h 313 8 → a = a0 + F_bdn σ nR → m_wp X 255 80 [some (.ref 313), some (.int (nI a)), l2, l3] [] h Q) → m_wp X 255 15 [some (.ref 313), some (.int (nI a)), some (.int (nI k)), l3] [] h Q := by
  intro d
  induction d using Nat.strongRecOn with
  | ind d ih =>
    intro k h a l3 hd hk hR hF ha K
    refine wp_iload_n d255_15 rfl ?_
    refine wp_aload_n d255_16 rfl ?_
    refine wp_getf (e := 7) (ci := 12) (k := 0) (nest := false) d255_17 (by decide +kernel) (md_0 hR) rfl ?_
    refine wp_iconst d255_20 (v := nI 2) (by decide) ?_
    refine wp_iald d255_21 (md_1 hR) (nI_in (by omega) (by decide)) (v := nI nR) ((congrArg ((F_bd σ k)) (nI_nat (by omega))).trans (hP k (by omega)).1) ?_
    refine wp_icmp_ge d255_22 (tgt := 80) (by decide) (fun hc22 => ?_) (fun hc22 => ?_)
    · have hc22 : nR ≤ k := (nI_leI (by omega) (by omega)).mp hc22
      rw [show k = nR by omega] at hR ha
      exact K h a _ _ hR hF ha
    · have hc22 : ¬ (nR ≤ k) := fun z => hc22 ((nI_leI (by omega) (by omega)).mpr z)
      obtain ⟨nA, hA40, hA⟩ := (hP k (by omega)).2
      refine wp_aload_n d255_25 rfl ?_
      refine wp_iload_n d255_26 rfl ?_
      refine wp_iconst d255_27 (v := nI 1) (by decide) ?_
      refine wp_invvT (e := 63) (j2 := 219) (n := 2) d255_28 (by decide +kernel) (by decide +kernel) rfl rfl rfl (md_0 hR) (by decide +kernel) (Nat.le_of_ble_eq_true rfl) rfl rfl (Nat.le_of_ble_eq_true rfl) (by decide +kernel) (c_roomPart hR (r := k) (p := 1) (by omega) (by omega)) ?_
      refine wp_if_le d255_31 (tgt := 55) (by decide) (fun hc31 => ?_) (fun hc31 => ?_)
      · refine wp_iconst d255_55 (v := nI 0) (by decide) ?_
        refine wp_istore_n d255_56 (Nat.le_of_ble_eq_true rfl) rfl ?_
        refine wp_iload_n d255_57 rfl ?_
        refine wp_iload_n d255_58 rfl ?_
        refine wp_if_eq d255_59 (tgt := 71) (by decide) (fun _ => ?_) (fun hz => absurd hz (by decide))
        refine wp_iconst d255_71 (v := nI 0) (by decide) ?_
        refine wp_iaddv d255_72 (v := nI (a + 0)) (nI_add _ _) ?_
        refine wp_istore_n d255_73 (Nat.le_of_ble_eq_true rfl) rfl ?_
        refine wp_iinc d255_74 rfl (v := nI (k + 1)) (nI_add _ 1) (Nat.le_of_ble_eq_true rfl) rfl ?_
        refine wp_goto d255_77 (tgt := 15) (by decide) ?_
        exact ih (nR - (k + 1)) (by omega) (k + 1) h _ _ rfl (by omega) (by simp only [F_bd, F_bd1]; rw [if_neg (fun q => absurd hc31 (Int32.not_le.mpr q.1))]; exact hR) hF (by simp only [F_bdn, F_bdc]; rw [if_neg (fun q => absurd hc31 (Int32.not_le.mpr q.1))]; omega) K
      · refine wp_aload_n d255_34 rfl ?_
        refine wp_iload_n d255_35 rfl ?_
        refine wp_iconst d255_36 (v := nI 3) (by decide) ?_
        refine wp_invvT (e := 63) (j2 := 219) (n := 2) d255_37 (by decide +kernel) (by decide +kernel) rfl rfl rfl (md_0 hR) (by decide +kernel) (Nat.le_of_ble_eq_true rfl) rfl rfl (Nat.le_of_ble_eq_true rfl) (by decide +kernel) (c_roomPart hR (r := k) (p := 3) (by omega) (by omega)) ?_
        refine wp_aload_n d255_40 rfl ?_
        refine wp_iload_n d255_41 rfl ?_
        refine wp_iconst d255_42 (v := nI 1) (by decide) ?_
        refine wp_invvT (e := 63) (j2 := 219) (n := 2) d255_43 (by decide +kernel) (by decide +kernel) rfl rfl rfl (md_0 hR) (by decide +kernel) (Nat.le_of_ble_eq_true rfl) rfl rfl (Nat.le_of_ble_eq_true rfl) (by decide +kernel) (c_roomPart hR (r := k) (p := 1) (by omega) (by omega)) ?_
        refine wp_iconst d255_46 (v := nI 1) (by decide) ?_
        refine wp_iadd d255_47 ?_
        refine wp_icmp_ne d255_48 (tgt := 55) (by decide) (fun hc48 => ?_) (fun hc48 => ?_)
        · refine wp_iconst d255_55 (v := nI 0) (by decide) ?_
          refine wp_istore_n d255_56 (Nat.le_of_ble_eq_true rfl) rfl ?_
          refine wp_iload_n d255_57 rfl ?_
          refine wp_iload_n d255_58 rfl ?_
          refine wp_if_eq d255_59 (tgt := 71) (by decide) (fun _ => ?_) (fun hz => absurd hz (by decide))
          refine wp_iconst d255_71 (v := nI 0) (by decide) ?_
          refine wp_iaddv d255_72 (v := nI (a + 0)) (nI_add _ _) ?_
          refine wp_istore_n d255_73 (Nat.le_of_ble_eq_true rfl) rfl ?_
          refine wp_iinc d255_74 rfl (v := nI (k + 1)) (nI_add _ 1) (Nat.le_of_ble_eq_true rfl) rfl ?_
          refine wp_goto d255_77 (tgt := 15) (by decide) ?_
          exact ih (nR - (k + 1)) (by omega) (k + 1) h _ _ rfl (by omega) (by simp only [F_bd, F_bd1]; rw [if_neg (fun q => hc48 q.2)]; exact hR) hF (by simp only [F_bdn, F_bdc]; rw [if_neg (fun q => hc48 q.2)]; omega) K
        · refine wp_iconst d255_51 (v := nI 1) (by decide) ?_
          refine wp_goto d255_52 (tgt := 56) (by decide) ?_
          refine wp_istore_n d255_56 (Nat.le_of_ble_eq_true rfl) rfl ?_
          refine wp_iload_n d255_57 rfl ?_
          refine wp_iload_n d255_58 rfl ?_
          refine wp_if_eq d255_59 (tgt := 71) (by decide) (fun hz => absurd hz (by decide)) (fun _ => ?_)
          refine wp_aload_n d255_62 rfl ?_
          refine wp_iconst d255_63 (v := nI 1) (by decide) ?_
          refine wp_iload_n d255_64 rfl ?_
          refine wp_invvDI (e := 135) (j2 := 261) (n := 2) d255_65 (by decide +kernel) (by decide +kernel) rfl rfl rfl (md_0 hR) (by decide +kernel) (Nat.le_of_ble_eq_true rfl) rfl rfl (Nat.le_of_ble_eq_true rfl) (by decide +kernel) (c_alarms hR (nA := nA) hA hA40 (nI 1) (nI k)) hF ?_
          intro h hR hF
          refine wp_goto d255_68 (tgt := 72) (by decide) ?_
          refine wp_iaddv d255_72 (v := nI (a + 1)) (nI_add _ _) ?_
          refine wp_istore_n d255_73 (Nat.le_of_ble_eq_true rfl) rfl ?_
          refine wp_iinc d255_74 rfl (v := nI (k + 1)) (nI_add _ 1) (Nat.le_of_ble_eq_true rfl) rfl ?_
          refine wp_goto d255_77 (tgt := 15) (by decide) ?_
          exact ih (nR - (k + 1)) (by omega) (k + 1) h _ _ rfl (by omega) (by simp only [F_bd, F_bd1]; rw [if_pos ⟨Int32.not_le.mp hc31, hc48⟩]; rw [hA, nI_nat (by omega)]; exact hR) hF (by simp only [F_bdn, F_bdc]; rw [if_pos ⟨Int32.not_le.mp hc31, hc48⟩]; omega) K
theorem c_minute {X : mX} {h : mH} {R : Nat → Nat → Int32} {σ : Nat → Int32} (hR : Ms h R σ) {nR nD nG nW mi : Nat} (h2 : σ 2 = nI nR) (hr12 : nR ≤ 12) (hD : nD ≤ 20) (h4 : σ 4 = nI nG) (hG : nG ≤ 4) (hW : nW ≤ 10) (h0 : σ 0 = nI mi) (hmi2 : mi < 720) (hPb : ∀ k, k ≤ nG → P_gb (F_gb σ nD k) k nD nG) (hPw : ∀ k, k ≤ nG → P_gw (F_gw (F_watch (F_gb σ nD nG) nR nG mi) k) k nG) (hPd : ∀ k, k ≤ nR → P_bd (F_bd (F_m3 σ nR nD nG mi) k) nR) (hPt : ∀ k, k ≤ nW → P_wk (F_wk (F_m4 σ nR nD nG mi) k) k nW) (hPm : ∀ k, k ≤ nW → F_wk (F_m4 σ nR nD nG mi) k 0 = nI mi) : Does X 255 [.ref 313] h (R) (F_min σ nR nD nG nW mi) (some (.int (nI (F_minn σ nR nD nG nW mi)))) := by
  have hF : Frm h h 313 8 := Frm.rf
  refine wp_aload_n d255_0 rfl ?_
  refine wp_invvD (e := 138) (j2 := 256) (n := 0) d255_1 (by decide +kernel) (by decide +kernel) rfl rfl rfl (md_0 hR) (by decide +kernel) (Nat.le_of_ble_eq_true rfl) rfl rfl (Nat.le_of_ble_eq_true rfl) (by decide +kernel) (c_guardsBegin hR hD hG hPb) hF ?_
  intro h hR hF
  refine wp_aload_n d255_4 rfl ?_
  refine wp_invvD (e := 141) (j2 := 259) (n := 0) d255_5 (by decide +kernel) (by decide +kernel) rfl rfl rfl (md_0 hR) (by decide +kernel) (Nat.le_of_ble_eq_true rfl) rfl rfl (Nat.le_of_ble_eq_true rfl) (by decide +kernel) (c_watch hR ((F_gb_lo (by omega)).trans h2) hr12 ((F_gb_lo (by omega)).trans h4) hG ((F_gb_lo (by omega)).trans h0) hmi2) hF ?_
  intro h hR hF
  refine wp_aload_n d255_8 rfl ?_
  refine wp_invvDI (e := 144) (j2 := 260) (n := 0) d255_9 (by decide +kernel) (by decide +kernel) rfl rfl rfl (md_0 hR) (by decide +kernel) (Nat.le_of_ble_eq_true rfl) rfl rfl (Nat.le_of_ble_eq_true rfl) (by decide +kernel) (c_guardsWalk hR hG hPw) hF ?_
  intro h hR hF
  refine wp_istore_n d255_12 (Nat.le_of_ble_eq_true rfl) rfl ?_
  refine wp_iconst d255_13 (v := nI 0) (by decide) ?_
  refine wp_istore_n d255_14 (Nat.le_of_ble_eq_true rfl) rfl ?_
  refine c_minute_b (σ := F_m3 σ nR nD nG mi) hr12 hPd _ 0 h _ _ rfl (by omega) hR hF rfl ?_
  intro h a l2 l3 hR hF ha
  refine wp_iconst d255_80 (v := nI 0) (by decide) ?_
  refine wp_istore_n d255_81 (Nat.le_of_ble_eq_true rfl) rfl ?_
  have hw := c_minute_w (X := X) (σ := F_m4 σ nR nD nG mi) hW hPt hPm _ 0 h a l3 rfl (by omega) hR hF ha
  exact hw
end
section
/-! The reference copies a state. -/
theorem d212_0 : decode (m_code 212) 0 = .ok (.aload_n 0, 1) := by decide +kernel
theorem d212_1 : decode (m_code 212) 1 = .ok (.getfield 31, 3) := by decide +kernel
theorem d212_4 : decode (m_code 212) 4 = .ok (.iconst 4, 1) := by decide +kernel
theorem d212_5 : decode (m_code 212) 5 = .ok (.if_icmp .ne 44, 3) := by decide +kernel
theorem d212_8 : decode (m_code 212) 8 = .ok (.iconst 0, 1) := by decide +kernel
theorem d212_9 : decode (m_code 212) 9 = .ok (.istore_n 1, 1) := by decide +kernel
theorem d212_10 : decode (m_code 212) 10 = .ok (.iload_n 1, 1) := by decide +kernel
theorem d212_11 : decode (m_code 212) 11 = .ok (.sipush 12534, 3) := by decide +kernel
theorem d212_14 : decode (m_code 212) 14 = .ok (.if_icmp .ge 25, 3) := by decide +kernel
theorem d212_17 : decode (m_code 212) 17 = .ok (.aload_n 0, 1) := by decide +kernel
theorem d212_18 : decode (m_code 212) 18 = .ok (.getfield 19, 3) := by decide +kernel
theorem d212_21 : decode (m_code 212) 21 = .ok (.iload_n 1, 1) := by decide +kernel
theorem d212_22 : decode (m_code 212) 22 = .ok (.aload_n 0, 1) := by decide +kernel
theorem d212_23 : decode (m_code 212) 23 = .ok (.getfield 19, 3) := by decide +kernel
theorem d212_26 : decode (m_code 212) 26 = .ok (.iload_n 1, 1) := by decide +kernel
theorem d212_27 : decode (m_code 212) 27 = .ok (.sipush 4178, 3) := by decide +kernel
theorem d212_30 : decode (m_code 212) 30 = .ok (.iadd, 1) := by decide +kernel
theorem d212_31 : decode (m_code 212) 31 = .ok (.iaload, 1) := by decide +kernel
theorem d212_32 : decode (m_code 212) 32 = .ok (.iastore, 1) := by decide +kernel
theorem d212_33 : decode (m_code 212) 33 = .ok (.iinc 1 1, 3) := by decide +kernel
theorem d212_36 : decode (m_code 212) 36 = .ok (.goto (-26), 3) := by decide +kernel
theorem d212_39 : decode (m_code 212) 39 = .ok (.aload_n 0, 1) := by decide +kernel
theorem d212_40 : decode (m_code 212) 40 = .ok (.dup, 1) := by decide +kernel
theorem d212_41 : decode (m_code 212) 41 = .ok (.getfield 31, 3) := by decide +kernel
theorem d212_44 : decode (m_code 212) 44 = .ok (.iconst 1, 1) := by decide +kernel
theorem d212_45 : decode (m_code 212) 45 = .ok (.isub, 1) := by decide +kernel
theorem d212_46 : decode (m_code 212) 46 = .ok (.putfield 31, 3) := by decide +kernel
theorem d212_49 : decode (m_code 212) 49 = .ok (.aload_n 0, 1) := by decide +kernel
theorem d212_50 : decode (m_code 212) 50 = .ok (.getfield 7, 3) := by decide +kernel
theorem d212_53 : decode (m_code 212) 53 = .ok (.iconst 0, 1) := by decide +kernel
theorem d212_54 : decode (m_code 212) 54 = .ok (.aload_n 0, 1) := by decide +kernel
theorem d212_55 : decode (m_code 212) 55 = .ok (.getfield 19, 3) := by decide +kernel
theorem d212_58 : decode (m_code 212) 58 = .ok (.aload_n 0, 1) := by decide +kernel
theorem d212_59 : decode (m_code 212) 59 = .ok (.getfield 31, 3) := by decide +kernel
theorem d212_62 : decode (m_code 212) 62 = .ok (.sipush 4178, 3) := by decide +kernel
theorem d212_65 : decode (m_code 212) 65 = .ok (.imul, 1) := by decide +kernel
theorem d212_66 : decode (m_code 212) 66 = .ok (.invokestatic 35, 3) := by decide +kernel
theorem d212_69 : decode (m_code 212) 69 = .ok (.aload_n 0, 1) := by decide +kernel
theorem d212_70 : decode (m_code 212) 70 = .ok (.dup, 1) := by decide +kernel
theorem d212_71 : decode (m_code 212) 71 = .ok (.getfield 31, 3) := by decide +kernel
theorem d212_74 : decode (m_code 212) 74 = .ok (.iconst 1, 1) := by decide +kernel
theorem d212_75 : decode (m_code 212) 75 = .ok (.iadd, 1) := by decide +kernel
theorem d212_76 : decode (m_code 212) 76 = .ok (.putfield 31, 3) := by decide +kernel
theorem d212_79 : decode (m_code 212) 79 = .ok (.return_, 1) := by decide +kernel
theorem d213_0 : decode (m_code 213) 0 = .ok (.iconst 0, 1) := by decide +kernel
theorem d213_1 : decode (m_code 213) 1 = .ok (.istore 4, 2) := by decide +kernel
theorem d213_3 : decode (m_code 213) 3 = .ok (.iload 4, 2) := by decide +kernel
theorem d213_5 : decode (m_code 213) 5 = .ok (.sipush 4178, 3) := by decide +kernel
theorem d213_8 : decode (m_code 213) 8 = .ok (.if_icmp .ge 21, 3) := by decide +kernel
theorem d213_11 : decode (m_code 213) 11 = .ok (.aload_n 2, 1) := by decide +kernel
theorem d213_12 : decode (m_code 213) 12 = .ok (.iload_n 3, 1) := by decide +kernel
theorem d213_13 : decode (m_code 213) 13 = .ok (.iload 4, 2) := by decide +kernel
theorem d213_15 : decode (m_code 213) 15 = .ok (.iadd, 1) := by decide +kernel
theorem d213_16 : decode (m_code 213) 16 = .ok (.aload_n 0, 1) := by decide +kernel
theorem d213_17 : decode (m_code 213) 17 = .ok (.iload_n 1, 1) := by decide +kernel
theorem d213_18 : decode (m_code 213) 18 = .ok (.iload 4, 2) := by decide +kernel
theorem d213_20 : decode (m_code 213) 20 = .ok (.iadd, 1) := by decide +kernel
theorem d213_21 : decode (m_code 213) 21 = .ok (.iaload, 1) := by decide +kernel
theorem d213_22 : decode (m_code 213) 22 = .ok (.iastore, 1) := by decide +kernel
theorem d213_23 : decode (m_code 213) 23 = .ok (.iinc 4 1, 3) := by decide +kernel
theorem d213_26 : decode (m_code 213) 26 = .ok (.goto (-23), 3) := by decide +kernel
theorem d213_29 : decode (m_code 213) 29 = .ok (.return_, 1) := by decide +kernel
theorem m_set_twice {h : mH} {a : Nat} {c d : mC} : m_set (m_set h a c) a d = m_set h a d := by
  unfold m_set
  simp
theorem m_set_same {h : mH} {a : Nat} {c : mC} (hc : m_get h a = some c) : m_set h a c = h := by
  unfold m_set m_get at *
  have hl := (List.getElem?_eq_some_iff.mp hc).1
  have e := (List.getElem?_eq_some_iff.mp hc).2
  rw [← e, List.set_getElem_self]
theorem va_cpy_0 (f g : Nat → Int32) (s d : Nat) : va_cpy f g s d 0 = g := by
  funext k
  unfold va_cpy
  rw [if_neg (by omega)]
theorem va_cpy_succ (f g : Nat → Int32) (s d n : Nat) : upd (va_cpy f g s d n) (d + n) (f (s + n)) = va_cpy f g s d (n + 1) := by
  funext k
  unfold va_cpy upd
  split
  next h => subst h; rw [if_pos (by omega)]; congr 1; omega
  next h =>
    split
    next h2 => exact if_pos (by omega)
    next h2 => exact if_neg (by omega)
theorem c_copy_l {X : mX} {h : mH}  {a0 a1 n0 n1 f t : Nat} {fr to : Nat → Int32} (hg0 : m_get h a0 = some (.inl (false, n0, fr))) (hg1 : m_get h a1 = some (.inl (false, n1, to))) (hne : a0 ≠ a1) (hf : f + 4178 ≤ n0) (ht : t + 4178 ≤ n1) (hn0 : n0 < 2 ^ 31) (hn1 : n1 < 2 ^ 31) : ∀ (d : Nat) (k : Nat) (h2 : mH), 4178 - k = d → k ≤ 4178 → h2 = m_set h a1 (.inl (false, n1, va_cpy fr to f t k)) → m_wp X 213 3 [some (.ref a0), some (.int (nI f)), some (.ref a1), some (.int (nI t)), some (.int (nI k))] [] h2 (fun w h1 => w = none ∧ h1 = m_set h a1 (.inl (false, n1, va_cpy fr to f t 4178))) := by
  intro d
  induction d using Nat.strongRecOn with
  | ind d ih =>
    intro k h2 hd hk he
    refine wp_iload d213_3 rfl ?_
    refine wp_sipush d213_5 (v := nI 4178) (by decide) ?_
    refine wp_icmp_ge d213_8 (tgt := 29) (by decide) (fun hc8 => ?_) (fun hc8 => ?_)
    · have hc8 : 4178 ≤ k := (nI_leI (by omega) (by omega)).mp hc8
      refine wp_vret d213_29 (by decide +kernel) ?_
      exact ⟨rfl, by rw [he, show k = 4178 by omega]⟩
    · have hc8 : ¬ (4178 ≤ k) := fun z => hc8 ((nI_leI (by omega) (by omega)).mpr z)
      refine wp_aload_n d213_11 rfl ?_
      refine wp_iload_n d213_12 rfl ?_
      refine wp_iload d213_13 rfl ?_
      refine wp_iaddv d213_15 (v := nI (t + k)) (nI_add _ _) ?_
      refine wp_aload_n d213_16 rfl ?_
      refine wp_iload_n d213_17 rfl ?_
      refine wp_iload d213_18 rfl ?_
      refine wp_iaddv d213_20 (v := nI (f + k)) (nI_add _ _) ?_
      refine wp_iald d213_21 (by rw [he, m_get_ne (Ne.symm hne)]; exact hg0) (nI_in (by omega) (by omega)) (v := fr (f + k)) (congrArg fr (nI_nat (by omega))) ?_
      refine wp_iast d213_22 (by rw [he]; exact m_get_same hg1) (nI_in (by omega) (by omega)) ?_
      rw [nI_nat (by omega)]
      refine wp_iinc d213_23 rfl (v := nI (k + 1)) (nI_add _ 1) (Nat.le_of_ble_eq_true rfl) rfl ?_
      refine wp_goto d213_26 (tgt := 3) (by decide) ?_
      exact ih (4178 - (k + 1)) (by omega) (k + 1) _ rfl (by omega) (by rw [he, m_set_twice, va_cpy_succ])
theorem c_copy {X : mX} {h : mH}  {a0 a1 n0 n1 f t : Nat} {fr to : Nat → Int32} (hg0 : m_get h a0 = some (.inl (false, n0, fr))) (hg1 : m_get h a1 = some (.inl (false, n1, to))) (hne : a0 ≠ a1) (hf : f + 4178 ≤ n0) (ht : t + 4178 ≤ n1) (hn0 : n0 < 2 ^ 31) (hn1 : n1 < 2 ^ 31) : m_wp X 213 0 (m_entry 213 [.ref a0, .int (nI f), .ref a1, .int (nI t)]) [] h (fun w h1 => w = none ∧ h1 = m_set h a1 (.inl (false, n1, va_cpy fr to f t 4178))) := by
  refine wp_iconst d213_0 (v := nI 0) (by decide) ?_
  refine wp_istore d213_1 (Nat.le_of_ble_eq_true rfl) rfl ?_
  exact c_copy_l hg0 hg1 hne hf ht hn0 hn1 _ 0 h rfl (by omega) (by rw [va_cpy_0, m_set_same hg1])
/-- the history behind a record: the oldest state goes where four are held -/
def F_hs (H : Nat → Int32) (k : Nat) : Nat → Int32 := fun i => if i < k then H (i + 4178) else H i
theorem F_hs_0 (H : Nat → Int32) : F_hs H 0 = H := by
  funext i
  unfold F_hs
  rw [if_neg (by omega)]
theorem F_hs_succ (H : Nat → Int32) (k : Nat) : upd (F_hs H k) k (F_hs H k (k + 4178)) = F_hs H (k + 1) := by
  funext i
  unfold F_hs upd
  split
  next h => subst h; rw [if_neg (by omega), if_pos (by omega)]
  next h =>
    split
    next h2 => exact if_pos (by omega)
    next h2 => exact if_neg (by omega)
/-- recorded states (n of them), and the present one on top -/
def F_rec (R : Nat → Nat → Int32) (σ : Nat → Int32) (n : Nat) : Nat → Nat → Int32 :=
  if n = 4 then stM (updM R 0 5 (nI 4)) 4 (va_cpy σ (F_hs (R 4) 12534) 0 12534 4178)
  else stM (updM R 0 5 (nI (n + 1))) 4 (va_cpy σ (R 4) 0 (n * 4178) 4178)
theorem md_put0 {h : mH} {R : Nat → Nat → Int32} {σ : Nat → Int32} {k : Nat} {v : Int32} (hR : Ms h R σ) (hk : k = 3 ∨ k = 5 ∨ k = 7 ∨ k = 10) : Ms (m_set h 313 (.inr (12, ([.ref 314, .ref 315, .ref 316, .int (R 0 3), .ref 317, .int (R 0 5), .ref 318, .int (R 0 7), .ref 319, .ref 320, .int (R 0 10)] : List Value).set k (.int v)))) (updM R 0 k v) σ := by
  have h2 := hR.setM (o := 0) (f := upd (R 0) k v) (by decide) rfl
  have e : stM (stM R 1 σ) 0 (upd (R 0) k v) = stM (updM R 0 k v) 1 σ := by
    funext o i
    unfold stM updM
    by_cases h0 : o = 0
    · subst h0
      simp
    · simp [h0]
  rw [e] at h2
  have e2 : (mdlC 0 (upd (R 0) k v)) = .inr (12, ([.ref 314, .ref 315, .ref 316, .int (R 0 3), .ref 317, .int (R 0 5), .ref 318, .int (R 0 7), .ref 319, .ref 320, .int (R 0 10)] : List Value).set k (.int v)) := by
    rcases hk with rfl | rfl | rfl | rfl <;> rfl
  rw [e2] at h2
  exact h2
theorem md_putA {h : mH} {R : Nat → Nat → Int32} {σ : Nat → Int32} {f : Nat → Int32} {o n a : Nat} (hR : Ms h R σ) (ho : o < 8 ∧ 2 ≤ o) (ha : a = 313 + o) (hc : mdlC o f = .inl (false, n, f)) : Ms (m_set h a (.inl (false, n, f))) (stM R o f) σ := by
  subst ha
  have h2 := hR.setM (o := o) (f := f) (by omega) hc
  have e : stM (stM R 1 σ) o f = stM (stM R o f) 1 σ := by
    funext o2 i
    unfold stM
    by_cases h1 : o2 = o
    · subst h1
      rw [if_pos rfl, if_neg (by omega), if_pos rfl]
    · rw [if_neg h1]
      by_cases h3 : o2 = 1
      · rw [if_pos h3, if_pos h3]
      · rw [if_neg h3, if_neg h3, if_neg h1]
  rw [e] at h2
  exact h2
theorem md_putS {h : mH} {R : Nat → Nat → Int32} {σ f : Nat → Int32} (hR : Ms h R σ) : Ms (m_set h 314 (.inl (false, 4178, f))) R f := by
  have h2 := hR.setM (o := 1) (f := f) (by decide) rfl
  rw [stM_twice] at h2
  exact h2
theorem stM_id (R : Nat → Nat → Int32) (o : Nat) : stM R o (R o) = R := by
  funext o2 i
  unfold stM
  split
  next z => rw [z]
  next z => rfl
theorem F_rec_3 (R : Nat → Nat → Int32) (σ : Nat → Int32) {n : Nat} (h : n ≠ 4) : updM (stM R 4 (va_cpy σ (R 4) 0 (n * 4178) 4178)) 0 5 (nI (n + 1)) = F_rec R σ n := by
  unfold F_rec
  rw [if_neg h]
  funext o i
  unfold updM stM
  by_cases h0 : o = 0
  · subst h0; simp
  · by_cases h4 : o = 4
    · subst h4; simp
    · simp [h0, h4]
theorem F_rec_4 (R : Nat → Nat → Int32) (σ : Nat → Int32) : updM (stM (updM (stM R 4 (F_hs (R 4) 12534)) 0 5 (nI 3)) 4 (va_cpy σ (F_hs (R 4) 12534) 0 12534 4178)) 0 5 (nI 4) = F_rec R σ 4 := by
  unfold F_rec
  rw [if_pos rfl]
  funext o i
  unfold updM stM upd
  by_cases h0 : o = 0
  · subst h0
    simp
    split <;> rfl
  · by_cases h4 : o = 4
    · subst h4; simp
    · simp [h0, h4]
theorem c_record3 {X : mX} {h : mH} {R : Nat → Nat → Int32} {σ : Nat → Int32} (hR : Ms h R σ) {n : Nat} (hn : R 0 5 = nI n) (hn4 : n < 4) : Does X 212 [.ref 313] h (F_rec R σ n) (σ) none := by
  have hF : Frm h h 313 8 := Frm.rf
  refine wp_aload_n d212_0 rfl ?_
  refine wp_getf (e := 31) (ci := 12) (k := 5) (nest := false) (v := .int (nI n)) d212_1 (by decide +kernel) (md_0 hR) (by rw [← hn]; rfl) ?_
  refine wp_iconst d212_4 (v := nI 4) (by decide) ?_
  refine wp_icmp_ne d212_5 (tgt := 49) (by decide) (fun _ => ?_) (fun hz => absurd hz (fun z => by have := (nI_eq (by omega) (by omega)).mp z; omega))
  refine wp_aload_n d212_49 rfl ?_
  refine wp_getf (e := 7) (ci := 12) (k := 0) (nest := false) d212_50 (by decide +kernel) (md_0 hR) rfl ?_
  refine wp_iconst d212_53 (v := nI 0) (by decide) ?_
  refine wp_aload_n d212_54 rfl ?_
  refine wp_getf (e := 19) (ci := 12) (k := 4) (nest := false) d212_55 (by decide +kernel) (md_0 hR) rfl ?_
  refine wp_aload_n d212_58 rfl ?_
  refine wp_getf (e := 31) (ci := 12) (k := 5) (nest := false) (v := .int (nI n)) d212_59 (by decide +kernel) (md_0 hR) (by rw [← hn]; rfl) ?_
  refine wp_sipush d212_62 (v := nI 4178) (by decide) ?_
  refine wp_imulv d212_65 (v := nI (n * 4178)) (nI_mul _ _) ?_
  refine wp_invs (e := 35) (j2 := 213) (n := 4) d212_66 (by decide +kernel) (by decide +kernel) rfl rfl rfl (Nat.le_of_ble_eq_true rfl) (Nat.le_of_ble_eq_true rfl) rfl rfl (Nat.le_of_ble_eq_true rfl) (by decide +kernel) (c_copy (f := 0) (t := n * 4178) (md_1 hR) (md_4 hR) (by decide) (by omega) (by omega) (by decide) (by decide)) ?_
  rintro _ _ ⟨rfl, rfl⟩
  have hF := hF.trans (Frm.set (o := 4) (cl := .inl (false, 16712, (va_cpy σ (R 4) (0) (n * 4178) 4178))) (by decide) : Frm _ _ 313 8)
  have hR := md_putA (o := 4) (n := 16712) (f := (va_cpy σ (R 4) (0) (n * 4178) 4178)) hR (by decide) rfl rfl
  refine wp_aload_n d212_69 rfl ?_
  refine wp_dup d212_70 rfl ?_
  refine wp_getf (e := 31) (ci := 12) (k := 5) (nest := false) (v := .int (nI n)) d212_71 (by decide +kernel) (md_0 hR) (by rw [← hn]; rfl) ?_
  refine wp_iconst d212_74 (v := nI 1) (by decide) ?_
  refine wp_iaddv d212_75 (v := nI (n + 1)) (nI_add _ _) ?_
  refine wp_putf (e := 31) (ci := 12) (k := 5) (nest := false) d212_76 (by decide +kernel) (md_0 hR) (Nat.le_of_ble_eq_true rfl) rfl (Or.inl (by decide +kernel)) ?_
  have hF := hF.trans (Frm.set (o := 0) (cl := .inr (12, ([.ref 314, .ref 315, .ref 316, .int ((stM R 4 (va_cpy σ (R 4) (0) (n * 4178) 4178)) 0 3), .ref 317, .int ((stM R 4 (va_cpy σ (R 4) (0) (n * 4178) 4178)) 0 5), .ref 318, .int ((stM R 4 (va_cpy σ (R 4) (0) (n * 4178) 4178)) 0 7), .ref 319, .ref 320, .int ((stM R 4 (va_cpy σ (R 4) (0) (n * 4178) 4178)) 0 10)] : List Value).set 5 (.int (nI (n + 1))))) (by decide) : Frm _ _ 313 8)
  have hR := md_put0 (k := 5) (v := nI (n + 1)) hR (by decide)
  refine wp_vret d212_79 (by decide +kernel) ?_
  exact ⟨rfl, by rw [← F_rec_3 R σ (by omega)]; exact hR, hF⟩
theorem c_record_l {X : mX}  {h0 : mH} {R : Nat → Nat → Int32} {σ : Nat → Int32} {H : Nat → Int32} {Q : Option Value → mH → Prop} : ∀ (d : Nat) (k : Nat) (h : mH), 12534 - k = d → k ≤ 12534 → Ms h (stM R 4 (F_hs H k)) σ → Frm h0 h 313 8 → (∀ h1, Ms h1 (stM R 4 (F_hs H 12534)) σ → Frm h0 h1 313 8 → ∀ v, m_wp X 212 39 [some (.ref 313), some (.int v)] [] h1 Q) → m_wp X 212 10 [some (.ref 313), some (.int (nI k))] [] h Q := by
  intro d
  induction d using Nat.strongRecOn with
  | ind d ih =>
    intro k h hd hk hR hF K
    refine wp_iload_n d212_10 rfl ?_
    refine wp_sipush d212_11 (v := nI 12534) (by decide) ?_
    refine wp_icmp_ge d212_14 (tgt := 39) (by decide) (fun hc14 => ?_) (fun hc14 => ?_)
    · have hc14 : 12534 ≤ k := (nI_leI (by omega) (by omega)).mp hc14
      rw [show k = 12534 by omega] at hR
      exact K _ hR hF _
    · have hc14 : ¬ (12534 ≤ k) := fun z => hc14 ((nI_leI (by omega) (by omega)).mpr z)
      refine wp_aload_n d212_17 rfl ?_
      refine wp_getf (e := 19) (ci := 12) (k := 4) (nest := false) d212_18 (by decide +kernel) (md_0 hR) rfl ?_
      refine wp_iload_n d212_21 rfl ?_
      refine wp_aload_n d212_22 rfl ?_
      refine wp_getf (e := 19) (ci := 12) (k := 4) (nest := false) d212_23 (by decide +kernel) (md_0 hR) rfl ?_
      refine wp_iload_n d212_26 rfl ?_
      refine wp_sipush d212_27 (v := nI 4178) (by decide) ?_
      refine wp_iaddv d212_30 (v := nI (k + 4178)) (nI_add _ _) ?_
      refine wp_iald d212_31 (md_4 hR) (nI_in (by omega) (by decide)) (v := (F_hs H k (k + 4178))) (congrArg (F_hs H k) (nI_nat (by omega))) ?_
      refine wp_iast d212_32 (md_4 hR) (nI_in (by omega) (by decide)) ?_
      rw [nI_nat (by omega)]
      have hF := hF.trans (Frm.set (o := 4) (cl := .inl (false, 16712, upd (F_hs H k) k (F_hs H k (k + 4178)))) (by decide) : Frm _ _ 313 8)
      have hR := md_putA (o := 4) (n := 16712) (f := upd (F_hs H k) k (F_hs H k (k + 4178))) hR (by decide) rfl rfl
      show m_wp X 212 _ _ _ (m_set h (313 + 4) (.inl (false, 16712, upd (F_hs H k) k (F_hs H k (k + 4178))))) _
      rw [stM_twice, F_hs_succ] at hR
      rw [F_hs_succ] at hF ⊢
      refine wp_iinc d212_33 rfl (v := nI (k + 1)) (nI_add _ 1) (Nat.le_of_ble_eq_true rfl) rfl ?_
      refine wp_goto d212_36 (tgt := 10) (by decide) ?_
      exact ih (12534 - (k + 1)) (by omega) (k + 1) _ rfl (by omega) hR hF K
theorem c_record4 {X : mX} {h : mH} {R : Nat → Nat → Int32} {σ : Nat → Int32} (hR : Ms h R σ) (hn : R 0 5 = nI 4) : Does X 212 [.ref 313] h (F_rec R σ 4) (σ) none := by
  have hF : Frm h h 313 8 := Frm.rf
  refine wp_aload_n d212_0 rfl ?_
  refine wp_getf (e := 31) (ci := 12) (k := 5) (nest := false) (v := .int (nI 4)) d212_1 (by decide +kernel) (md_0 hR) (by rw [← hn]; rfl) ?_
  refine wp_iconst d212_4 (v := nI 4) (by decide) ?_
  refine wp_icmp_ne d212_5 (tgt := 49) (by decide) (fun hz => absurd hz (by decide)) (fun _ => ?_)
  refine wp_iconst d212_8 (v := nI 0) (by decide) ?_
  refine wp_istore_n d212_9 (Nat.le_of_ble_eq_true rfl) rfl ?_
  refine c_record_l (σ := σ) (H := R 4) (R := R) _ 0 h rfl (by omega) (by rw [F_hs_0, stM_id]; exact hR) hF ?_
  intro h hR hF v
  refine wp_aload_n d212_39 rfl ?_
  refine wp_dup d212_40 rfl ?_
  refine wp_getf (e := 31) (ci := 12) (k := 5) (nest := false) (v := .int (nI 4)) d212_41 (by decide +kernel) (md_0 hR) (by rw [← hn]; rfl) ?_
  refine wp_iconst d212_44 (v := nI 1) (by decide) ?_
  refine wp_isubv d212_45 (v := nI 3) (by decide) ?_
  refine wp_putf (e := 31) (ci := 12) (k := 5) (nest := false) d212_46 (by decide +kernel) (md_0 hR) (Nat.le_of_ble_eq_true rfl) rfl (Or.inl (by decide +kernel)) ?_
  have hF := hF.trans (Frm.set (o := 0) (cl := .inr (12, ([.ref 314, .ref 315, .ref 316, .int ((stM R 4 (F_hs (R 4) 12534)) 0 3), .ref 317, .int ((stM R 4 (F_hs (R 4) 12534)) 0 5), .ref 318, .int ((stM R 4 (F_hs (R 4) 12534)) 0 7), .ref 319, .ref 320, .int ((stM R 4 (F_hs (R 4) 12534)) 0 10)] : List Value).set 5 (.int (nI 3)))) (by decide) : Frm _ _ 313 8)
  have hR := md_put0 (k := 5) (v := nI 3) hR (by decide)
  refine wp_aload_n d212_49 rfl ?_
  refine wp_getf (e := 7) (ci := 12) (k := 0) (nest := false) d212_50 (by decide +kernel) (md_0 hR) rfl ?_
  refine wp_iconst d212_53 (v := nI 0) (by decide) ?_
  refine wp_aload_n d212_54 rfl ?_
  refine wp_getf (e := 19) (ci := 12) (k := 4) (nest := false) d212_55 (by decide +kernel) (md_0 hR) rfl ?_
  refine wp_aload_n d212_58 rfl ?_
  refine wp_getf (e := 31) (ci := 12) (k := 5) (nest := false) (v := .int (nI 3)) d212_59 (by decide +kernel) (md_0 hR) rfl ?_
  refine wp_sipush d212_62 (v := nI 4178) (by decide) ?_
  refine wp_imulv d212_65 (v := nI 12534) (nI_mul _ _) ?_
  refine wp_invs (e := 35) (j2 := 213) (n := 4) d212_66 (by decide +kernel) (by decide +kernel) rfl rfl rfl (Nat.le_of_ble_eq_true rfl) (Nat.le_of_ble_eq_true rfl) rfl rfl (Nat.le_of_ble_eq_true rfl) (by decide +kernel) (c_copy (f := 0) (t := 12534) (md_1 hR) (md_4 hR) (by decide) (by omega) (by omega) (by decide) (by decide)) ?_
  rintro _ _ ⟨rfl, rfl⟩
  have hF := hF.trans (Frm.set (o := 4) (cl := .inl (false, 16712, (va_cpy σ ((F_hs (R 4) 12534)) (0) (12534) 4178))) (by decide) : Frm _ _ 313 8)
  have hR := md_putA (o := 4) (n := 16712) (f := (va_cpy σ ((F_hs (R 4) 12534)) (0) (12534) 4178)) hR (by decide) rfl rfl
  refine wp_aload_n d212_69 rfl ?_
  refine wp_dup d212_70 rfl ?_
  refine wp_getf (e := 31) (ci := 12) (k := 5) (nest := false) (v := .int (nI 3)) d212_71 (by decide +kernel) (md_0 hR) rfl ?_
  refine wp_iconst d212_74 (v := nI 1) (by decide) ?_
  refine wp_iaddv d212_75 (v := nI 4) (nI_add _ _) ?_
  refine wp_putf (e := 31) (ci := 12) (k := 5) (nest := false) d212_76 (by decide +kernel) (md_0 hR) (Nat.le_of_ble_eq_true rfl) rfl (Or.inl (by decide +kernel)) ?_
  have hF := hF.trans (Frm.set (o := 0) (cl := .inr (12, ([.ref 314, .ref 315, .ref 316, .int ((stM (updM (stM R 4 (F_hs (R 4) 12534)) 0 5 (nI 3)) 4 (va_cpy σ ((F_hs (R 4) 12534)) (0) (12534) 4178)) 0 3), .ref 317, .int ((stM (updM (stM R 4 (F_hs (R 4) 12534)) 0 5 (nI 3)) 4 (va_cpy σ ((F_hs (R 4) 12534)) (0) (12534) 4178)) 0 5), .ref 318, .int ((stM (updM (stM R 4 (F_hs (R 4) 12534)) 0 5 (nI 3)) 4 (va_cpy σ ((F_hs (R 4) 12534)) (0) (12534) 4178)) 0 7), .ref 319, .ref 320, .int ((stM (updM (stM R 4 (F_hs (R 4) 12534)) 0 5 (nI 3)) 4 (va_cpy σ ((F_hs (R 4) 12534)) (0) (12534) 4178)) 0 10)] : List Value).set 5 (.int (nI 4)))) (by decide) : Frm _ _ 313 8)
  have hR := md_put0 (k := 5) (v := nI 4) hR (by decide)
  refine wp_vret d212_79 (by decide +kernel) ?_
  exact ⟨rfl, by rw [← F_rec_4 R σ]; exact hR, hF⟩
end
section
/-! The reference's acts: the house. -/
theorem d208_0 : decode (m_code 208) 0 = .ok (.iload_n 1, 1) := by decide +kernel
theorem d208_1 : decode (m_code 208) 1 = .ok (.invokestatic 43, 3) := by decide +kernel
theorem d208_4 : decode (m_code 208) 4 = .ok (.ifCond .ne 7, 3) := by decide +kernel
theorem d208_7 : decode (m_code 208) 7 = .ok (.iconst (-1), 1) := by decide +kernel
theorem d208_8 : decode (m_code 208) 8 = .ok (.goto 32, 3) := by decide +kernel
theorem d208_11 : decode (m_code 208) 11 = .ok (.iload_n 2, 1) := by decide +kernel
theorem d208_12 : decode (m_code 208) 12 = .ok (.invokestatic 47, 3) := by decide +kernel
theorem d208_15 : decode (m_code 208) 15 = .ok (.ifCond .ne 8, 3) := by decide +kernel
theorem d208_18 : decode (m_code 208) 18 = .ok (.bipush (-2), 2) := by decide +kernel
theorem d208_20 : decode (m_code 208) 20 = .ok (.goto 20, 3) := by decide +kernel
theorem d208_23 : decode (m_code 208) 23 = .ok (.aload_n 0, 1) := by decide +kernel
theorem d208_24 : decode (m_code 208) 24 = .ok (.getfield 7, 3) := by decide +kernel
theorem d208_27 : decode (m_code 208) 27 = .ok (.iconst 2, 1) := by decide +kernel
theorem d208_28 : decode (m_code 208) 28 = .ok (.iaload, 1) := by decide +kernel
theorem d208_29 : decode (m_code 208) 29 = .ok (.bipush 12, 2) := by decide +kernel
theorem d208_31 : decode (m_code 208) 31 = .ok (.if_icmp .ne 8, 3) := by decide +kernel
theorem d208_34 : decode (m_code 208) 34 = .ok (.bipush (-3), 2) := by decide +kernel
theorem d208_36 : decode (m_code 208) 36 = .ok (.goto 4, 3) := by decide +kernel
theorem d208_39 : decode (m_code 208) 39 = .ok (.iconst 0, 1) := by decide +kernel
theorem d208_40 : decode (m_code 208) 40 = .ok (.istore_n 3, 1) := by decide +kernel
theorem d208_41 : decode (m_code 208) 41 = .ok (.iload_n 3, 1) := by decide +kernel
theorem d208_42 : decode (m_code 208) 42 = .ok (.ifCond .ge 5, 3) := by decide +kernel
theorem d208_45 : decode (m_code 208) 45 = .ok (.iload_n 3, 1) := by decide +kernel
theorem d208_46 : decode (m_code 208) 46 = .ok (.ireturn, 1) := by decide +kernel
theorem d208_47 : decode (m_code 208) 47 = .ok (.aload_n 0, 1) := by decide +kernel
theorem d208_48 : decode (m_code 208) 48 = .ok (.invokevirtual 50, 3) := by decide +kernel
theorem d208_51 : decode (m_code 208) 51 = .ok (.aload_n 0, 1) := by decide +kernel
theorem d208_52 : decode (m_code 208) 52 = .ok (.getfield 7, 3) := by decide +kernel
theorem d208_55 : decode (m_code 208) 55 = .ok (.iconst 2, 1) := by decide +kernel
theorem d208_56 : decode (m_code 208) 56 = .ok (.iaload, 1) := by decide +kernel
theorem d208_57 : decode (m_code 208) 57 = .ok (.istore 4, 2) := by decide +kernel
theorem d208_59 : decode (m_code 208) 59 = .ok (.iconst 0, 1) := by decide +kernel
theorem d208_60 : decode (m_code 208) 60 = .ok (.istore 5, 2) := by decide +kernel
theorem d208_62 : decode (m_code 208) 62 = .ok (.iload 5, 2) := by decide +kernel
theorem d208_64 : decode (m_code 208) 64 = .ok (.bipush 6, 2) := by decide +kernel
theorem d208_66 : decode (m_code 208) 66 = .ok (.if_icmp .ge 26, 3) := by decide +kernel
theorem d208_69 : decode (m_code 208) 69 = .ok (.aload_n 0, 1) := by decide +kernel
theorem d208_70 : decode (m_code 208) 70 = .ok (.getfield 7, 3) := by decide +kernel
theorem d208_73 : decode (m_code 208) 73 = .ok (.bipush 20, 2) := by decide +kernel
theorem d208_75 : decode (m_code 208) 75 = .ok (.bipush 6, 2) := by decide +kernel
theorem d208_77 : decode (m_code 208) 77 = .ok (.iload 4, 2) := by decide +kernel
theorem d208_79 : decode (m_code 208) 79 = .ok (.imul, 1) := by decide +kernel
theorem d208_80 : decode (m_code 208) 80 = .ok (.iadd, 1) := by decide +kernel
theorem d208_81 : decode (m_code 208) 81 = .ok (.iload 5, 2) := by decide +kernel
theorem d208_83 : decode (m_code 208) 83 = .ok (.iadd, 1) := by decide +kernel
theorem d208_84 : decode (m_code 208) 84 = .ok (.iconst 0, 1) := by decide +kernel
theorem d208_85 : decode (m_code 208) 85 = .ok (.iastore, 1) := by decide +kernel
theorem d208_86 : decode (m_code 208) 86 = .ok (.iinc 5 1, 3) := by decide +kernel
theorem d208_89 : decode (m_code 208) 89 = .ok (.goto (-27), 3) := by decide +kernel
theorem d208_92 : decode (m_code 208) 92 = .ok (.aload_n 0, 1) := by decide +kernel
theorem d208_93 : decode (m_code 208) 93 = .ok (.getfield 7, 3) := by decide +kernel
theorem d208_96 : decode (m_code 208) 96 = .ok (.bipush 20, 2) := by decide +kernel
theorem d208_98 : decode (m_code 208) 98 = .ok (.bipush 6, 2) := by decide +kernel
theorem d208_100 : decode (m_code 208) 100 = .ok (.iload 4, 2) := by decide +kernel
theorem d208_102 : decode (m_code 208) 102 = .ok (.imul, 1) := by decide +kernel
theorem d208_103 : decode (m_code 208) 103 = .ok (.iadd, 1) := by decide +kernel
theorem d208_104 : decode (m_code 208) 104 = .ok (.iconst 0, 1) := by decide +kernel
theorem d208_105 : decode (m_code 208) 105 = .ok (.iadd, 1) := by decide +kernel
theorem d208_106 : decode (m_code 208) 106 = .ok (.iload_n 1, 1) := by decide +kernel
theorem d208_107 : decode (m_code 208) 107 = .ok (.iastore, 1) := by decide +kernel
theorem d208_108 : decode (m_code 208) 108 = .ok (.aload_n 0, 1) := by decide +kernel
theorem d208_109 : decode (m_code 208) 109 = .ok (.getfield 7, 3) := by decide +kernel
theorem d208_112 : decode (m_code 208) 112 = .ok (.bipush 20, 2) := by decide +kernel
theorem d208_114 : decode (m_code 208) 114 = .ok (.bipush 6, 2) := by decide +kernel
theorem d208_116 : decode (m_code 208) 116 = .ok (.iload 4, 2) := by decide +kernel
theorem d208_118 : decode (m_code 208) 118 = .ok (.imul, 1) := by decide +kernel
theorem d208_119 : decode (m_code 208) 119 = .ok (.iadd, 1) := by decide +kernel
theorem d208_120 : decode (m_code 208) 120 = .ok (.iconst 1, 1) := by decide +kernel
theorem d208_121 : decode (m_code 208) 121 = .ok (.iadd, 1) := by decide +kernel
theorem d208_122 : decode (m_code 208) 122 = .ok (.iload_n 2, 1) := by decide +kernel
theorem d208_123 : decode (m_code 208) 123 = .ok (.iastore, 1) := by decide +kernel
theorem d208_124 : decode (m_code 208) 124 = .ok (.aload_n 0, 1) := by decide +kernel
theorem d208_125 : decode (m_code 208) 125 = .ok (.getfield 7, 3) := by decide +kernel
theorem d208_128 : decode (m_code 208) 128 = .ok (.iconst 2, 1) := by decide +kernel
theorem d208_129 : decode (m_code 208) 129 = .ok (.dup2, 1) := by decide +kernel
theorem d208_130 : decode (m_code 208) 130 = .ok (.iaload, 1) := by decide +kernel
theorem d208_131 : decode (m_code 208) 131 = .ok (.iconst 1, 1) := by decide +kernel
theorem d208_132 : decode (m_code 208) 132 = .ok (.iadd, 1) := by decide +kernel
theorem d208_133 : decode (m_code 208) 133 = .ok (.iastore, 1) := by decide +kernel
theorem d208_134 : decode (m_code 208) 134 = .ok (.iload 4, 2) := by decide +kernel
theorem d208_136 : decode (m_code 208) 136 = .ok (.ireturn, 1) := by decide +kernel
theorem d214_0 : decode (m_code 214) 0 = .ok (.aload_n 0, 1) := by decide +kernel
theorem d214_1 : decode (m_code 214) 1 = .ok (.iload_n 1, 1) := by decide +kernel
theorem d214_2 : decode (m_code 214) 2 = .ok (.invokevirtual 57, 3) := by decide +kernel
theorem d214_5 : decode (m_code 214) 5 = .ok (.ifCond .eq 11, 3) := by decide +kernel
theorem d214_8 : decode (m_code 214) 8 = .ok (.aload_n 0, 1) := by decide +kernel
theorem d214_9 : decode (m_code 214) 9 = .ok (.iload_n 2, 1) := by decide +kernel
theorem d214_10 : decode (m_code 214) 10 = .ok (.invokevirtual 57, 3) := by decide +kernel
theorem d214_13 : decode (m_code 214) 13 = .ok (.ifCond .ne 5, 3) := by decide +kernel
theorem d214_16 : decode (m_code 214) 16 = .ok (.iconst (-1), 1) := by decide +kernel
theorem d214_17 : decode (m_code 214) 17 = .ok (.ireturn, 1) := by decide +kernel
theorem d214_18 : decode (m_code 214) 18 = .ok (.iload_n 3, 1) := by decide +kernel
theorem d214_19 : decode (m_code 214) 19 = .ok (.iconst 1, 1) := by decide +kernel
theorem d214_20 : decode (m_code 214) 20 = .ok (.bipush 9, 2) := by decide +kernel
theorem d214_22 : decode (m_code 214) 22 = .ok (.invokestatic 39, 3) := by decide +kernel
theorem d214_25 : decode (m_code 214) 25 = .ok (.ifCond .eq 19, 3) := by decide +kernel
theorem d214_28 : decode (m_code 214) 28 = .ok (.iload 4, 2) := by decide +kernel
theorem d214_30 : decode (m_code 214) 30 = .ok (.iconst (-1), 1) := by decide +kernel
theorem d214_31 : decode (m_code 214) 31 = .ok (.bipush 7, 2) := by decide +kernel
theorem d214_33 : decode (m_code 214) 33 = .ok (.invokestatic 39, 3) := by decide +kernel
theorem d214_36 : decode (m_code 214) 36 = .ok (.ifCond .eq 8, 3) := by decide +kernel
theorem d214_39 : decode (m_code 214) 39 = .ok (.iload_n 1, 1) := by decide +kernel
theorem d214_40 : decode (m_code 214) 40 = .ok (.iload_n 2, 1) := by decide +kernel
theorem d214_41 : decode (m_code 214) 41 = .ok (.if_icmp .ne 6, 3) := by decide +kernel
theorem d214_44 : decode (m_code 214) 44 = .ok (.bipush (-2), 2) := by decide +kernel
theorem d214_46 : decode (m_code 214) 46 = .ok (.ireturn, 1) := by decide +kernel
theorem d214_47 : decode (m_code 214) 47 = .ok (.aload_n 0, 1) := by decide +kernel
theorem d214_48 : decode (m_code 214) 48 = .ok (.iload_n 1, 1) := by decide +kernel
theorem d214_49 : decode (m_code 214) 49 = .ok (.iload_n 2, 1) := by decide +kernel
theorem d214_50 : decode (m_code 214) 50 = .ok (.invokevirtual 60, 3) := by decide +kernel
theorem d214_53 : decode (m_code 214) 53 = .ok (.bipush (-5), 2) := by decide +kernel
theorem d214_55 : decode (m_code 214) 55 = .ok (.if_icmp .eq 6, 3) := by decide +kernel
theorem d214_58 : decode (m_code 214) 58 = .ok (.bipush (-4), 2) := by decide +kernel
theorem d214_60 : decode (m_code 214) 60 = .ok (.ireturn, 1) := by decide +kernel
theorem d214_61 : decode (m_code 214) 61 = .ok (.aload_n 0, 1) := by decide +kernel
theorem d214_62 : decode (m_code 214) 62 = .ok (.getfield 7, 3) := by decide +kernel
theorem d214_65 : decode (m_code 214) 65 = .ok (.iconst 3, 1) := by decide +kernel
theorem d214_66 : decode (m_code 214) 66 = .ok (.iaload, 1) := by decide +kernel
theorem d214_67 : decode (m_code 214) 67 = .ok (.bipush 20, 2) := by decide +kernel
theorem d214_69 : decode (m_code 214) 69 = .ok (.if_icmp .ne 6, 3) := by decide +kernel
theorem d214_72 : decode (m_code 214) 72 = .ok (.bipush (-3), 2) := by decide +kernel
theorem d214_74 : decode (m_code 214) 74 = .ok (.ireturn, 1) := by decide +kernel
theorem d214_75 : decode (m_code 214) 75 = .ok (.aload_n 0, 1) := by decide +kernel
theorem d214_76 : decode (m_code 214) 76 = .ok (.invokevirtual 50, 3) := by decide +kernel
theorem d214_79 : decode (m_code 214) 79 = .ok (.aload_n 0, 1) := by decide +kernel
theorem d214_80 : decode (m_code 214) 80 = .ok (.getfield 7, 3) := by decide +kernel
theorem d214_83 : decode (m_code 214) 83 = .ok (.iconst 3, 1) := by decide +kernel
theorem d214_84 : decode (m_code 214) 84 = .ok (.iaload, 1) := by decide +kernel
theorem d214_85 : decode (m_code 214) 85 = .ok (.istore 5, 2) := by decide +kernel
theorem d214_87 : decode (m_code 214) 87 = .ok (.aload_n 0, 1) := by decide +kernel
theorem d214_88 : decode (m_code 214) 88 = .ok (.getfield 7, 3) := by decide +kernel
theorem d214_91 : decode (m_code 214) 91 = .ok (.bipush 92, 2) := by decide +kernel
theorem d214_93 : decode (m_code 214) 93 = .ok (.iconst 5, 1) := by decide +kernel
theorem d214_94 : decode (m_code 214) 94 = .ok (.iload 5, 2) := by decide +kernel
theorem d214_96 : decode (m_code 214) 96 = .ok (.imul, 1) := by decide +kernel
theorem d214_97 : decode (m_code 214) 97 = .ok (.iadd, 1) := by decide +kernel
theorem d214_98 : decode (m_code 214) 98 = .ok (.iconst 0, 1) := by decide +kernel
theorem d214_99 : decode (m_code 214) 99 = .ok (.iadd, 1) := by decide +kernel
theorem d214_100 : decode (m_code 214) 100 = .ok (.iload_n 1, 1) := by decide +kernel
theorem d214_101 : decode (m_code 214) 101 = .ok (.iastore, 1) := by decide +kernel
theorem d214_102 : decode (m_code 214) 102 = .ok (.aload_n 0, 1) := by decide +kernel
theorem d214_103 : decode (m_code 214) 103 = .ok (.getfield 7, 3) := by decide +kernel
theorem d214_106 : decode (m_code 214) 106 = .ok (.bipush 92, 2) := by decide +kernel
theorem d214_108 : decode (m_code 214) 108 = .ok (.iconst 5, 1) := by decide +kernel
theorem d214_109 : decode (m_code 214) 109 = .ok (.iload 5, 2) := by decide +kernel
theorem d214_111 : decode (m_code 214) 111 = .ok (.imul, 1) := by decide +kernel
theorem d214_112 : decode (m_code 214) 112 = .ok (.iadd, 1) := by decide +kernel
theorem d214_113 : decode (m_code 214) 113 = .ok (.iconst 1, 1) := by decide +kernel
theorem d214_114 : decode (m_code 214) 114 = .ok (.iadd, 1) := by decide +kernel
theorem d214_115 : decode (m_code 214) 115 = .ok (.iload_n 2, 1) := by decide +kernel
theorem d214_116 : decode (m_code 214) 116 = .ok (.iastore, 1) := by decide +kernel
theorem d214_117 : decode (m_code 214) 117 = .ok (.aload_n 0, 1) := by decide +kernel
theorem d214_118 : decode (m_code 214) 118 = .ok (.getfield 7, 3) := by decide +kernel
theorem d214_121 : decode (m_code 214) 121 = .ok (.bipush 92, 2) := by decide +kernel
theorem d214_123 : decode (m_code 214) 123 = .ok (.iconst 5, 1) := by decide +kernel
theorem d214_124 : decode (m_code 214) 124 = .ok (.iload 5, 2) := by decide +kernel
theorem d214_126 : decode (m_code 214) 126 = .ok (.imul, 1) := by decide +kernel
theorem d214_127 : decode (m_code 214) 127 = .ok (.iadd, 1) := by decide +kernel
theorem d214_128 : decode (m_code 214) 128 = .ok (.iconst 2, 1) := by decide +kernel
theorem d214_129 : decode (m_code 214) 129 = .ok (.iadd, 1) := by decide +kernel
theorem d214_130 : decode (m_code 214) 130 = .ok (.iload_n 3, 1) := by decide +kernel
theorem d214_131 : decode (m_code 214) 131 = .ok (.iastore, 1) := by decide +kernel
theorem d214_132 : decode (m_code 214) 132 = .ok (.aload_n 0, 1) := by decide +kernel
theorem d214_133 : decode (m_code 214) 133 = .ok (.getfield 7, 3) := by decide +kernel
theorem d214_136 : decode (m_code 214) 136 = .ok (.bipush 92, 2) := by decide +kernel
theorem d214_138 : decode (m_code 214) 138 = .ok (.iconst 5, 1) := by decide +kernel
theorem d214_139 : decode (m_code 214) 139 = .ok (.iload 5, 2) := by decide +kernel
theorem d214_141 : decode (m_code 214) 141 = .ok (.imul, 1) := by decide +kernel
theorem d214_142 : decode (m_code 214) 142 = .ok (.iadd, 1) := by decide +kernel
theorem d214_143 : decode (m_code 214) 143 = .ok (.iconst 3, 1) := by decide +kernel
theorem d214_144 : decode (m_code 214) 144 = .ok (.iadd, 1) := by decide +kernel
theorem d214_145 : decode (m_code 214) 145 = .ok (.iload 4, 2) := by decide +kernel
theorem d214_147 : decode (m_code 214) 147 = .ok (.iastore, 1) := by decide +kernel
theorem d214_148 : decode (m_code 214) 148 = .ok (.aload_n 0, 1) := by decide +kernel
theorem d214_149 : decode (m_code 214) 149 = .ok (.getfield 7, 3) := by decide +kernel
theorem d214_152 : decode (m_code 214) 152 = .ok (.bipush 92, 2) := by decide +kernel
theorem d214_154 : decode (m_code 214) 154 = .ok (.iconst 5, 1) := by decide +kernel
theorem d214_155 : decode (m_code 214) 155 = .ok (.iload 5, 2) := by decide +kernel
theorem d214_157 : decode (m_code 214) 157 = .ok (.imul, 1) := by decide +kernel
theorem d214_158 : decode (m_code 214) 158 = .ok (.iadd, 1) := by decide +kernel
theorem d214_159 : decode (m_code 214) 159 = .ok (.iconst 4, 1) := by decide +kernel
theorem d214_160 : decode (m_code 214) 160 = .ok (.iadd, 1) := by decide +kernel
theorem d214_161 : decode (m_code 214) 161 = .ok (.iconst 0, 1) := by decide +kernel
theorem d214_162 : decode (m_code 214) 162 = .ok (.iastore, 1) := by decide +kernel
theorem d214_163 : decode (m_code 214) 163 = .ok (.aload_n 0, 1) := by decide +kernel
theorem d214_164 : decode (m_code 214) 164 = .ok (.getfield 7, 3) := by decide +kernel
theorem d214_167 : decode (m_code 214) 167 = .ok (.iconst 3, 1) := by decide +kernel
theorem d214_168 : decode (m_code 214) 168 = .ok (.dup2, 1) := by decide +kernel
theorem d214_169 : decode (m_code 214) 169 = .ok (.iaload, 1) := by decide +kernel
theorem d214_170 : decode (m_code 214) 170 = .ok (.iconst 1, 1) := by decide +kernel
theorem d214_171 : decode (m_code 214) 171 = .ok (.iadd, 1) := by decide +kernel
theorem d214_172 : decode (m_code 214) 172 = .ok (.iastore, 1) := by decide +kernel
theorem d214_173 : decode (m_code 214) 173 = .ok (.iload 5, 2) := by decide +kernel
theorem d214_175 : decode (m_code 214) 175 = .ok (.ireturn, 1) := by decide +kernel
theorem d218_0 : decode (m_code 218) 0 = .ok (.aload_n 0, 1) := by decide +kernel
theorem d218_1 : decode (m_code 218) 1 = .ok (.iload_n 1, 1) := by decide +kernel
theorem d218_2 : decode (m_code 218) 2 = .ok (.invokevirtual 57, 3) := by decide +kernel
theorem d218_5 : decode (m_code 218) 5 = .ok (.ifCond .ne 7, 3) := by decide +kernel
theorem d218_8 : decode (m_code 218) 8 = .ok (.iconst (-1), 1) := by decide +kernel
theorem d218_9 : decode (m_code 218) 9 = .ok (.goto 40, 3) := by decide +kernel
theorem d218_12 : decode (m_code 218) 12 = .ok (.iload_n 2, 1) := by decide +kernel
theorem d218_13 : decode (m_code 218) 13 = .ok (.invokestatic 47, 3) := by decide +kernel
theorem d218_16 : decode (m_code 218) 16 = .ok (.ifCond .ne 8, 3) := by decide +kernel
theorem d218_19 : decode (m_code 218) 19 = .ok (.bipush (-2), 2) := by decide +kernel
theorem d218_21 : decode (m_code 218) 21 = .ok (.goto 28, 3) := by decide +kernel
theorem d218_24 : decode (m_code 218) 24 = .ok (.iload_n 1, 1) := by decide +kernel
theorem d218_25 : decode (m_code 218) 25 = .ok (.ifCond .ne 8, 3) := by decide +kernel
theorem d218_28 : decode (m_code 218) 28 = .ok (.bipush (-4), 2) := by decide +kernel
theorem d218_30 : decode (m_code 218) 30 = .ok (.goto 19, 3) := by decide +kernel
theorem d218_33 : decode (m_code 218) 33 = .ok (.aload_n 0, 1) := by decide +kernel
theorem d218_34 : decode (m_code 218) 34 = .ok (.iload_n 1, 1) := by decide +kernel
theorem d218_35 : decode (m_code 218) 35 = .ok (.iconst 1, 1) := by decide +kernel
theorem d218_36 : decode (m_code 218) 36 = .ok (.invokevirtual 63, 3) := by decide +kernel
theorem d218_39 : decode (m_code 218) 39 = .ok (.iload_n 2, 1) := by decide +kernel
theorem d218_40 : decode (m_code 218) 40 = .ok (.if_icmp .ne 8, 3) := by decide +kernel
theorem d218_43 : decode (m_code 218) 43 = .ok (.bipush (-5), 2) := by decide +kernel
theorem d218_45 : decode (m_code 218) 45 = .ok (.goto 4, 3) := by decide +kernel
theorem d218_48 : decode (m_code 218) 48 = .ok (.iconst 0, 1) := by decide +kernel
theorem d218_49 : decode (m_code 218) 49 = .ok (.istore_n 3, 1) := by decide +kernel
theorem d218_50 : decode (m_code 218) 50 = .ok (.iload_n 3, 1) := by decide +kernel
theorem d218_51 : decode (m_code 218) 51 = .ok (.ifCond .ge 5, 3) := by decide +kernel
theorem d218_54 : decode (m_code 218) 54 = .ok (.iload_n 3, 1) := by decide +kernel
theorem d218_55 : decode (m_code 218) 55 = .ok (.ireturn, 1) := by decide +kernel
theorem d218_56 : decode (m_code 218) 56 = .ok (.aload_n 0, 1) := by decide +kernel
theorem d218_57 : decode (m_code 218) 57 = .ok (.invokevirtual 50, 3) := by decide +kernel
theorem d218_60 : decode (m_code 218) 60 = .ok (.aload_n 0, 1) := by decide +kernel
theorem d218_61 : decode (m_code 218) 61 = .ok (.iload_n 1, 1) := by decide +kernel
theorem d218_62 : decode (m_code 218) 62 = .ok (.iconst 1, 1) := by decide +kernel
theorem d218_63 : decode (m_code 218) 63 = .ok (.invokevirtual 63, 3) := by decide +kernel
theorem d218_66 : decode (m_code 218) 66 = .ok (.istore 4, 2) := by decide +kernel
theorem d218_68 : decode (m_code 218) 68 = .ok (.aload_n 0, 1) := by decide +kernel
theorem d218_69 : decode (m_code 218) 69 = .ok (.getfield 7, 3) := by decide +kernel
theorem d218_72 : decode (m_code 218) 72 = .ok (.bipush 20, 2) := by decide +kernel
theorem d218_74 : decode (m_code 218) 74 = .ok (.bipush 6, 2) := by decide +kernel
theorem d218_76 : decode (m_code 218) 76 = .ok (.iload_n 1, 1) := by decide +kernel
theorem d218_77 : decode (m_code 218) 77 = .ok (.imul, 1) := by decide +kernel
theorem d218_78 : decode (m_code 218) 78 = .ok (.iadd, 1) := by decide +kernel
theorem d218_79 : decode (m_code 218) 79 = .ok (.iconst 1, 1) := by decide +kernel
theorem d218_80 : decode (m_code 218) 80 = .ok (.iadd, 1) := by decide +kernel
theorem d218_81 : decode (m_code 218) 81 = .ok (.iload_n 2, 1) := by decide +kernel
theorem d218_82 : decode (m_code 218) 82 = .ok (.iastore, 1) := by decide +kernel
theorem d218_83 : decode (m_code 218) 83 = .ok (.iload 4, 2) := by decide +kernel
theorem d218_85 : decode (m_code 218) 85 = .ok (.ireturn, 1) := by decide +kernel
theorem c_record {X : mX} {h : mH} {R : Nat → Nat → Int32} {σ : Nat → Int32} (hR : Ms h R σ) {n : Nat} (hn : R 0 5 = nI n) (hn4 : n ≤ 4) : Does X 212 [.ref 313] h (F_rec R σ n) σ none := by
  by_cases h4 : n = 4
  · subst h4
    exact c_record4 hR hn
  · exact c_record3 hR hn (by omega)
/-- the counts that a row holds -/
def Cn (σ : Nat → Int32) (mi nR nD nG nW nA : Nat) : Prop := (σ 0 = nI mi ∧ mi ≤ 720) ∧ (σ 2 = nI nR ∧ 1 ≤ nR ∧ nR ≤ 12) ∧ (σ 3 = nI nD ∧ nD ≤ 20) ∧ (σ 4 = nI nG ∧ nG ≤ 4) ∧ (σ 5 = nI nW ∧ nW ≤ 10) ∧ (σ 6 = nI nA ∧ nA ≤ 40)
theorem r_addRoom_1 {X : mX} {h : mH} {R : Nat → Nat → Int32} {σ : Nat → Int32} (hR : Ms h R σ) {mi nR nD nG nW nA n : Nat} (hC : Cn σ mi nR nD nG nW nA) (hn : R 0 5 = nI n) (hn4 : n ≤ 4) {zone bound : Int32} (hz : ¬ (nI 0 ≤ zone ∧ zone ≤ nI 5)) : Tells X 208 [.ref 313, .int (zone), .int (bound)] h (-1) := by
  obtain ⟨⟨h0, hmi⟩, ⟨h2, hR1, hR12⟩, ⟨h3, hD⟩, ⟨h4, hG⟩, ⟨h5, hW⟩, ⟨h6, hA⟩⟩ := hC
  refine wp_iload_n d208_0 rfl ?_
  refine wp_invsT (e := 43) (j2 := 209) (n := 1) d208_1 (by decide +kernel) (by decide +kernel) rfl rfl rfl (Nat.le_of_ble_eq_true rfl) (Nat.le_of_ble_eq_true rfl) rfl rfl (Nat.le_of_ble_eq_true rfl) (by decide +kernel) (c_isZone (zone)) ?_
  refine wp_ifb_ne d208_4 (tgt := 11) (by decide) (fun hq9 => absurd hq9 hz) (fun _ => ?_)
  refine wp_iconst d208_7 (v := (-1 : Int32)) (by decide) ?_
  refine wp_goto d208_8 (tgt := 40) (by decide) ?_
  refine wp_istore_n d208_40 (Nat.le_of_ble_eq_true rfl) rfl ?_
  refine wp_iload_n d208_41 rfl ?_
  refine wp_if_ge d208_42 (tgt := 47) (by decide) (fun hz => absurd hz (by decide)) (fun _ => ?_)
  refine wp_iload_n d208_45 rfl ?_
  refine wp_iret d208_46 (by decide +kernel) ?_
  exact ⟨rfl, rfl⟩
theorem r_addRoom_2 {X : mX} {h : mH} {R : Nat → Nat → Int32} {σ : Nat → Int32} (hR : Ms h R σ) {mi nR nD nG nW nA n : Nat} (hC : Cn σ mi nR nD nG nW nA) (hn : R 0 5 = nI n) (hn4 : n ≤ 4) {zone bound : Int32} (hz : nI 0 ≤ zone ∧ zone ≤ nI 5) (hb : ¬ (nI 0 ≤ bound ∧ bound ≤ nI 240)) : Tells X 208 [.ref 313, .int (zone), .int (bound)] h (-2) := by
  obtain ⟨⟨h0, hmi⟩, ⟨h2, hR1, hR12⟩, ⟨h3, hD⟩, ⟨h4, hG⟩, ⟨h5, hW⟩, ⟨h6, hA⟩⟩ := hC
  refine wp_iload_n d208_0 rfl ?_
  refine wp_invsT (e := 43) (j2 := 209) (n := 1) d208_1 (by decide +kernel) (by decide +kernel) rfl rfl rfl (Nat.le_of_ble_eq_true rfl) (Nat.le_of_ble_eq_true rfl) rfl rfl (Nat.le_of_ble_eq_true rfl) (by decide +kernel) (c_isZone (zone)) ?_
  refine wp_ifb_ne d208_4 (tgt := 11) (by decide) (fun _ => ?_) (fun hq9 => absurd hz hq9)
  refine wp_iload_n d208_11 rfl ?_
  refine wp_invsT (e := 47) (j2 := 211) (n := 1) d208_12 (by decide +kernel) (by decide +kernel) rfl rfl rfl (Nat.le_of_ble_eq_true rfl) (Nat.le_of_ble_eq_true rfl) rfl rfl (Nat.le_of_ble_eq_true rfl) (by decide +kernel) (c_isBound (bound)) ?_
  refine wp_ifb_ne d208_15 (tgt := 23) (by decide) (fun hq9 => absurd hq9 hb) (fun _ => ?_)
  refine wp_bipush d208_18 (v := (-2 : Int32)) (by decide) ?_
  refine wp_goto d208_20 (tgt := 40) (by decide) ?_
  refine wp_istore_n d208_40 (Nat.le_of_ble_eq_true rfl) rfl ?_
  refine wp_iload_n d208_41 rfl ?_
  refine wp_if_ge d208_42 (tgt := 47) (by decide) (fun hz => absurd hz (by decide)) (fun _ => ?_)
  refine wp_iload_n d208_45 rfl ?_
  refine wp_iret d208_46 (by decide +kernel) ?_
  exact ⟨rfl, rfl⟩
theorem r_addRoom_3 {X : mX} {h : mH} {R : Nat → Nat → Int32} {σ : Nat → Int32} (hR : Ms h R σ) {mi nR nD nG nW nA n : Nat} (hC : Cn σ mi nR nD nG nW nA) (hn : R 0 5 = nI n) (hn4 : n ≤ 4) {zone bound : Int32} (hz : nI 0 ≤ zone ∧ zone ≤ nI 5) (hb : nI 0 ≤ bound ∧ bound ≤ nI 240) (hf : nR = 12) : Tells X 208 [.ref 313, .int (zone), .int (bound)] h (-3) := by
  obtain ⟨⟨h0, hmi⟩, ⟨h2, hR1, hR12⟩, ⟨h3, hD⟩, ⟨h4, hG⟩, ⟨h5, hW⟩, ⟨h6, hA⟩⟩ := hC
  refine wp_iload_n d208_0 rfl ?_
  refine wp_invsT (e := 43) (j2 := 209) (n := 1) d208_1 (by decide +kernel) (by decide +kernel) rfl rfl rfl (Nat.le_of_ble_eq_true rfl) (Nat.le_of_ble_eq_true rfl) rfl rfl (Nat.le_of_ble_eq_true rfl) (by decide +kernel) (c_isZone (zone)) ?_
  refine wp_ifb_ne d208_4 (tgt := 11) (by decide) (fun _ => ?_) (fun hq9 => absurd hz hq9)
  refine wp_iload_n d208_11 rfl ?_
  refine wp_invsT (e := 47) (j2 := 211) (n := 1) d208_12 (by decide +kernel) (by decide +kernel) rfl rfl rfl (Nat.le_of_ble_eq_true rfl) (Nat.le_of_ble_eq_true rfl) rfl rfl (Nat.le_of_ble_eq_true rfl) (by decide +kernel) (c_isBound (bound)) ?_
  refine wp_ifb_ne d208_15 (tgt := 23) (by decide) (fun _ => ?_) (fun hq9 => absurd hb hq9)
  refine wp_aload_n d208_23 rfl ?_
  refine wp_getf (e := 7) (ci := 12) (k := 0) (nest := false) d208_24 (by decide +kernel) (md_0 hR) rfl ?_
  refine wp_iconst d208_27 (v := nI 2) (by decide) ?_
  refine wp_iald d208_28 (md_1 hR) (nI_in (by omega) (by decide)) (v := nI nR) ((congrArg σ (nI_nat (by omega))).trans h2) ?_
  refine wp_bipush d208_29 (v := nI 12) (by decide) ?_
  refine wp_icmp_ne d208_31 (tgt := 39) (by decide) (fun hq9 => absurd (by rw [hf] : nI nR = nI 12) hq9) (fun _ => ?_)
  refine wp_bipush d208_34 (v := (-3 : Int32)) (by decide) ?_
  refine wp_goto d208_36 (tgt := 40) (by decide) ?_
  refine wp_istore_n d208_40 (Nat.le_of_ble_eq_true rfl) rfl ?_
  refine wp_iload_n d208_41 rfl ?_
  refine wp_if_ge d208_42 (tgt := 47) (by decide) (fun hz => absurd hz (by decide)) (fun _ => ?_)
  refine wp_iload_n d208_45 rfl ?_
  refine wp_iret d208_46 (by decide +kernel) ?_
  exact ⟨rfl, rfl⟩
def G_clr (σ : Nat → Int32) (b : Nat) : Nat → (Nat → Int32)
  | 0 => σ
  | k + 1 => upd (G_clr σ b k) (b + k) (nI 0)
theorem G_clr_at (σ : Nat → Int32) (b k i : Nat) : G_clr σ b k i = if b ≤ i ∧ i < b + k then nI 0 else σ i := by
  induction k with
  | zero => rw [if_neg (by omega)]; rfl
  | succ k ih =>
    unfold G_clr upd
    split
    next h => rw [if_pos (by omega)]
    next h =>
      rw [ih]
      split
      next h2 => rw [if_pos (by omega)]
      next h2 => rw [if_neg (by omega)]
theorem G_clr_ne {σ : Nat → Int32} {b k i : Nat} (h : i < b ∨ b + k ≤ i) : G_clr σ b k i = σ i := by rw [G_clr_at, if_neg (by omega)]
def R_addRoom (σ : Nat → Int32) (nR : Nat) (zone bound : Int32) : Nat → Int32 := upd (upd (upd (G_clr σ (20 + 6 * nR) 6) (20 + 6 * nR + 0) zone) (20 + 6 * nR + 1) bound) 2 (nI (nR + 1))
theorem r_addRoom_l {X : mX}  {h0 : mH} {R : Nat → Nat → Int32} {σ : Nat → Int32} {nR : Nat} (hr : nR < 12) {zone bound : Int32} {l3 : Option Value} {Q : Option Value → mH → Prop} : ∀ (d : Nat) (k : Nat) (h : mH), 6 - k = d → k ≤ 6 → Ms h R (G_clr σ (20 + 6 * nR) k) → Frm h0 h 313 8 → (∀ h1, Ms h1 R (G_clr σ (20 + 6 * nR) 6) → Frm h0 h1 313 8 → ∀ v, m_wp X 208 92 [some (.ref 313), some (.int zone), some (.int bound), l3, some (.int (nI nR)), some (.int v)] [] h1 Q) → m_wp X 208 62 [some (.ref 313), some (.int (zone)), some (.int (bound)), l3, some (.int (nI nR)), some (.int (nI k))] [] h Q := by
  intro d
  induction d using Nat.strongRecOn with
  | ind d ih =>
    intro k h hd hk hR hF K
    refine wp_iload d208_62 rfl ?_
    refine wp_bipush d208_64 (v := nI 6) (by decide) ?_
    refine wp_icmp_ge d208_66 (tgt := 92) (by decide) (fun hc66 => ?_) (fun hc66 => ?_)
    · have hc66 : 6 ≤ k := (nI_leI (by omega) (by omega)).mp hc66
      rw [show k = 6 by omega] at hR
      exact K h hR hF _
    · have hc66 : ¬ (6 ≤ k) := fun z => hc66 ((nI_leI (by omega) (by omega)).mpr z)
      refine wp_aload_n d208_69 rfl ?_
      refine wp_getf (e := 7) (ci := 12) (k := 0) (nest := false) d208_70 (by decide +kernel) (md_0 hR) rfl ?_
      refine wp_bipush d208_73 (v := nI 20) (by decide) ?_
      refine wp_bipush d208_75 (v := nI 6) (by decide) ?_
      refine wp_iload d208_77 rfl ?_
      refine wp_imulv d208_79 (v := nI (6 * nR)) (nI_mul _ _) ?_
      refine wp_iaddv d208_80 (v := nI (20 + 6 * nR)) (nI_add _ _) ?_
      refine wp_iload d208_81 rfl ?_
      refine wp_iaddv d208_83 (v := nI (20 + 6 * nR + k)) (nI_add _ _) ?_
      refine wp_iconst d208_84 (v := nI 0) (by decide) ?_
      refine wp_stS d208_85 hR hF (k := 20 + 6 * nR + k) (by omega) (fun h hR hF => ?_)
      refine wp_iinc d208_86 rfl (v := nI (k + 1)) (nI_add _ 1) (Nat.le_of_ble_eq_true rfl) rfl ?_
      refine wp_goto d208_89 (tgt := 62) (by decide) ?_
      exact ih (6 - (k + 1)) (by omega) (k + 1) h rfl (by omega) hR hF K
theorem r_addRoom {X : mX} {h : mH} {R : Nat → Nat → Int32} {σ : Nat → Int32} (hR : Ms h R σ) {mi nR nD nG nW nA n : Nat} (hC : Cn σ mi nR nD nG nW nA) (hn : R 0 5 = nI n) (hn4 : n ≤ 4) {zone bound : Int32} (hz : nI 0 ≤ zone ∧ zone ≤ nI 5) (hb : nI 0 ≤ bound ∧ bound ≤ nI 240) (hf : ¬ nR = 12) : Does X 208 [.ref 313, .int (zone), .int (bound)] h (F_rec R σ n) (R_addRoom σ nR zone bound) (some (.int (nI nR))) := by
  obtain ⟨⟨h0, hmi⟩, ⟨h2, hR1, hR12⟩, ⟨h3, hD⟩, ⟨h4, hG⟩, ⟨h5, hW⟩, ⟨h6, hA⟩⟩ := hC
  have hF : Frm h h 313 8 := Frm.rf
  refine wp_iload_n d208_0 rfl ?_
  refine wp_invsT (e := 43) (j2 := 209) (n := 1) d208_1 (by decide +kernel) (by decide +kernel) rfl rfl rfl (Nat.le_of_ble_eq_true rfl) (Nat.le_of_ble_eq_true rfl) rfl rfl (Nat.le_of_ble_eq_true rfl) (by decide +kernel) (c_isZone (zone)) ?_
  refine wp_ifb_ne d208_4 (tgt := 11) (by decide) (fun _ => ?_) (fun hq9 => absurd hz hq9)
  refine wp_iload_n d208_11 rfl ?_
  refine wp_invsT (e := 47) (j2 := 211) (n := 1) d208_12 (by decide +kernel) (by decide +kernel) rfl rfl rfl (Nat.le_of_ble_eq_true rfl) (Nat.le_of_ble_eq_true rfl) rfl rfl (Nat.le_of_ble_eq_true rfl) (by decide +kernel) (c_isBound (bound)) ?_
  refine wp_ifb_ne d208_15 (tgt := 23) (by decide) (fun _ => ?_) (fun hq9 => absurd hb hq9)
  refine wp_aload_n d208_23 rfl ?_
  refine wp_getf (e := 7) (ci := 12) (k := 0) (nest := false) d208_24 (by decide +kernel) (md_0 hR) rfl ?_
  refine wp_iconst d208_27 (v := nI 2) (by decide) ?_
  refine wp_iald d208_28 (md_1 hR) (nI_in (by omega) (by decide)) (v := nI nR) ((congrArg σ (nI_nat (by omega))).trans h2) ?_
  refine wp_bipush d208_29 (v := nI 12) (by decide) ?_
  refine wp_icmp_ne d208_31 (tgt := 39) (by decide) (fun _ => ?_) (fun hq9 => absurd hq9 (fun q => hf ((nI_eq (by omega) (by omega)).mp q)))
  refine wp_iconst d208_39 (v := nI 0) (by decide) ?_
  refine wp_istore_n d208_40 (Nat.le_of_ble_eq_true rfl) rfl ?_
  refine wp_iload_n d208_41 rfl ?_
  refine wp_if_ge d208_42 (tgt := 47) (by decide) (fun _ => ?_) (fun hz => absurd hz (by decide))
  refine wp_aload_n d208_47 rfl ?_
  refine wp_invvD (e := 50) (j2 := 212) (n := 0) d208_48 (by decide +kernel) (by decide +kernel) rfl rfl rfl (md_0 hR) (by decide +kernel) (Nat.le_of_ble_eq_true rfl) rfl rfl (Nat.le_of_ble_eq_true rfl) (by decide +kernel) (c_record hR hn hn4) hF ?_
  intro h hR hF
  refine wp_aload_n d208_51 rfl ?_
  refine wp_getf (e := 7) (ci := 12) (k := 0) (nest := false) d208_52 (by decide +kernel) (md_0 hR) rfl ?_
  refine wp_iconst d208_55 (v := nI 2) (by decide) ?_
  refine wp_iald d208_56 (md_1 hR) (nI_in (by omega) (by decide)) (v := nI nR) ((congrArg σ (nI_nat (by omega))).trans h2) ?_
  refine wp_istore d208_57 (Nat.le_of_ble_eq_true rfl) rfl ?_
  refine wp_iconst d208_59 (v := nI 0) (by decide) ?_
  refine wp_istore d208_60 (Nat.le_of_ble_eq_true rfl) rfl ?_
  refine r_addRoom_l (σ := σ) (nR := nR) (by omega) _ 0 h rfl (by omega) hR hF ?_
  intro h hR hF v5
  refine wp_aload_n d208_92 rfl ?_
  refine wp_getf (e := 7) (ci := 12) (k := 0) (nest := false) d208_93 (by decide +kernel) (md_0 hR) rfl ?_
  refine wp_bipush d208_96 (v := nI 20) (by decide) ?_
  refine wp_bipush d208_98 (v := nI 6) (by decide) ?_
  refine wp_iload d208_100 rfl ?_
  refine wp_imulv d208_102 (v := nI (6 * nR)) (nI_mul _ _) ?_
  refine wp_iaddv d208_103 (v := nI (20 + 6 * nR)) (nI_add _ _) ?_
  refine wp_iconst d208_104 (v := nI 0) (by decide) ?_
  refine wp_iaddv d208_105 (v := nI (20 + 6 * nR + 0)) (nI_add _ _) ?_
  refine wp_iload_n d208_106 rfl ?_
  refine wp_stS d208_107 hR hF (k := 20 + 6 * nR + 0) (by omega) (fun h hR hF => ?_)
  refine wp_aload_n d208_108 rfl ?_
  refine wp_getf (e := 7) (ci := 12) (k := 0) (nest := false) d208_109 (by decide +kernel) (md_0 hR) rfl ?_
  refine wp_bipush d208_112 (v := nI 20) (by decide) ?_
  refine wp_bipush d208_114 (v := nI 6) (by decide) ?_
  refine wp_iload d208_116 rfl ?_
  refine wp_imulv d208_118 (v := nI (6 * nR)) (nI_mul _ _) ?_
  refine wp_iaddv d208_119 (v := nI (20 + 6 * nR)) (nI_add _ _) ?_
  refine wp_iconst d208_120 (v := nI 1) (by decide) ?_
  refine wp_iaddv d208_121 (v := nI (20 + 6 * nR + 1)) (nI_add _ _) ?_
  refine wp_iload_n d208_122 rfl ?_
  refine wp_stS d208_123 hR hF (k := 20 + 6 * nR + 1) (by omega) (fun h hR hF => ?_)
  refine wp_aload_n d208_124 rfl ?_
  refine wp_getf (e := 7) (ci := 12) (k := 0) (nest := false) d208_125 (by decide +kernel) (md_0 hR) rfl ?_
  refine wp_iconst d208_128 (v := nI 2) (by decide) ?_
  refine wp_dup2 d208_129 rfl rfl ?_
  refine wp_iald d208_130 (md_1 hR) (nI_in (by omega) (by decide)) (v := nI nR) ((congrArg ((upd (upd (G_clr σ (20 + 6 * nR) 6) (20 + 6 * nR + 0) (zone)) (20 + 6 * nR + 1) (bound))) (nI_nat (by omega))).trans ((upd_ne (by omega)).trans ((upd_ne (by omega)).trans ((G_clr_ne (by omega)).trans h2)))) ?_
  refine wp_iconst d208_131 (v := nI 1) (by decide) ?_
  refine wp_iaddv d208_132 (v := nI (nR + 1)) (nI_add _ _) ?_
  refine wp_stS d208_133 hR hF (k := 2) (by omega) (fun h hR hF => ?_)
  refine wp_iload d208_134 rfl ?_
  refine wp_iret d208_136 (by decide +kernel) ?_
  exact ⟨rfl, hR, hF⟩
theorem r_addDoor_1a {X : mX} {h : mH} {R : Nat → Nat → Int32} {σ : Nat → Int32} (hR : Ms h R σ) {mi nR nD nG nW nA n : Nat} (hC : Cn σ mi nR nD nG nW nA) (hn : R 0 5 = nI n) (hn4 : n ≤ 4) {x y mt key : Int32} (hx : ¬ (nI 0 ≤ x ∧ x < nI nR)) : Tells X 214 [.ref 313, .int (x), .int (y), .int (mt), .int (key)] h (-1) := by
  obtain ⟨⟨h0, hmi⟩, ⟨h2, hR1, hR12⟩, ⟨h3, hD⟩, ⟨h4, hG⟩, ⟨h5, hW⟩, ⟨h6, hA⟩⟩ := hC
  refine wp_aload_n d214_0 rfl ?_
  refine wp_iload_n d214_1 rfl ?_
  refine wp_invvT (e := 57) (j2 := 215) (n := 1) d214_2 (by decide +kernel) (by decide +kernel) rfl rfl rfl (md_0 hR) (by decide +kernel) (Nat.le_of_ble_eq_true rfl) rfl rfl (Nat.le_of_ble_eq_true rfl) (by decide +kernel) (c_isRoom hR (n := nR) h2 (by omega) (x)) ?_
  refine wp_ifb_eq d214_5 (tgt := 16) (by decide) (fun _ => ?_) (fun hq9 => absurd hq9 hx)
  refine wp_iconst d214_16 (v := (-1 : Int32)) (by decide) ?_
  refine wp_iret d214_17 (by decide +kernel) ?_
  exact ⟨rfl, rfl⟩
theorem r_addDoor_1b {X : mX} {h : mH} {R : Nat → Nat → Int32} {σ : Nat → Int32} (hR : Ms h R σ) {mi nR nD nG nW nA n : Nat} (hC : Cn σ mi nR nD nG nW nA) (hn : R 0 5 = nI n) (hn4 : n ≤ 4) {x y mt key : Int32} (hx : nI 0 ≤ x ∧ x < nI nR) (hy : ¬ (nI 0 ≤ y ∧ y < nI nR)) : Tells X 214 [.ref 313, .int (x), .int (y), .int (mt), .int (key)] h (-1) := by
  obtain ⟨⟨h0, hmi⟩, ⟨h2, hR1, hR12⟩, ⟨h3, hD⟩, ⟨h4, hG⟩, ⟨h5, hW⟩, ⟨h6, hA⟩⟩ := hC
  refine wp_aload_n d214_0 rfl ?_
  refine wp_iload_n d214_1 rfl ?_
  refine wp_invvT (e := 57) (j2 := 215) (n := 1) d214_2 (by decide +kernel) (by decide +kernel) rfl rfl rfl (md_0 hR) (by decide +kernel) (Nat.le_of_ble_eq_true rfl) rfl rfl (Nat.le_of_ble_eq_true rfl) (by decide +kernel) (c_isRoom hR (n := nR) h2 (by omega) (x)) ?_
  refine wp_ifb_eq d214_5 (tgt := 16) (by decide) (fun hq9 => absurd hx hq9) (fun _ => ?_)
  refine wp_aload_n d214_8 rfl ?_
  refine wp_iload_n d214_9 rfl ?_
  refine wp_invvT (e := 57) (j2 := 215) (n := 1) d214_10 (by decide +kernel) (by decide +kernel) rfl rfl rfl (md_0 hR) (by decide +kernel) (Nat.le_of_ble_eq_true rfl) rfl rfl (Nat.le_of_ble_eq_true rfl) (by decide +kernel) (c_isRoom hR (n := nR) h2 (by omega) (y)) ?_
  refine wp_ifb_ne d214_13 (tgt := 18) (by decide) (fun hq9 => absurd hq9 hy) (fun _ => ?_)
  refine wp_iconst d214_16 (v := (-1 : Int32)) (by decide) ?_
  refine wp_iret d214_17 (by decide +kernel) ?_
  exact ⟨rfl, rfl⟩
theorem r_addDoor_2a {X : mX} {h : mH} {R : Nat → Nat → Int32} {σ : Nat → Int32} (hR : Ms h R σ) {mi nR nD nG nW nA n : Nat} (hC : Cn σ mi nR nD nG nW nA) (hn : R 0 5 = nI n) (hn4 : n ≤ 4) {x y mt key : Int32} (hx : nI 0 ≤ x ∧ x < nI nR) (hy : nI 0 ≤ y ∧ y < nI nR) (hm : ¬ (nI 1 ≤ mt ∧ mt ≤ nI 9)) : Tells X 214 [.ref 313, .int (x), .int (y), .int (mt), .int (key)] h (-2) := by
  obtain ⟨⟨h0, hmi⟩, ⟨h2, hR1, hR12⟩, ⟨h3, hD⟩, ⟨h4, hG⟩, ⟨h5, hW⟩, ⟨h6, hA⟩⟩ := hC
  refine wp_aload_n d214_0 rfl ?_
  refine wp_iload_n d214_1 rfl ?_
  refine wp_invvT (e := 57) (j2 := 215) (n := 1) d214_2 (by decide +kernel) (by decide +kernel) rfl rfl rfl (md_0 hR) (by decide +kernel) (Nat.le_of_ble_eq_true rfl) rfl rfl (Nat.le_of_ble_eq_true rfl) (by decide +kernel) (c_isRoom hR (n := nR) h2 (by omega) (x)) ?_
  refine wp_ifb_eq d214_5 (tgt := 16) (by decide) (fun hq9 => absurd hx hq9) (fun _ => ?_)
  refine wp_aload_n d214_8 rfl ?_
  refine wp_iload_n d214_9 rfl ?_
  refine wp_invvT (e := 57) (j2 := 215) (n := 1) d214_10 (by decide +kernel) (by decide +kernel) rfl rfl rfl (md_0 hR) (by decide +kernel) (Nat.le_of_ble_eq_true rfl) rfl rfl (Nat.le_of_ble_eq_true rfl) (by decide +kernel) (c_isRoom hR (n := nR) h2 (by omega) (y)) ?_
  refine wp_ifb_ne d214_13 (tgt := 18) (by decide) (fun _ => ?_) (fun hq9 => absurd hy hq9)
  refine wp_iload_n d214_18 rfl ?_
  refine wp_iconst d214_19 (v := nI 1) (by decide) ?_
  refine wp_bipush d214_20 (v := nI 9) (by decide) ?_
  refine wp_invsT (e := 39) (j2 := 210) (n := 3) d214_22 (by decide +kernel) (by decide +kernel) rfl rfl rfl (Nat.le_of_ble_eq_true rfl) (Nat.le_of_ble_eq_true rfl) rfl rfl (Nat.le_of_ble_eq_true rfl) (by decide +kernel) (c_within (mt) (nI 1) (nI 9)) ?_
  refine wp_ifb_eq d214_25 (tgt := 44) (by decide) (fun _ => ?_) (fun hq9 => absurd hq9 hm)
  refine wp_bipush d214_44 (v := (-2 : Int32)) (by decide) ?_
  refine wp_iret d214_46 (by decide +kernel) ?_
  exact ⟨rfl, rfl⟩
theorem r_addDoor_2b {X : mX} {h : mH} {R : Nat → Nat → Int32} {σ : Nat → Int32} (hR : Ms h R σ) {mi nR nD nG nW nA n : Nat} (hC : Cn σ mi nR nD nG nW nA) (hn : R 0 5 = nI n) (hn4 : n ≤ 4) {x y mt key : Int32} (hx : nI 0 ≤ x ∧ x < nI nR) (hy : nI 0 ≤ y ∧ y < nI nR) (hm : nI 1 ≤ mt ∧ mt ≤ nI 9) (hk : ¬ ((-1 : Int32) ≤ key ∧ key ≤ nI 7)) : Tells X 214 [.ref 313, .int (x), .int (y), .int (mt), .int (key)] h (-2) := by
  obtain ⟨⟨h0, hmi⟩, ⟨h2, hR1, hR12⟩, ⟨h3, hD⟩, ⟨h4, hG⟩, ⟨h5, hW⟩, ⟨h6, hA⟩⟩ := hC
  refine wp_aload_n d214_0 rfl ?_
  refine wp_iload_n d214_1 rfl ?_
  refine wp_invvT (e := 57) (j2 := 215) (n := 1) d214_2 (by decide +kernel) (by decide +kernel) rfl rfl rfl (md_0 hR) (by decide +kernel) (Nat.le_of_ble_eq_true rfl) rfl rfl (Nat.le_of_ble_eq_true rfl) (by decide +kernel) (c_isRoom hR (n := nR) h2 (by omega) (x)) ?_
  refine wp_ifb_eq d214_5 (tgt := 16) (by decide) (fun hq9 => absurd hx hq9) (fun _ => ?_)
  refine wp_aload_n d214_8 rfl ?_
  refine wp_iload_n d214_9 rfl ?_
  refine wp_invvT (e := 57) (j2 := 215) (n := 1) d214_10 (by decide +kernel) (by decide +kernel) rfl rfl rfl (md_0 hR) (by decide +kernel) (Nat.le_of_ble_eq_true rfl) rfl rfl (Nat.le_of_ble_eq_true rfl) (by decide +kernel) (c_isRoom hR (n := nR) h2 (by omega) (y)) ?_
  refine wp_ifb_ne d214_13 (tgt := 18) (by decide) (fun _ => ?_) (fun hq9 => absurd hy hq9)
  refine wp_iload_n d214_18 rfl ?_
  refine wp_iconst d214_19 (v := nI 1) (by decide) ?_
  refine wp_bipush d214_20 (v := nI 9) (by decide) ?_
  refine wp_invsT (e := 39) (j2 := 210) (n := 3) d214_22 (by decide +kernel) (by decide +kernel) rfl rfl rfl (Nat.le_of_ble_eq_true rfl) (Nat.le_of_ble_eq_true rfl) rfl rfl (Nat.le_of_ble_eq_true rfl) (by decide +kernel) (c_within (mt) (nI 1) (nI 9)) ?_
  refine wp_ifb_eq d214_25 (tgt := 44) (by decide) (fun hq9 => absurd hm hq9) (fun _ => ?_)
  refine wp_iload d214_28 rfl ?_
  refine wp_iconst d214_30 (v := (-1 : Int32)) (by decide) ?_
  refine wp_bipush d214_31 (v := nI 7) (by decide) ?_
  refine wp_invsT (e := 39) (j2 := 210) (n := 3) d214_33 (by decide +kernel) (by decide +kernel) rfl rfl rfl (Nat.le_of_ble_eq_true rfl) (Nat.le_of_ble_eq_true rfl) rfl rfl (Nat.le_of_ble_eq_true rfl) (by decide +kernel) (c_within (key) ((-1 : Int32)) (nI 7)) ?_
  refine wp_ifb_eq d214_36 (tgt := 44) (by decide) (fun _ => ?_) (fun hq9 => absurd hq9 hk)
  refine wp_bipush d214_44 (v := (-2 : Int32)) (by decide) ?_
  refine wp_iret d214_46 (by decide +kernel) ?_
  exact ⟨rfl, rfl⟩
theorem r_addDoor_2c {X : mX} {h : mH} {R : Nat → Nat → Int32} {σ : Nat → Int32} (hR : Ms h R σ) {mi nR nD nG nW nA n : Nat} (hC : Cn σ mi nR nD nG nW nA) (hn : R 0 5 = nI n) (hn4 : n ≤ 4) {x y mt key : Int32} (hx : nI 0 ≤ x ∧ x < nI nR) (hy : nI 0 ≤ y ∧ y < nI nR) (hm : nI 1 ≤ mt ∧ mt ≤ nI 9) (hk : (-1 : Int32) ≤ key ∧ key ≤ nI 7) (he : x = y) : Tells X 214 [.ref 313, .int (x), .int (y), .int (mt), .int (key)] h (-2) := by
  obtain ⟨⟨h0, hmi⟩, ⟨h2, hR1, hR12⟩, ⟨h3, hD⟩, ⟨h4, hG⟩, ⟨h5, hW⟩, ⟨h6, hA⟩⟩ := hC
  refine wp_aload_n d214_0 rfl ?_
  refine wp_iload_n d214_1 rfl ?_
  refine wp_invvT (e := 57) (j2 := 215) (n := 1) d214_2 (by decide +kernel) (by decide +kernel) rfl rfl rfl (md_0 hR) (by decide +kernel) (Nat.le_of_ble_eq_true rfl) rfl rfl (Nat.le_of_ble_eq_true rfl) (by decide +kernel) (c_isRoom hR (n := nR) h2 (by omega) (x)) ?_
  refine wp_ifb_eq d214_5 (tgt := 16) (by decide) (fun hq9 => absurd hx hq9) (fun _ => ?_)
  refine wp_aload_n d214_8 rfl ?_
  refine wp_iload_n d214_9 rfl ?_
  refine wp_invvT (e := 57) (j2 := 215) (n := 1) d214_10 (by decide +kernel) (by decide +kernel) rfl rfl rfl (md_0 hR) (by decide +kernel) (Nat.le_of_ble_eq_true rfl) rfl rfl (Nat.le_of_ble_eq_true rfl) (by decide +kernel) (c_isRoom hR (n := nR) h2 (by omega) (y)) ?_
  refine wp_ifb_ne d214_13 (tgt := 18) (by decide) (fun _ => ?_) (fun hq9 => absurd hy hq9)
  refine wp_iload_n d214_18 rfl ?_
  refine wp_iconst d214_19 (v := nI 1) (by decide) ?_
  refine wp_bipush d214_20 (v := nI 9) (by decide) ?_
  refine wp_invsT (e := 39) (j2 := 210) (n := 3) d214_22 (by decide +kernel) (by decide +kernel) rfl rfl rfl (Nat.le_of_ble_eq_true rfl) (Nat.le_of_ble_eq_true rfl) rfl rfl (Nat.le_of_ble_eq_true rfl) (by decide +kernel) (c_within (mt) (nI 1) (nI 9)) ?_
  refine wp_ifb_eq d214_25 (tgt := 44) (by decide) (fun hq9 => absurd hm hq9) (fun _ => ?_)
  refine wp_iload d214_28 rfl ?_
  refine wp_iconst d214_30 (v := (-1 : Int32)) (by decide) ?_
  refine wp_bipush d214_31 (v := nI 7) (by decide) ?_
  refine wp_invsT (e := 39) (j2 := 210) (n := 3) d214_33 (by decide +kernel) (by decide +kernel) rfl rfl rfl (Nat.le_of_ble_eq_true rfl) (Nat.le_of_ble_eq_true rfl) rfl rfl (Nat.le_of_ble_eq_true rfl) (by decide +kernel) (c_within (key) ((-1 : Int32)) (nI 7)) ?_
  refine wp_ifb_eq d214_36 (tgt := 44) (by decide) (fun hq9 => absurd hk hq9) (fun _ => ?_)
  refine wp_iload_n d214_39 rfl ?_
  refine wp_iload_n d214_40 rfl ?_
  refine wp_icmp_ne d214_41 (tgt := 47) (by decide) (fun hq9 => absurd he hq9) (fun _ => ?_)
  refine wp_bipush d214_44 (v := (-2 : Int32)) (by decide) ?_
  refine wp_iret d214_46 (by decide +kernel) ?_
  exact ⟨rfl, rfl⟩
theorem r_addDoor_3 {X : mX} {h : mH} {R : Nat → Nat → Int32} {σ : Nat → Int32} (hR : Ms h R σ) {mi nR nD nG nW nA n : Nat} (hC : Cn σ mi nR nD nG nW nA) (hn : R 0 5 = nI n) (hn4 : n ≤ 4) {x y mt key : Int32} (hx : nI 0 ≤ x ∧ x < nI nR) (hy : nI 0 ≤ y ∧ y < nI nR) (hm : nI 1 ≤ mt ∧ mt ≤ nI 9) (hk : (-1 : Int32) ≤ key ∧ key ≤ nI 7) (he : ¬ x = y) (hd : ¬ F_db σ x y nD = -5) : Tells X 214 [.ref 313, .int (x), .int (y), .int (mt), .int (key)] h (-4) := by
  obtain ⟨⟨h0, hmi⟩, ⟨h2, hR1, hR12⟩, ⟨h3, hD⟩, ⟨h4, hG⟩, ⟨h5, hW⟩, ⟨h6, hA⟩⟩ := hC
  refine wp_aload_n d214_0 rfl ?_
  refine wp_iload_n d214_1 rfl ?_
  refine wp_invvT (e := 57) (j2 := 215) (n := 1) d214_2 (by decide +kernel) (by decide +kernel) rfl rfl rfl (md_0 hR) (by decide +kernel) (Nat.le_of_ble_eq_true rfl) rfl rfl (Nat.le_of_ble_eq_true rfl) (by decide +kernel) (c_isRoom hR (n := nR) h2 (by omega) (x)) ?_
  refine wp_ifb_eq d214_5 (tgt := 16) (by decide) (fun hq9 => absurd hx hq9) (fun _ => ?_)
  refine wp_aload_n d214_8 rfl ?_
  refine wp_iload_n d214_9 rfl ?_
  refine wp_invvT (e := 57) (j2 := 215) (n := 1) d214_10 (by decide +kernel) (by decide +kernel) rfl rfl rfl (md_0 hR) (by decide +kernel) (Nat.le_of_ble_eq_true rfl) rfl rfl (Nat.le_of_ble_eq_true rfl) (by decide +kernel) (c_isRoom hR (n := nR) h2 (by omega) (y)) ?_
  refine wp_ifb_ne d214_13 (tgt := 18) (by decide) (fun _ => ?_) (fun hq9 => absurd hy hq9)
  refine wp_iload_n d214_18 rfl ?_
  refine wp_iconst d214_19 (v := nI 1) (by decide) ?_
  refine wp_bipush d214_20 (v := nI 9) (by decide) ?_
  refine wp_invsT (e := 39) (j2 := 210) (n := 3) d214_22 (by decide +kernel) (by decide +kernel) rfl rfl rfl (Nat.le_of_ble_eq_true rfl) (Nat.le_of_ble_eq_true rfl) rfl rfl (Nat.le_of_ble_eq_true rfl) (by decide +kernel) (c_within (mt) (nI 1) (nI 9)) ?_
  refine wp_ifb_eq d214_25 (tgt := 44) (by decide) (fun hq9 => absurd hm hq9) (fun _ => ?_)
  refine wp_iload d214_28 rfl ?_
  refine wp_iconst d214_30 (v := (-1 : Int32)) (by decide) ?_
  refine wp_bipush d214_31 (v := nI 7) (by decide) ?_
  refine wp_invsT (e := 39) (j2 := 210) (n := 3) d214_33 (by decide +kernel) (by decide +kernel) rfl rfl rfl (Nat.le_of_ble_eq_true rfl) (Nat.le_of_ble_eq_true rfl) rfl rfl (Nat.le_of_ble_eq_true rfl) (by decide +kernel) (c_within (key) ((-1 : Int32)) (nI 7)) ?_
  refine wp_ifb_eq d214_36 (tgt := 44) (by decide) (fun hq9 => absurd hk hq9) (fun _ => ?_)
  refine wp_iload_n d214_39 rfl ?_
  refine wp_iload_n d214_40 rfl ?_
  refine wp_icmp_ne d214_41 (tgt := 47) (by decide) (fun _ => ?_) (fun hq9 => absurd hq9 he)
  refine wp_aload_n d214_47 rfl ?_
  refine wp_iload_n d214_48 rfl ?_
  refine wp_iload_n d214_49 rfl ?_
  refine wp_invvT (e := 60) (j2 := 216) (n := 2) d214_50 (by decide +kernel) (by decide +kernel) rfl rfl rfl (md_0 hR) (by decide +kernel) (Nat.le_of_ble_eq_true rfl) rfl rfl (Nat.le_of_ble_eq_true rfl) (by decide +kernel) (c_doorBetween hR h3 hD (x) (y)) ?_
  refine wp_bipush d214_53 (v := (-5 : Int32)) (by decide) ?_
  refine wp_icmp_eq d214_55 (tgt := 61) (by decide) (fun hq9 => absurd hq9 hd) (fun _ => ?_)
  refine wp_bipush d214_58 (v := (-4 : Int32)) (by decide) ?_
  refine wp_iret d214_60 (by decide +kernel) ?_
  exact ⟨rfl, rfl⟩
theorem r_addDoor_4 {X : mX} {h : mH} {R : Nat → Nat → Int32} {σ : Nat → Int32} (hR : Ms h R σ) {mi nR nD nG nW nA n : Nat} (hC : Cn σ mi nR nD nG nW nA) (hn : R 0 5 = nI n) (hn4 : n ≤ 4) {x y mt key : Int32} (hx : nI 0 ≤ x ∧ x < nI nR) (hy : nI 0 ≤ y ∧ y < nI nR) (hm : nI 1 ≤ mt ∧ mt ≤ nI 9) (hk : (-1 : Int32) ≤ key ∧ key ≤ nI 7) (he : ¬ x = y) (hd : F_db σ x y nD = -5) (hf : nD = 20) : Tells X 214 [.ref 313, .int (x), .int (y), .int (mt), .int (key)] h (-3) := by
  obtain ⟨⟨h0, hmi⟩, ⟨h2, hR1, hR12⟩, ⟨h3, hD⟩, ⟨h4, hG⟩, ⟨h5, hW⟩, ⟨h6, hA⟩⟩ := hC
  refine wp_aload_n d214_0 rfl ?_
  refine wp_iload_n d214_1 rfl ?_
  refine wp_invvT (e := 57) (j2 := 215) (n := 1) d214_2 (by decide +kernel) (by decide +kernel) rfl rfl rfl (md_0 hR) (by decide +kernel) (Nat.le_of_ble_eq_true rfl) rfl rfl (Nat.le_of_ble_eq_true rfl) (by decide +kernel) (c_isRoom hR (n := nR) h2 (by omega) (x)) ?_
  refine wp_ifb_eq d214_5 (tgt := 16) (by decide) (fun hq9 => absurd hx hq9) (fun _ => ?_)
  refine wp_aload_n d214_8 rfl ?_
  refine wp_iload_n d214_9 rfl ?_
  refine wp_invvT (e := 57) (j2 := 215) (n := 1) d214_10 (by decide +kernel) (by decide +kernel) rfl rfl rfl (md_0 hR) (by decide +kernel) (Nat.le_of_ble_eq_true rfl) rfl rfl (Nat.le_of_ble_eq_true rfl) (by decide +kernel) (c_isRoom hR (n := nR) h2 (by omega) (y)) ?_
  refine wp_ifb_ne d214_13 (tgt := 18) (by decide) (fun _ => ?_) (fun hq9 => absurd hy hq9)
  refine wp_iload_n d214_18 rfl ?_
  refine wp_iconst d214_19 (v := nI 1) (by decide) ?_
  refine wp_bipush d214_20 (v := nI 9) (by decide) ?_
  refine wp_invsT (e := 39) (j2 := 210) (n := 3) d214_22 (by decide +kernel) (by decide +kernel) rfl rfl rfl (Nat.le_of_ble_eq_true rfl) (Nat.le_of_ble_eq_true rfl) rfl rfl (Nat.le_of_ble_eq_true rfl) (by decide +kernel) (c_within (mt) (nI 1) (nI 9)) ?_
  refine wp_ifb_eq d214_25 (tgt := 44) (by decide) (fun hq9 => absurd hm hq9) (fun _ => ?_)
  refine wp_iload d214_28 rfl ?_
  refine wp_iconst d214_30 (v := (-1 : Int32)) (by decide) ?_
  refine wp_bipush d214_31 (v := nI 7) (by decide) ?_
  refine wp_invsT (e := 39) (j2 := 210) (n := 3) d214_33 (by decide +kernel) (by decide +kernel) rfl rfl rfl (Nat.le_of_ble_eq_true rfl) (Nat.le_of_ble_eq_true rfl) rfl rfl (Nat.le_of_ble_eq_true rfl) (by decide +kernel) (c_within (key) ((-1 : Int32)) (nI 7)) ?_
  refine wp_ifb_eq d214_36 (tgt := 44) (by decide) (fun hq9 => absurd hk hq9) (fun _ => ?_)
  refine wp_iload_n d214_39 rfl ?_
  refine wp_iload_n d214_40 rfl ?_
  refine wp_icmp_ne d214_41 (tgt := 47) (by decide) (fun _ => ?_) (fun hq9 => absurd hq9 he)
  refine wp_aload_n d214_47 rfl ?_
  refine wp_iload_n d214_48 rfl ?_
  refine wp_iload_n d214_49 rfl ?_
  refine wp_invvT (e := 60) (j2 := 216) (n := 2) d214_50 (by decide +kernel) (by decide +kernel) rfl rfl rfl (md_0 hR) (by decide +kernel) (Nat.le_of_ble_eq_true rfl) rfl rfl (Nat.le_of_ble_eq_true rfl) (by decide +kernel) (c_doorBetween hR h3 hD (x) (y)) ?_
  refine wp_bipush d214_53 (v := (-5 : Int32)) (by decide) ?_
  refine wp_icmp_eq d214_55 (tgt := 61) (by decide) (fun _ => ?_) (fun hq9 => absurd hd hq9)
  refine wp_aload_n d214_61 rfl ?_
  refine wp_getf (e := 7) (ci := 12) (k := 0) (nest := false) d214_62 (by decide +kernel) (md_0 hR) rfl ?_
  refine wp_iconst d214_65 (v := nI 3) (by decide) ?_
  refine wp_iald d214_66 (md_1 hR) (nI_in (by omega) (by decide)) (v := nI nD) ((congrArg σ (nI_nat (by omega))).trans h3) ?_
  refine wp_bipush d214_67 (v := nI 20) (by decide) ?_
  refine wp_icmp_ne d214_69 (tgt := 75) (by decide) (fun hq9 => absurd (by rw [hf] : nI nD = nI 20) hq9) (fun _ => ?_)
  refine wp_bipush d214_72 (v := (-3 : Int32)) (by decide) ?_
  refine wp_iret d214_74 (by decide +kernel) ?_
  exact ⟨rfl, rfl⟩
def R_addDoor (σ : Nat → Int32) (nD : Nat) (x y mt key : Int32) : Nat → Int32 := upd (upd (upd (upd (upd (upd σ (92 + 5 * nD + 0) x) (92 + 5 * nD + 1) y) (92 + 5 * nD + 2) mt) (92 + 5 * nD + 3) key) (92 + 5 * nD + 4) (nI 0)) 3 (nI (nD + 1))
theorem r_addDoor {X : mX} {h : mH} {R : Nat → Nat → Int32} {σ : Nat → Int32} (hR : Ms h R σ) {mi nR nD nG nW nA n : Nat} (hC : Cn σ mi nR nD nG nW nA) (hn : R 0 5 = nI n) (hn4 : n ≤ 4) {x y mt key : Int32} (hx : nI 0 ≤ x ∧ x < nI nR) (hy : nI 0 ≤ y ∧ y < nI nR) (hm : nI 1 ≤ mt ∧ mt ≤ nI 9) (hk : (-1 : Int32) ≤ key ∧ key ≤ nI 7) (he : ¬ x = y) (hd : F_db σ x y nD = -5) (hf : ¬ nD = 20) : Does X 214 [.ref 313, .int (x), .int (y), .int (mt), .int (key)] h (F_rec R σ n) (R_addDoor σ nD x y mt key) (some (.int (nI nD))) := by
  obtain ⟨⟨h0, hmi⟩, ⟨h2, hR1, hR12⟩, ⟨h3, hD⟩, ⟨h4, hG⟩, ⟨h5, hW⟩, ⟨h6, hA⟩⟩ := hC
  have hF : Frm h h 313 8 := Frm.rf
  refine wp_aload_n d214_0 rfl ?_
  refine wp_iload_n d214_1 rfl ?_
  refine wp_invvT (e := 57) (j2 := 215) (n := 1) d214_2 (by decide +kernel) (by decide +kernel) rfl rfl rfl (md_0 hR) (by decide +kernel) (Nat.le_of_ble_eq_true rfl) rfl rfl (Nat.le_of_ble_eq_true rfl) (by decide +kernel) (c_isRoom hR (n := nR) h2 (by omega) (x)) ?_
  refine wp_ifb_eq d214_5 (tgt := 16) (by decide) (fun hq9 => absurd hx hq9) (fun _ => ?_)
  refine wp_aload_n d214_8 rfl ?_
  refine wp_iload_n d214_9 rfl ?_
  refine wp_invvT (e := 57) (j2 := 215) (n := 1) d214_10 (by decide +kernel) (by decide +kernel) rfl rfl rfl (md_0 hR) (by decide +kernel) (Nat.le_of_ble_eq_true rfl) rfl rfl (Nat.le_of_ble_eq_true rfl) (by decide +kernel) (c_isRoom hR (n := nR) h2 (by omega) (y)) ?_
  refine wp_ifb_ne d214_13 (tgt := 18) (by decide) (fun _ => ?_) (fun hq9 => absurd hy hq9)
  refine wp_iload_n d214_18 rfl ?_
  refine wp_iconst d214_19 (v := nI 1) (by decide) ?_
  refine wp_bipush d214_20 (v := nI 9) (by decide) ?_
  refine wp_invsT (e := 39) (j2 := 210) (n := 3) d214_22 (by decide +kernel) (by decide +kernel) rfl rfl rfl (Nat.le_of_ble_eq_true rfl) (Nat.le_of_ble_eq_true rfl) rfl rfl (Nat.le_of_ble_eq_true rfl) (by decide +kernel) (c_within (mt) (nI 1) (nI 9)) ?_
  refine wp_ifb_eq d214_25 (tgt := 44) (by decide) (fun hq9 => absurd hm hq9) (fun _ => ?_)
  refine wp_iload d214_28 rfl ?_
  refine wp_iconst d214_30 (v := (-1 : Int32)) (by decide) ?_
  refine wp_bipush d214_31 (v := nI 7) (by decide) ?_
  refine wp_invsT (e := 39) (j2 := 210) (n := 3) d214_33 (by decide +kernel) (by decide +kernel) rfl rfl rfl (Nat.le_of_ble_eq_true rfl) (Nat.le_of_ble_eq_true rfl) rfl rfl (Nat.le_of_ble_eq_true rfl) (by decide +kernel) (c_within (key) ((-1 : Int32)) (nI 7)) ?_
  refine wp_ifb_eq d214_36 (tgt := 44) (by decide) (fun hq9 => absurd hk hq9) (fun _ => ?_)
  refine wp_iload_n d214_39 rfl ?_
  refine wp_iload_n d214_40 rfl ?_
  refine wp_icmp_ne d214_41 (tgt := 47) (by decide) (fun _ => ?_) (fun hq9 => absurd hq9 he)
  refine wp_aload_n d214_47 rfl ?_
  refine wp_iload_n d214_48 rfl ?_
  refine wp_iload_n d214_49 rfl ?_
  refine wp_invvT (e := 60) (j2 := 216) (n := 2) d214_50 (by decide +kernel) (by decide +kernel) rfl rfl rfl (md_0 hR) (by decide +kernel) (Nat.le_of_ble_eq_true rfl) rfl rfl (Nat.le_of_ble_eq_true rfl) (by decide +kernel) (c_doorBetween hR h3 hD (x) (y)) ?_
  refine wp_bipush d214_53 (v := (-5 : Int32)) (by decide) ?_
  refine wp_icmp_eq d214_55 (tgt := 61) (by decide) (fun _ => ?_) (fun hq9 => absurd hd hq9)
  refine wp_aload_n d214_61 rfl ?_
  refine wp_getf (e := 7) (ci := 12) (k := 0) (nest := false) d214_62 (by decide +kernel) (md_0 hR) rfl ?_
  refine wp_iconst d214_65 (v := nI 3) (by decide) ?_
  refine wp_iald d214_66 (md_1 hR) (nI_in (by omega) (by decide)) (v := nI nD) ((congrArg σ (nI_nat (by omega))).trans h3) ?_
  refine wp_bipush d214_67 (v := nI 20) (by decide) ?_
  refine wp_icmp_ne d214_69 (tgt := 75) (by decide) (fun _ => ?_) (fun hq9 => absurd hq9 (fun q => hf ((nI_eq (by omega) (by omega)).mp q)))
  refine wp_aload_n d214_75 rfl ?_
  refine wp_invvD (e := 50) (j2 := 212) (n := 0) d214_76 (by decide +kernel) (by decide +kernel) rfl rfl rfl (md_0 hR) (by decide +kernel) (Nat.le_of_ble_eq_true rfl) rfl rfl (Nat.le_of_ble_eq_true rfl) (by decide +kernel) (c_record hR hn hn4) hF ?_
  intro h hR hF
  refine wp_aload_n d214_79 rfl ?_
  refine wp_getf (e := 7) (ci := 12) (k := 0) (nest := false) d214_80 (by decide +kernel) (md_0 hR) rfl ?_
  refine wp_iconst d214_83 (v := nI 3) (by decide) ?_
  refine wp_iald d214_84 (md_1 hR) (nI_in (by omega) (by decide)) (v := nI nD) ((congrArg σ (nI_nat (by omega))).trans h3) ?_
  refine wp_istore d214_85 (Nat.le_of_ble_eq_true rfl) rfl ?_
  refine wp_aload_n d214_87 rfl ?_
  refine wp_getf (e := 7) (ci := 12) (k := 0) (nest := false) d214_88 (by decide +kernel) (md_0 hR) rfl ?_
  refine wp_bipush d214_91 (v := nI 92) (by decide) ?_
  refine wp_iconst d214_93 (v := nI 5) (by decide) ?_
  refine wp_iload d214_94 rfl ?_
  refine wp_imulv d214_96 (v := nI (5 * nD)) (nI_mul _ _) ?_
  refine wp_iaddv d214_97 (v := nI (92 + 5 * nD)) (nI_add _ _) ?_
  refine wp_iconst d214_98 (v := nI 0) (by decide) ?_
  refine wp_iaddv d214_99 (v := nI (92 + 5 * nD + 0)) (nI_add _ _) ?_
  refine wp_iload_n d214_100 rfl ?_
  refine wp_stS d214_101 hR hF (k := 92 + 5 * nD + 0) (by omega) (fun h hR hF => ?_)
  refine wp_aload_n d214_102 rfl ?_
  refine wp_getf (e := 7) (ci := 12) (k := 0) (nest := false) d214_103 (by decide +kernel) (md_0 hR) rfl ?_
  refine wp_bipush d214_106 (v := nI 92) (by decide) ?_
  refine wp_iconst d214_108 (v := nI 5) (by decide) ?_
  refine wp_iload d214_109 rfl ?_
  refine wp_imulv d214_111 (v := nI (5 * nD)) (nI_mul _ _) ?_
  refine wp_iaddv d214_112 (v := nI (92 + 5 * nD)) (nI_add _ _) ?_
  refine wp_iconst d214_113 (v := nI 1) (by decide) ?_
  refine wp_iaddv d214_114 (v := nI (92 + 5 * nD + 1)) (nI_add _ _) ?_
  refine wp_iload_n d214_115 rfl ?_
  refine wp_stS d214_116 hR hF (k := 92 + 5 * nD + 1) (by omega) (fun h hR hF => ?_)
  refine wp_aload_n d214_117 rfl ?_
  refine wp_getf (e := 7) (ci := 12) (k := 0) (nest := false) d214_118 (by decide +kernel) (md_0 hR) rfl ?_
  refine wp_bipush d214_121 (v := nI 92) (by decide) ?_
  refine wp_iconst d214_123 (v := nI 5) (by decide) ?_
  refine wp_iload d214_124 rfl ?_
  refine wp_imulv d214_126 (v := nI (5 * nD)) (nI_mul _ _) ?_
  refine wp_iaddv d214_127 (v := nI (92 + 5 * nD)) (nI_add _ _) ?_
  refine wp_iconst d214_128 (v := nI 2) (by decide) ?_
  refine wp_iaddv d214_129 (v := nI (92 + 5 * nD + 2)) (nI_add _ _) ?_
  refine wp_iload_n d214_130 rfl ?_
  refine wp_stS d214_131 hR hF (k := 92 + 5 * nD + 2) (by omega) (fun h hR hF => ?_)
  refine wp_aload_n d214_132 rfl ?_
  refine wp_getf (e := 7) (ci := 12) (k := 0) (nest := false) d214_133 (by decide +kernel) (md_0 hR) rfl ?_
  refine wp_bipush d214_136 (v := nI 92) (by decide) ?_
  refine wp_iconst d214_138 (v := nI 5) (by decide) ?_
  refine wp_iload d214_139 rfl ?_
  refine wp_imulv d214_141 (v := nI (5 * nD)) (nI_mul _ _) ?_
  refine wp_iaddv d214_142 (v := nI (92 + 5 * nD)) (nI_add _ _) ?_
  refine wp_iconst d214_143 (v := nI 3) (by decide) ?_
  refine wp_iaddv d214_144 (v := nI (92 + 5 * nD + 3)) (nI_add _ _) ?_
  refine wp_iload d214_145 rfl ?_
  refine wp_stS d214_147 hR hF (k := 92 + 5 * nD + 3) (by omega) (fun h hR hF => ?_)
  refine wp_aload_n d214_148 rfl ?_
  refine wp_getf (e := 7) (ci := 12) (k := 0) (nest := false) d214_149 (by decide +kernel) (md_0 hR) rfl ?_
  refine wp_bipush d214_152 (v := nI 92) (by decide) ?_
  refine wp_iconst d214_154 (v := nI 5) (by decide) ?_
  refine wp_iload d214_155 rfl ?_
  refine wp_imulv d214_157 (v := nI (5 * nD)) (nI_mul _ _) ?_
  refine wp_iaddv d214_158 (v := nI (92 + 5 * nD)) (nI_add _ _) ?_
  refine wp_iconst d214_159 (v := nI 4) (by decide) ?_
  refine wp_iaddv d214_160 (v := nI (92 + 5 * nD + 4)) (nI_add _ _) ?_
  refine wp_iconst d214_161 (v := nI 0) (by decide) ?_
  refine wp_stS d214_162 hR hF (k := 92 + 5 * nD + 4) (by omega) (fun h hR hF => ?_)
  refine wp_aload_n d214_163 rfl ?_
  refine wp_getf (e := 7) (ci := 12) (k := 0) (nest := false) d214_164 (by decide +kernel) (md_0 hR) rfl ?_
  refine wp_iconst d214_167 (v := nI 3) (by decide) ?_
  refine wp_dup2 d214_168 rfl rfl ?_
  refine wp_iald d214_169 (md_1 hR) (nI_in (by omega) (by decide)) (v := nI nD) ((congrArg ((upd (upd (upd (upd (upd σ (92 + 5 * nD + 0) (x)) (92 + 5 * nD + 1) (y)) (92 + 5 * nD + 2) (mt)) (92 + 5 * nD + 3) (key)) (92 + 5 * nD + 4) (nI 0))) (nI_nat (by omega))).trans ((upd_ne (by omega)).trans ((upd_ne (by omega)).trans ((upd_ne (by omega)).trans ((upd_ne (by omega)).trans ((upd_ne (by omega)).trans h3)))))) ?_
  refine wp_iconst d214_170 (v := nI 1) (by decide) ?_
  refine wp_iaddv d214_171 (v := nI (nD + 1)) (nI_add _ _) ?_
  refine wp_stS d214_172 hR hF (k := 3) (by omega) (fun h hR hF => ?_)
  refine wp_iload d214_173 rfl ?_
  refine wp_iret d214_175 (by decide +kernel) ?_
  exact ⟨rfl, hR, hF⟩
theorem r_setBound_1 {X : mX} {h : mH} {R : Nat → Nat → Int32} {σ : Nat → Int32} (hR : Ms h R σ) {mi nR nD nG nW nA n : Nat} (hC : Cn σ mi nR nD nG nW nA) (hn : R 0 5 = nI n) (hn4 : n ≤ 4) {x bound : Int32} (hx : ¬ (nI 0 ≤ x ∧ x < nI nR)) : Tells X 218 [.ref 313, .int (x), .int (bound)] h (-1) := by
  obtain ⟨⟨h0, hmi⟩, ⟨h2, hR1, hR12⟩, ⟨h3, hD⟩, ⟨h4, hG⟩, ⟨h5, hW⟩, ⟨h6, hA⟩⟩ := hC
  refine wp_aload_n d218_0 rfl ?_
  refine wp_iload_n d218_1 rfl ?_
  refine wp_invvT (e := 57) (j2 := 215) (n := 1) d218_2 (by decide +kernel) (by decide +kernel) rfl rfl rfl (md_0 hR) (by decide +kernel) (Nat.le_of_ble_eq_true rfl) rfl rfl (Nat.le_of_ble_eq_true rfl) (by decide +kernel) (c_isRoom hR (n := nR) h2 (by omega) (x)) ?_
  refine wp_ifb_ne d218_5 (tgt := 12) (by decide) (fun hq9 => absurd hq9 hx) (fun _ => ?_)
  refine wp_iconst d218_8 (v := (-1 : Int32)) (by decide) ?_
  refine wp_goto d218_9 (tgt := 49) (by decide) ?_
  refine wp_istore_n d218_49 (Nat.le_of_ble_eq_true rfl) rfl ?_
  refine wp_iload_n d218_50 rfl ?_
  refine wp_if_ge d218_51 (tgt := 56) (by decide) (fun hz => absurd hz (by decide)) (fun _ => ?_)
  refine wp_iload_n d218_54 rfl ?_
  refine wp_iret d218_55 (by decide +kernel) ?_
  exact ⟨rfl, rfl⟩
theorem r_setBound_2 {X : mX} {h : mH} {R : Nat → Nat → Int32} {σ : Nat → Int32} (hR : Ms h R σ) {mi nR nD nG nW nA n : Nat} (hC : Cn σ mi nR nD nG nW nA) (hn : R 0 5 = nI n) (hn4 : n ≤ 4) {x bound : Int32} (hx : nI 0 ≤ x ∧ x < nI nR) (hb : ¬ (nI 0 ≤ bound ∧ bound ≤ nI 240)) : Tells X 218 [.ref 313, .int (x), .int (bound)] h (-2) := by
  obtain ⟨⟨h0, hmi⟩, ⟨h2, hR1, hR12⟩, ⟨h3, hD⟩, ⟨h4, hG⟩, ⟨h5, hW⟩, ⟨h6, hA⟩⟩ := hC
  refine wp_aload_n d218_0 rfl ?_
  refine wp_iload_n d218_1 rfl ?_
  refine wp_invvT (e := 57) (j2 := 215) (n := 1) d218_2 (by decide +kernel) (by decide +kernel) rfl rfl rfl (md_0 hR) (by decide +kernel) (Nat.le_of_ble_eq_true rfl) rfl rfl (Nat.le_of_ble_eq_true rfl) (by decide +kernel) (c_isRoom hR (n := nR) h2 (by omega) (x)) ?_
  refine wp_ifb_ne d218_5 (tgt := 12) (by decide) (fun _ => ?_) (fun hq9 => absurd hx hq9)
  refine wp_iload_n d218_12 rfl ?_
  refine wp_invsT (e := 47) (j2 := 211) (n := 1) d218_13 (by decide +kernel) (by decide +kernel) rfl rfl rfl (Nat.le_of_ble_eq_true rfl) (Nat.le_of_ble_eq_true rfl) rfl rfl (Nat.le_of_ble_eq_true rfl) (by decide +kernel) (c_isBound (bound)) ?_
  refine wp_ifb_ne d218_16 (tgt := 24) (by decide) (fun hq9 => absurd hq9 hb) (fun _ => ?_)
  refine wp_bipush d218_19 (v := (-2 : Int32)) (by decide) ?_
  refine wp_goto d218_21 (tgt := 49) (by decide) ?_
  refine wp_istore_n d218_49 (Nat.le_of_ble_eq_true rfl) rfl ?_
  refine wp_iload_n d218_50 rfl ?_
  refine wp_if_ge d218_51 (tgt := 56) (by decide) (fun hz => absurd hz (by decide)) (fun _ => ?_)
  refine wp_iload_n d218_54 rfl ?_
  refine wp_iret d218_55 (by decide +kernel) ?_
  exact ⟨rfl, rfl⟩
theorem r_setBound_3 {X : mX} {h : mH} {R : Nat → Nat → Int32} {σ : Nat → Int32} (hR : Ms h R σ) {mi nR nD nG nW nA n : Nat} (hC : Cn σ mi nR nD nG nW nA) (hn : R 0 5 = nI n) (hn4 : n ≤ 4) {r : Nat} {bound : Int32} (hr : r < nR) (hb : nI 0 ≤ bound ∧ bound ≤ nI 240) (hz : r = 0) : Tells X 218 [.ref 313, .int (nI r), .int (bound)] h (-4) := by
  obtain ⟨⟨h0, hmi⟩, ⟨h2, hR1, hR12⟩, ⟨h3, hD⟩, ⟨h4, hG⟩, ⟨h5, hW⟩, ⟨h6, hA⟩⟩ := hC
  refine wp_aload_n d218_0 rfl ?_
  refine wp_iload_n d218_1 rfl ?_
  refine wp_invvT (e := 57) (j2 := 215) (n := 1) d218_2 (by decide +kernel) (by decide +kernel) rfl rfl rfl (md_0 hR) (by decide +kernel) (Nat.le_of_ble_eq_true rfl) rfl rfl (Nat.le_of_ble_eq_true rfl) (by decide +kernel) (c_isRoom hR (n := nR) h2 (by omega) (nI r)) ?_
  refine wp_ifb_ne d218_5 (tgt := 12) (by decide) (fun _ => ?_) (fun hq9 => absurd (⟨nI_le (by omega) (by omega), nI_lt hr (by omega)⟩ : nI 0 ≤ nI r ∧ nI r < nI nR) hq9)
  refine wp_iload_n d218_12 rfl ?_
  refine wp_invsT (e := 47) (j2 := 211) (n := 1) d218_13 (by decide +kernel) (by decide +kernel) rfl rfl rfl (Nat.le_of_ble_eq_true rfl) (Nat.le_of_ble_eq_true rfl) rfl rfl (Nat.le_of_ble_eq_true rfl) (by decide +kernel) (c_isBound (bound)) ?_
  refine wp_ifb_ne d218_16 (tgt := 24) (by decide) (fun _ => ?_) (fun hq9 => absurd hb hq9)
  refine wp_iload_n d218_24 rfl ?_
  refine wp_if_ne d218_25 (tgt := 33) (by decide) (fun hq9 => absurd (by rw [hz]; rfl : nI r = 0) hq9) (fun _ => ?_)
  refine wp_bipush d218_28 (v := (-4 : Int32)) (by decide) ?_
  refine wp_goto d218_30 (tgt := 49) (by decide) ?_
  refine wp_istore_n d218_49 (Nat.le_of_ble_eq_true rfl) rfl ?_
  refine wp_iload_n d218_50 rfl ?_
  refine wp_if_ge d218_51 (tgt := 56) (by decide) (fun hz => absurd hz (by decide)) (fun _ => ?_)
  refine wp_iload_n d218_54 rfl ?_
  refine wp_iret d218_55 (by decide +kernel) ?_
  exact ⟨rfl, rfl⟩
theorem r_setBound_4 {X : mX} {h : mH} {R : Nat → Nat → Int32} {σ : Nat → Int32} (hR : Ms h R σ) {mi nR nD nG nW nA n : Nat} (hC : Cn σ mi nR nD nG nW nA) (hn : R 0 5 = nI n) (hn4 : n ≤ 4) {r : Nat} {bound : Int32} (hr : r < nR) (hb : nI 0 ≤ bound ∧ bound ≤ nI 240) (hz : 0 < r) (he : σ (20 + 6 * r + 1) = bound) : Tells X 218 [.ref 313, .int (nI r), .int (bound)] h (-5) := by
  obtain ⟨⟨h0, hmi⟩, ⟨h2, hR1, hR12⟩, ⟨h3, hD⟩, ⟨h4, hG⟩, ⟨h5, hW⟩, ⟨h6, hA⟩⟩ := hC
  refine wp_aload_n d218_0 rfl ?_
  refine wp_iload_n d218_1 rfl ?_
  refine wp_invvT (e := 57) (j2 := 215) (n := 1) d218_2 (by decide +kernel) (by decide +kernel) rfl rfl rfl (md_0 hR) (by decide +kernel) (Nat.le_of_ble_eq_true rfl) rfl rfl (Nat.le_of_ble_eq_true rfl) (by decide +kernel) (c_isRoom hR (n := nR) h2 (by omega) (nI r)) ?_
  refine wp_ifb_ne d218_5 (tgt := 12) (by decide) (fun _ => ?_) (fun hq9 => absurd (⟨nI_le (by omega) (by omega), nI_lt hr (by omega)⟩ : nI 0 ≤ nI r ∧ nI r < nI nR) hq9)
  refine wp_iload_n d218_12 rfl ?_
  refine wp_invsT (e := 47) (j2 := 211) (n := 1) d218_13 (by decide +kernel) (by decide +kernel) rfl rfl rfl (Nat.le_of_ble_eq_true rfl) (Nat.le_of_ble_eq_true rfl) rfl rfl (Nat.le_of_ble_eq_true rfl) (by decide +kernel) (c_isBound (bound)) ?_
  refine wp_ifb_ne d218_16 (tgt := 24) (by decide) (fun _ => ?_) (fun hq9 => absurd hb hq9)
  refine wp_iload_n d218_24 rfl ?_
  refine wp_if_ne d218_25 (tgt := 33) (by decide) (fun _ => ?_) (fun hq9 => absurd hq9 (nI_ne0 (by omega) (by omega)))
  refine wp_aload_n d218_33 rfl ?_
  refine wp_iload_n d218_34 rfl ?_
  refine wp_iconst d218_35 (v := nI 1) (by decide) ?_
  refine wp_invvT (e := 63) (j2 := 219) (n := 2) d218_36 (by decide +kernel) (by decide +kernel) rfl rfl rfl (md_0 hR) (by decide +kernel) (Nat.le_of_ble_eq_true rfl) rfl rfl (Nat.le_of_ble_eq_true rfl) (by decide +kernel) (c_roomPart hR (r := r) (p := 1) (by omega) (by omega)) ?_
  refine wp_iload_n d218_39 rfl ?_
  refine wp_icmp_ne d218_40 (tgt := 48) (by decide) (fun hq9 => absurd he hq9) (fun _ => ?_)
  refine wp_bipush d218_43 (v := (-5 : Int32)) (by decide) ?_
  refine wp_goto d218_45 (tgt := 49) (by decide) ?_
  refine wp_istore_n d218_49 (Nat.le_of_ble_eq_true rfl) rfl ?_
  refine wp_iload_n d218_50 rfl ?_
  refine wp_if_ge d218_51 (tgt := 56) (by decide) (fun hz => absurd hz (by decide)) (fun _ => ?_)
  refine wp_iload_n d218_54 rfl ?_
  refine wp_iret d218_55 (by decide +kernel) ?_
  exact ⟨rfl, rfl⟩
theorem r_setBound {X : mX} {h : mH} {R : Nat → Nat → Int32} {σ : Nat → Int32} (hR : Ms h R σ) {mi nR nD nG nW nA n : Nat} (hC : Cn σ mi nR nD nG nW nA) (hn : R 0 5 = nI n) (hn4 : n ≤ 4) {r : Nat} {bound : Int32} (hr : r < nR) (hb : nI 0 ≤ bound ∧ bound ≤ nI 240) (hz : 0 < r) (he : ¬ σ (20 + 6 * r + 1) = bound) : Does X 218 [.ref 313, .int (nI r), .int (bound)] h (F_rec R σ n) (upd σ (20 + 6 * r + 1) bound) (some (.int (σ (20 + 6 * r + 1)))) := by
  obtain ⟨⟨h0, hmi⟩, ⟨h2, hR1, hR12⟩, ⟨h3, hD⟩, ⟨h4, hG⟩, ⟨h5, hW⟩, ⟨h6, hA⟩⟩ := hC
  have hF : Frm h h 313 8 := Frm.rf
  refine wp_aload_n d218_0 rfl ?_
  refine wp_iload_n d218_1 rfl ?_
  refine wp_invvT (e := 57) (j2 := 215) (n := 1) d218_2 (by decide +kernel) (by decide +kernel) rfl rfl rfl (md_0 hR) (by decide +kernel) (Nat.le_of_ble_eq_true rfl) rfl rfl (Nat.le_of_ble_eq_true rfl) (by decide +kernel) (c_isRoom hR (n := nR) h2 (by omega) (nI r)) ?_
  refine wp_ifb_ne d218_5 (tgt := 12) (by decide) (fun _ => ?_) (fun hq9 => absurd (⟨nI_le (by omega) (by omega), nI_lt hr (by omega)⟩ : nI 0 ≤ nI r ∧ nI r < nI nR) hq9)
  refine wp_iload_n d218_12 rfl ?_
  refine wp_invsT (e := 47) (j2 := 211) (n := 1) d218_13 (by decide +kernel) (by decide +kernel) rfl rfl rfl (Nat.le_of_ble_eq_true rfl) (Nat.le_of_ble_eq_true rfl) rfl rfl (Nat.le_of_ble_eq_true rfl) (by decide +kernel) (c_isBound (bound)) ?_
  refine wp_ifb_ne d218_16 (tgt := 24) (by decide) (fun _ => ?_) (fun hq9 => absurd hb hq9)
  refine wp_iload_n d218_24 rfl ?_
  refine wp_if_ne d218_25 (tgt := 33) (by decide) (fun _ => ?_) (fun hq9 => absurd hq9 (nI_ne0 (by omega) (by omega)))
  refine wp_aload_n d218_33 rfl ?_
  refine wp_iload_n d218_34 rfl ?_
  refine wp_iconst d218_35 (v := nI 1) (by decide) ?_
  refine wp_invvT (e := 63) (j2 := 219) (n := 2) d218_36 (by decide +kernel) (by decide +kernel) rfl rfl rfl (md_0 hR) (by decide +kernel) (Nat.le_of_ble_eq_true rfl) rfl rfl (Nat.le_of_ble_eq_true rfl) (by decide +kernel) (c_roomPart hR (r := r) (p := 1) (by omega) (by omega)) ?_
  refine wp_iload_n d218_39 rfl ?_
  refine wp_icmp_ne d218_40 (tgt := 48) (by decide) (fun _ => ?_) (fun hq9 => absurd hq9 he)
  refine wp_iconst d218_48 (v := nI 0) (by decide) ?_
  refine wp_istore_n d218_49 (Nat.le_of_ble_eq_true rfl) rfl ?_
  refine wp_iload_n d218_50 rfl ?_
  refine wp_if_ge d218_51 (tgt := 56) (by decide) (fun _ => ?_) (fun hz => absurd hz (by decide))
  refine wp_aload_n d218_56 rfl ?_
  refine wp_invvD (e := 50) (j2 := 212) (n := 0) d218_57 (by decide +kernel) (by decide +kernel) rfl rfl rfl (md_0 hR) (by decide +kernel) (Nat.le_of_ble_eq_true rfl) rfl rfl (Nat.le_of_ble_eq_true rfl) (by decide +kernel) (c_record hR hn hn4) hF ?_
  intro h hR hF
  refine wp_aload_n d218_60 rfl ?_
  refine wp_iload_n d218_61 rfl ?_
  refine wp_iconst d218_62 (v := nI 1) (by decide) ?_
  refine wp_invvT (e := 63) (j2 := 219) (n := 2) d218_63 (by decide +kernel) (by decide +kernel) rfl rfl rfl (md_0 hR) (by decide +kernel) (Nat.le_of_ble_eq_true rfl) rfl rfl (Nat.le_of_ble_eq_true rfl) (by decide +kernel) (c_roomPart hR (r := r) (p := 1) (by omega) (by omega)) ?_
  refine wp_istore d218_66 (Nat.le_of_ble_eq_true rfl) rfl ?_
  refine wp_aload_n d218_68 rfl ?_
  refine wp_getf (e := 7) (ci := 12) (k := 0) (nest := false) d218_69 (by decide +kernel) (md_0 hR) rfl ?_
  refine wp_bipush d218_72 (v := nI 20) (by decide) ?_
  refine wp_bipush d218_74 (v := nI 6) (by decide) ?_
  refine wp_iload_n d218_76 rfl ?_
  refine wp_imulv d218_77 (v := nI (6 * r)) (nI_mul _ _) ?_
  refine wp_iaddv d218_78 (v := nI (20 + 6 * r)) (nI_add _ _) ?_
  refine wp_iconst d218_79 (v := nI 1) (by decide) ?_
  refine wp_iaddv d218_80 (v := nI (20 + 6 * r + 1)) (nI_add _ _) ?_
  refine wp_iload_n d218_81 rfl ?_
  refine wp_stS d218_82 hR hF (k := 20 + 6 * r + 1) (by omega) (fun h hR hF => ?_)
  refine wp_iload d218_83 rfl ?_
  refine wp_iret d218_85 (by decide +kernel) ?_
  exact ⟨rfl, hR, hF⟩
end
section
/-! The reference's acts: zones, guards, keys. -/
theorem d220_0 : decode (m_code 220) 0 = .ok (.iload_n 1, 1) := by decide +kernel
theorem d220_1 : decode (m_code 220) 1 = .ok (.invokestatic 43, 3) := by decide +kernel
theorem d220_4 : decode (m_code 220) 4 = .ok (.ifCond .eq 10, 3) := by decide +kernel
theorem d220_7 : decode (m_code 220) 7 = .ok (.iload_n 2, 1) := by decide +kernel
theorem d220_8 : decode (m_code 220) 8 = .ok (.invokestatic 43, 3) := by decide +kernel
theorem d220_11 : decode (m_code 220) 11 = .ok (.ifCond .ne 5, 3) := by decide +kernel
theorem d220_14 : decode (m_code 220) 14 = .ok (.iconst (-1), 1) := by decide +kernel
theorem d220_15 : decode (m_code 220) 15 = .ok (.ireturn, 1) := by decide +kernel
theorem d220_16 : decode (m_code 220) 16 = .ok (.iload_n 1, 1) := by decide +kernel
theorem d220_17 : decode (m_code 220) 17 = .ok (.iload_n 2, 1) := by decide +kernel
theorem d220_18 : decode (m_code 220) 18 = .ok (.if_icmp .ne 6, 3) := by decide +kernel
theorem d220_21 : decode (m_code 220) 21 = .ok (.bipush (-2), 2) := by decide +kernel
theorem d220_23 : decode (m_code 220) 23 = .ok (.ireturn, 1) := by decide +kernel
theorem d220_24 : decode (m_code 220) 24 = .ok (.iload_n 3, 1) := by decide +kernel
theorem d220_25 : decode (m_code 220) 25 = .ok (.ifCond .eq 32, 3) := by decide +kernel
theorem d220_28 : decode (m_code 220) 28 = .ok (.aload_n 0, 1) := by decide +kernel
theorem d220_29 : decode (m_code 220) 29 = .ok (.getfield 7, 3) := by decide +kernel
theorem d220_32 : decode (m_code 220) 32 = .ok (.bipush 8, 2) := by decide +kernel
theorem d220_34 : decode (m_code 220) 34 = .ok (.iload_n 1, 1) := by decide +kernel
theorem d220_35 : decode (m_code 220) 35 = .ok (.iadd, 1) := by decide +kernel
theorem d220_36 : decode (m_code 220) 36 = .ok (.iaload, 1) := by decide +kernel
theorem d220_37 : decode (m_code 220) 37 = .ok (.iconst 1, 1) := by decide +kernel
theorem d220_38 : decode (m_code 220) 38 = .ok (.if_icmp .ne 19, 3) := by decide +kernel
theorem d220_41 : decode (m_code 220) 41 = .ok (.aload_n 0, 1) := by decide +kernel
theorem d220_42 : decode (m_code 220) 42 = .ok (.getfield 7, 3) := by decide +kernel
theorem d220_45 : decode (m_code 220) 45 = .ok (.bipush 8, 2) := by decide +kernel
theorem d220_47 : decode (m_code 220) 47 = .ok (.iload_n 2, 1) := by decide +kernel
theorem d220_48 : decode (m_code 220) 48 = .ok (.iadd, 1) := by decide +kernel
theorem d220_49 : decode (m_code 220) 49 = .ok (.iaload, 1) := by decide +kernel
theorem d220_50 : decode (m_code 220) 50 = .ok (.iconst 1, 1) := by decide +kernel
theorem d220_51 : decode (m_code 220) 51 = .ok (.if_icmp .ne 6, 3) := by decide +kernel
theorem d220_54 : decode (m_code 220) 54 = .ok (.bipush (-4), 2) := by decide +kernel
theorem d220_56 : decode (m_code 220) 56 = .ok (.ireturn, 1) := by decide +kernel
theorem d220_57 : decode (m_code 220) 57 = .ok (.aload_n 0, 1) := by decide +kernel
theorem d220_58 : decode (m_code 220) 58 = .ok (.iload_n 1, 1) := by decide +kernel
theorem d220_59 : decode (m_code 220) 59 = .ok (.iload_n 2, 1) := by decide +kernel
theorem d220_60 : decode (m_code 220) 60 = .ok (.invokevirtual 66, 3) := by decide +kernel
theorem d220_63 : decode (m_code 220) 63 = .ok (.iload_n 3, 1) := by decide +kernel
theorem d220_64 : decode (m_code 220) 64 = .ok (.if_icmp .ne 6, 3) := by decide +kernel
theorem d220_67 : decode (m_code 220) 67 = .ok (.bipush (-5), 2) := by decide +kernel
theorem d220_69 : decode (m_code 220) 69 = .ok (.ireturn, 1) := by decide +kernel
theorem d220_70 : decode (m_code 220) 70 = .ok (.aload_n 0, 1) := by decide +kernel
theorem d220_71 : decode (m_code 220) 71 = .ok (.invokevirtual 50, 3) := by decide +kernel
theorem d220_74 : decode (m_code 220) 74 = .ok (.aload_n 0, 1) := by decide +kernel
theorem d220_75 : decode (m_code 220) 75 = .ok (.getfield 7, 3) := by decide +kernel
theorem d220_78 : decode (m_code 220) 78 = .ok (.bipush 14, 2) := by decide +kernel
theorem d220_80 : decode (m_code 220) 80 = .ok (.iload_n 1, 1) := by decide +kernel
theorem d220_81 : decode (m_code 220) 81 = .ok (.iadd, 1) := by decide +kernel
theorem d220_82 : decode (m_code 220) 82 = .ok (.dup2, 1) := by decide +kernel
theorem d220_83 : decode (m_code 220) 83 = .ok (.iaload, 1) := by decide +kernel
theorem d220_84 : decode (m_code 220) 84 = .ok (.iconst 1, 1) := by decide +kernel
theorem d220_85 : decode (m_code 220) 85 = .ok (.iload_n 2, 1) := by decide +kernel
theorem d220_86 : decode (m_code 220) 86 = .ok (.ishl, 1) := by decide +kernel
theorem d220_87 : decode (m_code 220) 87 = .ok (.ixor, 1) := by decide +kernel
theorem d220_88 : decode (m_code 220) 88 = .ok (.iastore, 1) := by decide +kernel
theorem d220_89 : decode (m_code 220) 89 = .ok (.aload_n 0, 1) := by decide +kernel
theorem d220_90 : decode (m_code 220) 90 = .ok (.getfield 7, 3) := by decide +kernel
theorem d220_93 : decode (m_code 220) 93 = .ok (.bipush 14, 2) := by decide +kernel
theorem d220_95 : decode (m_code 220) 95 = .ok (.iload_n 2, 1) := by decide +kernel
theorem d220_96 : decode (m_code 220) 96 = .ok (.iadd, 1) := by decide +kernel
theorem d220_97 : decode (m_code 220) 97 = .ok (.dup2, 1) := by decide +kernel
theorem d220_98 : decode (m_code 220) 98 = .ok (.iaload, 1) := by decide +kernel
theorem d220_99 : decode (m_code 220) 99 = .ok (.iconst 1, 1) := by decide +kernel
theorem d220_100 : decode (m_code 220) 100 = .ok (.iload_n 1, 1) := by decide +kernel
theorem d220_101 : decode (m_code 220) 101 = .ok (.ishl, 1) := by decide +kernel
theorem d220_102 : decode (m_code 220) 102 = .ok (.ixor, 1) := by decide +kernel
theorem d220_103 : decode (m_code 220) 103 = .ok (.iastore, 1) := by decide +kernel
theorem d220_104 : decode (m_code 220) 104 = .ok (.aload_n 0, 1) := by decide +kernel
theorem d220_105 : decode (m_code 220) 105 = .ok (.getfield 7, 3) := by decide +kernel
theorem d220_108 : decode (m_code 220) 108 = .ok (.bipush 14, 2) := by decide +kernel
theorem d220_110 : decode (m_code 220) 110 = .ok (.iload_n 1, 1) := by decide +kernel
theorem d220_111 : decode (m_code 220) 111 = .ok (.iadd, 1) := by decide +kernel
theorem d220_112 : decode (m_code 220) 112 = .ok (.iaload, 1) := by decide +kernel
theorem d220_113 : decode (m_code 220) 113 = .ok (.invokestatic 70, 3) := by decide +kernel
theorem d220_116 : decode (m_code 220) 116 = .ok (.ireturn, 1) := by decide +kernel
theorem d223_0 : decode (m_code 223) 0 = .ok (.iload_n 1, 1) := by decide +kernel
theorem d223_1 : decode (m_code 223) 1 = .ok (.invokestatic 43, 3) := by decide +kernel
theorem d223_4 : decode (m_code 223) 4 = .ok (.ifCond .ne 7, 3) := by decide +kernel
theorem d223_7 : decode (m_code 223) 7 = .ok (.iconst (-1), 1) := by decide +kernel
theorem d223_8 : decode (m_code 223) 8 = .ok (.goto 35, 3) := by decide +kernel
theorem d223_11 : decode (m_code 223) 11 = .ok (.aload_n 0, 1) := by decide +kernel
theorem d223_12 : decode (m_code 223) 12 = .ok (.iload_n 1, 1) := by decide +kernel
theorem d223_13 : decode (m_code 223) 13 = .ok (.invokevirtual 74, 3) := by decide +kernel
theorem d223_16 : decode (m_code 223) 16 = .ok (.ifCond .eq 8, 3) := by decide +kernel
theorem d223_19 : decode (m_code 223) 19 = .ok (.bipush (-4), 2) := by decide +kernel
theorem d223_21 : decode (m_code 223) 21 = .ok (.goto 22, 3) := by decide +kernel
theorem d223_24 : decode (m_code 223) 24 = .ok (.aload_n 0, 1) := by decide +kernel
theorem d223_25 : decode (m_code 223) 25 = .ok (.getfield 7, 3) := by decide +kernel
theorem d223_28 : decode (m_code 223) 28 = .ok (.bipush 8, 2) := by decide +kernel
theorem d223_30 : decode (m_code 223) 30 = .ok (.iload_n 1, 1) := by decide +kernel
theorem d223_31 : decode (m_code 223) 31 = .ok (.iadd, 1) := by decide +kernel
theorem d223_32 : decode (m_code 223) 32 = .ok (.iaload, 1) := by decide +kernel
theorem d223_33 : decode (m_code 223) 33 = .ok (.iconst 1, 1) := by decide +kernel
theorem d223_34 : decode (m_code 223) 34 = .ok (.if_icmp .ne 8, 3) := by decide +kernel
theorem d223_37 : decode (m_code 223) 37 = .ok (.bipush (-5), 2) := by decide +kernel
theorem d223_39 : decode (m_code 223) 39 = .ok (.goto 4, 3) := by decide +kernel
theorem d223_42 : decode (m_code 223) 42 = .ok (.iconst 0, 1) := by decide +kernel
theorem d223_43 : decode (m_code 223) 43 = .ok (.istore_n 2, 1) := by decide +kernel
theorem d223_44 : decode (m_code 223) 44 = .ok (.iload_n 2, 1) := by decide +kernel
theorem d223_45 : decode (m_code 223) 45 = .ok (.ifCond .ge 5, 3) := by decide +kernel
theorem d223_48 : decode (m_code 223) 48 = .ok (.iload_n 2, 1) := by decide +kernel
theorem d223_49 : decode (m_code 223) 49 = .ok (.ireturn, 1) := by decide +kernel
theorem d223_50 : decode (m_code 223) 50 = .ok (.aload_n 0, 1) := by decide +kernel
theorem d223_51 : decode (m_code 223) 51 = .ok (.invokevirtual 50, 3) := by decide +kernel
theorem d223_54 : decode (m_code 223) 54 = .ok (.aload_n 0, 1) := by decide +kernel
theorem d223_55 : decode (m_code 223) 55 = .ok (.getfield 7, 3) := by decide +kernel
theorem d223_58 : decode (m_code 223) 58 = .ok (.bipush 8, 2) := by decide +kernel
theorem d223_60 : decode (m_code 223) 60 = .ok (.iload_n 1, 1) := by decide +kernel
theorem d223_61 : decode (m_code 223) 61 = .ok (.iadd, 1) := by decide +kernel
theorem d223_62 : decode (m_code 223) 62 = .ok (.iconst 1, 1) := by decide +kernel
theorem d223_63 : decode (m_code 223) 63 = .ok (.iastore, 1) := by decide +kernel
theorem d223_64 : decode (m_code 223) 64 = .ok (.aload_n 0, 1) := by decide +kernel
theorem d223_65 : decode (m_code 223) 65 = .ok (.invokevirtual 77, 3) := by decide +kernel
theorem d223_68 : decode (m_code 223) 68 = .ok (.ireturn, 1) := by decide +kernel
theorem d229_0 : decode (m_code 229) 0 = .ok (.aload_n 0, 1) := by decide +kernel
theorem d229_1 : decode (m_code 229) 1 = .ok (.getfield 7, 3) := by decide +kernel
theorem d229_4 : decode (m_code 229) 4 = .ok (.iconst 4, 1) := by decide +kernel
theorem d229_5 : decode (m_code 229) 5 = .ok (.iaload, 1) := by decide +kernel
theorem d229_6 : decode (m_code 229) 6 = .ok (.iconst 4, 1) := by decide +kernel
theorem d229_7 : decode (m_code 229) 7 = .ok (.if_icmp .ne 6, 3) := by decide +kernel
theorem d229_10 : decode (m_code 229) 10 = .ok (.bipush (-3), 2) := by decide +kernel
theorem d229_12 : decode (m_code 229) 12 = .ok (.ireturn, 1) := by decide +kernel
theorem d229_13 : decode (m_code 229) 13 = .ok (.aload_n 0, 1) := by decide +kernel
theorem d229_14 : decode (m_code 229) 14 = .ok (.invokevirtual 50, 3) := by decide +kernel
theorem d229_17 : decode (m_code 229) 17 = .ok (.aload_n 0, 1) := by decide +kernel
theorem d229_18 : decode (m_code 229) 18 = .ok (.getfield 7, 3) := by decide +kernel
theorem d229_21 : decode (m_code 229) 21 = .ok (.iconst 4, 1) := by decide +kernel
theorem d229_22 : decode (m_code 229) 22 = .ok (.iaload, 1) := by decide +kernel
theorem d229_23 : decode (m_code 229) 23 = .ok (.istore_n 1, 1) := by decide +kernel
theorem d229_24 : decode (m_code 229) 24 = .ok (.iconst 0, 1) := by decide +kernel
theorem d229_25 : decode (m_code 229) 25 = .ok (.istore_n 2, 1) := by decide +kernel
theorem d229_26 : decode (m_code 229) 26 = .ok (.iload_n 2, 1) := by decide +kernel
theorem d229_27 : decode (m_code 229) 27 = .ok (.bipush 10, 2) := by decide +kernel
theorem d229_29 : decode (m_code 229) 29 = .ok (.if_icmp .ge 16, 3) := by decide +kernel
theorem d229_32 : decode (m_code 229) 32 = .ok (.aload_n 0, 1) := by decide +kernel
theorem d229_33 : decode (m_code 229) 33 = .ok (.iload_n 1, 1) := by decide +kernel
theorem d229_34 : decode (m_code 229) 34 = .ok (.iload_n 2, 1) := by decide +kernel
theorem d229_35 : decode (m_code 229) 35 = .ok (.iconst 0, 1) := by decide +kernel
theorem d229_36 : decode (m_code 229) 36 = .ok (.invokevirtual 87, 3) := by decide +kernel
theorem d229_39 : decode (m_code 229) 39 = .ok (.iinc 2 1, 3) := by decide +kernel
theorem d229_42 : decode (m_code 229) 42 = .ok (.goto (-16), 3) := by decide +kernel
theorem d229_45 : decode (m_code 229) 45 = .ok (.aload_n 0, 1) := by decide +kernel
theorem d229_46 : decode (m_code 229) 46 = .ok (.iload_n 1, 1) := by decide +kernel
theorem d229_47 : decode (m_code 229) 47 = .ok (.iconst 1, 1) := by decide +kernel
theorem d229_48 : decode (m_code 229) 48 = .ok (.bipush (-5), 2) := by decide +kernel
theorem d229_50 : decode (m_code 229) 50 = .ok (.invokevirtual 87, 3) := by decide +kernel
theorem d229_53 : decode (m_code 229) 53 = .ok (.aload_n 0, 1) := by decide +kernel
theorem d229_54 : decode (m_code 229) 54 = .ok (.iload_n 1, 1) := by decide +kernel
theorem d229_55 : decode (m_code 229) 55 = .ok (.bipush 9, 2) := by decide +kernel
theorem d229_57 : decode (m_code 229) 57 = .ok (.aload_n 0, 1) := by decide +kernel
theorem d229_58 : decode (m_code 229) 58 = .ok (.getfield 7, 3) := by decide +kernel
theorem d229_61 : decode (m_code 229) 61 = .ok (.iconst 0, 1) := by decide +kernel
theorem d229_62 : decode (m_code 229) 62 = .ok (.iaload, 1) := by decide +kernel
theorem d229_63 : decode (m_code 229) 63 = .ok (.invokevirtual 87, 3) := by decide +kernel
theorem d229_66 : decode (m_code 229) 66 = .ok (.aload_n 0, 1) := by decide +kernel
theorem d229_67 : decode (m_code 229) 67 = .ok (.getfield 7, 3) := by decide +kernel
theorem d229_70 : decode (m_code 229) 70 = .ok (.iconst 4, 1) := by decide +kernel
theorem d229_71 : decode (m_code 229) 71 = .ok (.dup2, 1) := by decide +kernel
theorem d229_72 : decode (m_code 229) 72 = .ok (.iaload, 1) := by decide +kernel
theorem d229_73 : decode (m_code 229) 73 = .ok (.iconst 1, 1) := by decide +kernel
theorem d229_74 : decode (m_code 229) 74 = .ok (.iadd, 1) := by decide +kernel
theorem d229_75 : decode (m_code 229) 75 = .ok (.iastore, 1) := by decide +kernel
theorem d229_76 : decode (m_code 229) 76 = .ok (.iload_n 1, 1) := by decide +kernel
theorem d229_77 : decode (m_code 229) 77 = .ok (.ireturn, 1) := by decide +kernel
theorem d231_0 : decode (m_code 231) 0 = .ok (.aload_n 0, 1) := by decide +kernel
theorem d231_1 : decode (m_code 231) 1 = .ok (.iload_n 1, 1) := by decide +kernel
theorem d231_2 : decode (m_code 231) 2 = .ok (.invokevirtual 94, 3) := by decide +kernel
theorem d231_5 : decode (m_code 231) 5 = .ok (.ifCond .eq 10, 3) := by decide +kernel
theorem d231_8 : decode (m_code 231) 8 = .ok (.iload_n 2, 1) := by decide +kernel
theorem d231_9 : decode (m_code 231) 9 = .ok (.invokestatic 97, 3) := by decide +kernel
theorem d231_12 : decode (m_code 231) 12 = .ok (.ifCond .ne 5, 3) := by decide +kernel
theorem d231_15 : decode (m_code 231) 15 = .ok (.iconst (-1), 1) := by decide +kernel
theorem d231_16 : decode (m_code 231) 16 = .ok (.ireturn, 1) := by decide +kernel
theorem d231_17 : decode (m_code 231) 17 = .ok (.aload_n 0, 1) := by decide +kernel
theorem d231_18 : decode (m_code 231) 18 = .ok (.iload_n 1, 1) := by decide +kernel
theorem d231_19 : decode (m_code 231) 19 = .ok (.iconst 0, 1) := by decide +kernel
theorem d231_20 : decode (m_code 231) 20 = .ok (.invokevirtual 81, 3) := by decide +kernel
theorem d231_23 : decode (m_code 231) 23 = .ok (.ifCond .ne 13, 3) := by decide +kernel
theorem d231_26 : decode (m_code 231) 26 = .ok (.aload_n 0, 1) := by decide +kernel
theorem d231_27 : decode (m_code 231) 27 = .ok (.iload_n 2, 1) := by decide +kernel
theorem d231_28 : decode (m_code 231) 28 = .ok (.invokevirtual 100, 3) := by decide +kernel
theorem d231_31 : decode (m_code 231) 31 = .ok (.bipush (-5), 2) := by decide +kernel
theorem d231_33 : decode (m_code 231) 33 = .ok (.if_icmp .eq 6, 3) := by decide +kernel
theorem d231_36 : decode (m_code 231) 36 = .ok (.bipush (-4), 2) := by decide +kernel
theorem d231_38 : decode (m_code 231) 38 = .ok (.ireturn, 1) := by decide +kernel
theorem d231_39 : decode (m_code 231) 39 = .ok (.aload_n 0, 1) := by decide +kernel
theorem d231_40 : decode (m_code 231) 40 = .ok (.iload_n 1, 1) := by decide +kernel
theorem d231_41 : decode (m_code 231) 41 = .ok (.invokevirtual 103, 3) := by decide +kernel
theorem d231_44 : decode (m_code 231) 44 = .ok (.iconst 3, 1) := by decide +kernel
theorem d231_45 : decode (m_code 231) 45 = .ok (.if_icmp .ne 6, 3) := by decide +kernel
theorem d231_48 : decode (m_code 231) 48 = .ok (.bipush (-3), 2) := by decide +kernel
theorem d231_50 : decode (m_code 231) 50 = .ok (.ireturn, 1) := by decide +kernel
theorem d231_51 : decode (m_code 231) 51 = .ok (.aload_n 0, 1) := by decide +kernel
theorem d231_52 : decode (m_code 231) 52 = .ok (.invokevirtual 50, 3) := by decide +kernel
theorem d231_55 : decode (m_code 231) 55 = .ok (.aload_n 0, 1) := by decide +kernel
theorem d231_56 : decode (m_code 231) 56 = .ok (.iload_n 1, 1) := by decide +kernel
theorem d231_57 : decode (m_code 231) 57 = .ok (.iload_n 2, 1) := by decide +kernel
theorem d231_58 : decode (m_code 231) 58 = .ok (.invokevirtual 106, 3) := by decide +kernel
theorem d231_61 : decode (m_code 231) 61 = .ok (.aload_n 0, 1) := by decide +kernel
theorem d231_62 : decode (m_code 231) 62 = .ok (.iload_n 1, 1) := by decide +kernel
theorem d231_63 : decode (m_code 231) 63 = .ok (.invokevirtual 103, 3) := by decide +kernel
theorem d231_66 : decode (m_code 231) 66 = .ok (.ireturn, 1) := by decide +kernel
theorem d238_0 : decode (m_code 238) 0 = .ok (.aload_n 0, 1) := by decide +kernel
theorem d238_1 : decode (m_code 238) 1 = .ok (.iload_n 1, 1) := by decide +kernel
theorem d238_2 : decode (m_code 238) 2 = .ok (.invokevirtual 94, 3) := by decide +kernel
theorem d238_5 : decode (m_code 238) 5 = .ok (.ifCond .eq 10, 3) := by decide +kernel
theorem d238_8 : decode (m_code 238) 8 = .ok (.iload_n 2, 1) := by decide +kernel
theorem d238_9 : decode (m_code 238) 9 = .ok (.invokestatic 97, 3) := by decide +kernel
theorem d238_12 : decode (m_code 238) 12 = .ok (.ifCond .ne 5, 3) := by decide +kernel
theorem d238_15 : decode (m_code 238) 15 = .ok (.iconst (-1), 1) := by decide +kernel
theorem d238_16 : decode (m_code 238) 16 = .ok (.ireturn, 1) := by decide +kernel
theorem d238_17 : decode (m_code 238) 17 = .ok (.aload_n 0, 1) := by decide +kernel
theorem d238_18 : decode (m_code 238) 18 = .ok (.iload_n 1, 1) := by decide +kernel
theorem d238_19 : decode (m_code 238) 19 = .ok (.iconst 0, 1) := by decide +kernel
theorem d238_20 : decode (m_code 238) 20 = .ok (.invokevirtual 81, 3) := by decide +kernel
theorem d238_23 : decode (m_code 238) 23 = .ok (.ifCond .ne 12, 3) := by decide +kernel
theorem d238_26 : decode (m_code 238) 26 = .ok (.aload_n 0, 1) := by decide +kernel
theorem d238_27 : decode (m_code 238) 27 = .ok (.iload_n 1, 1) := by decide +kernel
theorem d238_28 : decode (m_code 238) 28 = .ok (.iload_n 2, 1) := by decide +kernel
theorem d238_29 : decode (m_code 238) 29 = .ok (.invokevirtual 91, 3) := by decide +kernel
theorem d238_32 : decode (m_code 238) 32 = .ok (.ifCond .ne 6, 3) := by decide +kernel
theorem d238_35 : decode (m_code 238) 35 = .ok (.bipush (-4), 2) := by decide +kernel
theorem d238_37 : decode (m_code 238) 37 = .ok (.ireturn, 1) := by decide +kernel
theorem d238_38 : decode (m_code 238) 38 = .ok (.aload_n 0, 1) := by decide +kernel
theorem d238_39 : decode (m_code 238) 39 = .ok (.invokevirtual 50, 3) := by decide +kernel
theorem d238_42 : decode (m_code 238) 42 = .ok (.aload_n 0, 1) := by decide +kernel
theorem d238_43 : decode (m_code 238) 43 = .ok (.iload_n 1, 1) := by decide +kernel
theorem d238_44 : decode (m_code 238) 44 = .ok (.iload_n 2, 1) := by decide +kernel
theorem d238_45 : decode (m_code 238) 45 = .ok (.invokevirtual 106, 3) := by decide +kernel
theorem d238_48 : decode (m_code 238) 48 = .ok (.aload_n 0, 1) := by decide +kernel
theorem d238_49 : decode (m_code 238) 49 = .ok (.iload_n 1, 1) := by decide +kernel
theorem d238_50 : decode (m_code 238) 50 = .ok (.invokevirtual 103, 3) := by decide +kernel
theorem d238_53 : decode (m_code 238) 53 = .ok (.ireturn, 1) := by decide +kernel
theorem r_exclude_1a {X : mX} {h : mH} {R : Nat → Nat → Int32} {σ : Nat → Int32} (hR : Ms h R σ) {mi nR nD nG nW nA n : Nat} (hC : Cn σ mi nR nD nG nW nA) (hn : R 0 5 = nI n) (hn4 : n ≤ 4) {x y : Int32} {is : Bool} (hx : ¬ (nI 0 ≤ x ∧ x ≤ nI 5)) : Tells X 220 [.ref 313, .int (x), .int (y), .int (m_b (is = true))] h (-1) := by
  obtain ⟨⟨h0, hmi⟩, ⟨h2, hR1, hR12⟩, ⟨h3, hD⟩, ⟨h4, hG⟩, ⟨h5, hW⟩, ⟨h6, hA⟩⟩ := hC
  refine wp_iload_n d220_0 rfl ?_
  refine wp_invsT (e := 43) (j2 := 209) (n := 1) d220_1 (by decide +kernel) (by decide +kernel) rfl rfl rfl (Nat.le_of_ble_eq_true rfl) (Nat.le_of_ble_eq_true rfl) rfl rfl (Nat.le_of_ble_eq_true rfl) (by decide +kernel) (c_isZone (x)) ?_
  refine wp_ifb_eq d220_4 (tgt := 14) (by decide) (fun _ => ?_) (fun hq9 => absurd hq9 hx)
  refine wp_iconst d220_14 (v := (-1 : Int32)) (by decide) ?_
  refine wp_iret d220_15 (by decide +kernel) ?_
  exact ⟨rfl, rfl⟩
theorem r_exclude_1b {X : mX} {h : mH} {R : Nat → Nat → Int32} {σ : Nat → Int32} (hR : Ms h R σ) {mi nR nD nG nW nA n : Nat} (hC : Cn σ mi nR nD nG nW nA) (hn : R 0 5 = nI n) (hn4 : n ≤ 4) {x y : Int32} {is : Bool} (hx : nI 0 ≤ x ∧ x ≤ nI 5) (hy : ¬ (nI 0 ≤ y ∧ y ≤ nI 5)) : Tells X 220 [.ref 313, .int (x), .int (y), .int (m_b (is = true))] h (-1) := by
  obtain ⟨⟨h0, hmi⟩, ⟨h2, hR1, hR12⟩, ⟨h3, hD⟩, ⟨h4, hG⟩, ⟨h5, hW⟩, ⟨h6, hA⟩⟩ := hC
  refine wp_iload_n d220_0 rfl ?_
  refine wp_invsT (e := 43) (j2 := 209) (n := 1) d220_1 (by decide +kernel) (by decide +kernel) rfl rfl rfl (Nat.le_of_ble_eq_true rfl) (Nat.le_of_ble_eq_true rfl) rfl rfl (Nat.le_of_ble_eq_true rfl) (by decide +kernel) (c_isZone (x)) ?_
  refine wp_ifb_eq d220_4 (tgt := 14) (by decide) (fun hq9 => absurd hx hq9) (fun _ => ?_)
  refine wp_iload_n d220_7 rfl ?_
  refine wp_invsT (e := 43) (j2 := 209) (n := 1) d220_8 (by decide +kernel) (by decide +kernel) rfl rfl rfl (Nat.le_of_ble_eq_true rfl) (Nat.le_of_ble_eq_true rfl) rfl rfl (Nat.le_of_ble_eq_true rfl) (by decide +kernel) (c_isZone (y)) ?_
  refine wp_ifb_ne d220_11 (tgt := 16) (by decide) (fun hq9 => absurd hq9 hy) (fun _ => ?_)
  refine wp_iconst d220_14 (v := (-1 : Int32)) (by decide) ?_
  refine wp_iret d220_15 (by decide +kernel) ?_
  exact ⟨rfl, rfl⟩
theorem r_exclude_2 {X : mX} {h : mH} {R : Nat → Nat → Int32} {σ : Nat → Int32} (hR : Ms h R σ) {mi nR nD nG nW nA n : Nat} (hC : Cn σ mi nR nD nG nW nA) (hn : R 0 5 = nI n) (hn4 : n ≤ 4) {z o : Nat} {is : Bool} (hz : z < 6) (ho : o < 6) (he : z = o) : Tells X 220 [.ref 313, .int (nI z), .int (nI o), .int (m_b (is = true))] h (-2) := by
  obtain ⟨⟨h0, hmi⟩, ⟨h2, hR1, hR12⟩, ⟨h3, hD⟩, ⟨h4, hG⟩, ⟨h5, hW⟩, ⟨h6, hA⟩⟩ := hC
  refine wp_iload_n d220_0 rfl ?_
  refine wp_invsT (e := 43) (j2 := 209) (n := 1) d220_1 (by decide +kernel) (by decide +kernel) rfl rfl rfl (Nat.le_of_ble_eq_true rfl) (Nat.le_of_ble_eq_true rfl) rfl rfl (Nat.le_of_ble_eq_true rfl) (by decide +kernel) (c_isZone (nI z)) ?_
  refine wp_ifb_eq d220_4 (tgt := 14) (by decide) (fun hq9 => absurd (⟨nI_le (by omega) (by omega), nI_le (by omega) (by omega)⟩ : nI 0 ≤ nI z ∧ nI z ≤ nI 5) hq9) (fun _ => ?_)
  refine wp_iload_n d220_7 rfl ?_
  refine wp_invsT (e := 43) (j2 := 209) (n := 1) d220_8 (by decide +kernel) (by decide +kernel) rfl rfl rfl (Nat.le_of_ble_eq_true rfl) (Nat.le_of_ble_eq_true rfl) rfl rfl (Nat.le_of_ble_eq_true rfl) (by decide +kernel) (c_isZone (nI o)) ?_
  refine wp_ifb_ne d220_11 (tgt := 16) (by decide) (fun _ => ?_) (fun hq9 => absurd (⟨nI_le (by omega) (by omega), nI_le (by omega) (by omega)⟩ : nI 0 ≤ nI o ∧ nI o ≤ nI 5) hq9)
  refine wp_iload_n d220_16 rfl ?_
  refine wp_iload_n d220_17 rfl ?_
  refine wp_icmp_ne d220_18 (tgt := 24) (by decide) (fun hq9 => absurd (by rw [he] : nI z = nI o) hq9) (fun _ => ?_)
  refine wp_bipush d220_21 (v := (-2 : Int32)) (by decide) ?_
  refine wp_iret d220_23 (by decide +kernel) ?_
  exact ⟨rfl, rfl⟩
theorem r_exclude_3 {X : mX} {h : mH} {R : Nat → Nat → Int32} {σ : Nat → Int32} (hR : Ms h R σ) {mi nR nD nG nW nA n : Nat} (hC : Cn σ mi nR nD nG nW nA) (hn : R 0 5 = nI n) (hn4 : n ≤ 4) {z o : Nat} {is : Bool} (hz : z < 6) (ho : o < 6) (he : ¬ z = o) (hi : is = true) (h8 : σ (8 + z) = nI 1) (h9 : σ (8 + o) = nI 1) : Tells X 220 [.ref 313, .int (nI z), .int (nI o), .int (m_b (is = true))] h (-4) := by
  obtain ⟨⟨h0, hmi⟩, ⟨h2, hR1, hR12⟩, ⟨h3, hD⟩, ⟨h4, hG⟩, ⟨h5, hW⟩, ⟨h6, hA⟩⟩ := hC
  refine wp_iload_n d220_0 rfl ?_
  refine wp_invsT (e := 43) (j2 := 209) (n := 1) d220_1 (by decide +kernel) (by decide +kernel) rfl rfl rfl (Nat.le_of_ble_eq_true rfl) (Nat.le_of_ble_eq_true rfl) rfl rfl (Nat.le_of_ble_eq_true rfl) (by decide +kernel) (c_isZone (nI z)) ?_
  refine wp_ifb_eq d220_4 (tgt := 14) (by decide) (fun hq9 => absurd (⟨nI_le (by omega) (by omega), nI_le (by omega) (by omega)⟩ : nI 0 ≤ nI z ∧ nI z ≤ nI 5) hq9) (fun _ => ?_)
  refine wp_iload_n d220_7 rfl ?_
  refine wp_invsT (e := 43) (j2 := 209) (n := 1) d220_8 (by decide +kernel) (by decide +kernel) rfl rfl rfl (Nat.le_of_ble_eq_true rfl) (Nat.le_of_ble_eq_true rfl) rfl rfl (Nat.le_of_ble_eq_true rfl) (by decide +kernel) (c_isZone (nI o)) ?_
  refine wp_ifb_ne d220_11 (tgt := 16) (by decide) (fun _ => ?_) (fun hq9 => absurd (⟨nI_le (by omega) (by omega), nI_le (by omega) (by omega)⟩ : nI 0 ≤ nI o ∧ nI o ≤ nI 5) hq9)
  refine wp_iload_n d220_16 rfl ?_
  refine wp_iload_n d220_17 rfl ?_
  refine wp_icmp_ne d220_18 (tgt := 24) (by decide) (fun _ => ?_) (fun hq9 => absurd hq9 (fun q => he ((nI_eq (by omega) (by omega)).mp q)))
  refine wp_iload_n d220_24 rfl ?_
  refine wp_ifb_eq d220_25 (tgt := 57) (by decide) (fun hq9 => absurd hi hq9) (fun _ => ?_)
  refine wp_aload_n d220_28 rfl ?_
  refine wp_getf (e := 7) (ci := 12) (k := 0) (nest := false) d220_29 (by decide +kernel) (md_0 hR) rfl ?_
  refine wp_bipush d220_32 (v := nI 8) (by decide) ?_
  refine wp_iload_n d220_34 rfl ?_
  refine wp_iaddv d220_35 (v := nI (8 + z)) (nI_add _ _) ?_
  refine wp_iald d220_36 (md_1 hR) (nI_in (by omega) (by decide)) (v := σ (8 + z)) ((congrArg σ (nI_nat (by omega))).trans rfl) ?_
  refine wp_iconst d220_37 (v := nI 1) (by decide) ?_
  refine wp_icmp_ne d220_38 (tgt := 57) (by decide) (fun hq9 => absurd h8 hq9) (fun _ => ?_)
  refine wp_aload_n d220_41 rfl ?_
  refine wp_getf (e := 7) (ci := 12) (k := 0) (nest := false) d220_42 (by decide +kernel) (md_0 hR) rfl ?_
  refine wp_bipush d220_45 (v := nI 8) (by decide) ?_
  refine wp_iload_n d220_47 rfl ?_
  refine wp_iaddv d220_48 (v := nI (8 + o)) (nI_add _ _) ?_
  refine wp_iald d220_49 (md_1 hR) (nI_in (by omega) (by decide)) (v := σ (8 + o)) ((congrArg σ (nI_nat (by omega))).trans rfl) ?_
  refine wp_iconst d220_50 (v := nI 1) (by decide) ?_
  refine wp_icmp_ne d220_51 (tgt := 57) (by decide) (fun hq9 => absurd h9 hq9) (fun _ => ?_)
  refine wp_bipush d220_54 (v := (-4 : Int32)) (by decide) ?_
  refine wp_iret d220_56 (by decide +kernel) ?_
  exact ⟨rfl, rfl⟩
def R_excl (σ : Nat → Int32) (z o : Nat) : Nat → Int32 := upd (upd σ (14 + z) (σ (14 + z) ^^^ (nI 1 <<< (nI o &&& 31)))) (14 + o) (σ (14 + o) ^^^ (nI 1 <<< (nI z &&& 31)))
theorem r_exclude_5a {X : mX} {h : mH} {R : Nat → Nat → Int32} {σ : Nat → Int32} (hR : Ms h R σ) {mi nR nD nG nW nA n : Nat} (hC : Cn σ mi nR nD nG nW nA) (hn : R 0 5 = nI n) (hn4 : n ≤ 4) {z o : Nat} {is : Bool} (hz : z < 6) (ho : o < 6) (he : ¬ z = o) (hi : ¬ is = true) (hb : m_b (F_bit (σ (14 + z)) (nI o)) = m_b (is = true)) : Tells X 220 [.ref 313, .int (nI z), .int (nI o), .int (m_b (is = true))] h (-5) := by
  obtain ⟨⟨h0, hmi⟩, ⟨h2, hR1, hR12⟩, ⟨h3, hD⟩, ⟨h4, hG⟩, ⟨h5, hW⟩, ⟨h6, hA⟩⟩ := hC
  refine wp_iload_n d220_0 rfl ?_
  refine wp_invsT (e := 43) (j2 := 209) (n := 1) d220_1 (by decide +kernel) (by decide +kernel) rfl rfl rfl (Nat.le_of_ble_eq_true rfl) (Nat.le_of_ble_eq_true rfl) rfl rfl (Nat.le_of_ble_eq_true rfl) (by decide +kernel) (c_isZone (nI z)) ?_
  refine wp_ifb_eq d220_4 (tgt := 14) (by decide) (fun hq9 => absurd (⟨nI_le (by omega) (by omega), nI_le (by omega) (by omega)⟩ : nI 0 ≤ nI z ∧ nI z ≤ nI 5) hq9) (fun _ => ?_)
  refine wp_iload_n d220_7 rfl ?_
  refine wp_invsT (e := 43) (j2 := 209) (n := 1) d220_8 (by decide +kernel) (by decide +kernel) rfl rfl rfl (Nat.le_of_ble_eq_true rfl) (Nat.le_of_ble_eq_true rfl) rfl rfl (Nat.le_of_ble_eq_true rfl) (by decide +kernel) (c_isZone (nI o)) ?_
  refine wp_ifb_ne d220_11 (tgt := 16) (by decide) (fun _ => ?_) (fun hq9 => absurd (⟨nI_le (by omega) (by omega), nI_le (by omega) (by omega)⟩ : nI 0 ≤ nI o ∧ nI o ≤ nI 5) hq9)
  refine wp_iload_n d220_16 rfl ?_
  refine wp_iload_n d220_17 rfl ?_
  refine wp_icmp_ne d220_18 (tgt := 24) (by decide) (fun _ => ?_) (fun hq9 => absurd hq9 (fun q => he ((nI_eq (by omega) (by omega)).mp q)))
  refine wp_iload_n d220_24 rfl ?_
  refine wp_ifb_eq d220_25 (tgt := 57) (by decide) (fun _ => ?_) (fun hq9 => absurd hq9 hi)
  refine wp_aload_n d220_57 rfl ?_
  refine wp_iload_n d220_58 rfl ?_
  refine wp_iload_n d220_59 rfl ?_
  refine wp_invvT (e := 66) (j2 := 221) (n := 2) d220_60 (by decide +kernel) (by decide +kernel) rfl rfl rfl (md_0 hR) (by decide +kernel) (Nat.le_of_ble_eq_true rfl) rfl rfl (Nat.le_of_ble_eq_true rfl) (by decide +kernel) (c_excludes hR (z := z) (o := o) (by omega)) ?_
  refine wp_iload_n d220_63 rfl ?_
  refine wp_icmp_ne d220_64 (tgt := 70) (by decide) (fun hq9 => absurd hb hq9) (fun _ => ?_)
  refine wp_bipush d220_67 (v := (-5 : Int32)) (by decide) ?_
  refine wp_iret d220_69 (by decide +kernel) ?_
  exact ⟨rfl, rfl⟩
theorem r_excludea {X : mX} {h : mH} {R : Nat → Nat → Int32} {σ : Nat → Int32} (hR : Ms h R σ) {mi nR nD nG nW nA n : Nat} (hC : Cn σ mi nR nD nG nW nA) (hn : R 0 5 = nI n) (hn4 : n ≤ 4) {z o : Nat} {is : Bool} (hz : z < 6) (ho : o < 6) (he : ¬ z = o) (hi : ¬ is = true) (hb : ¬ m_b (F_bit (σ (14 + z)) (nI o)) = m_b (is = true)) : Does X 220 [.ref 313, .int (nI z), .int (nI o), .int (m_b (is = true))] h (F_rec R σ n) (R_excl σ z o) (some (.int (F_bits (σ (14 + z) ^^^ (nI 1 <<< (nI o &&& 31))) 16))) := by
  obtain ⟨⟨h0, hmi⟩, ⟨h2, hR1, hR12⟩, ⟨h3, hD⟩, ⟨h4, hG⟩, ⟨h5, hW⟩, ⟨h6, hA⟩⟩ := hC
  have hF : Frm h h 313 8 := Frm.rf
  refine wp_iload_n d220_0 rfl ?_
  refine wp_invsT (e := 43) (j2 := 209) (n := 1) d220_1 (by decide +kernel) (by decide +kernel) rfl rfl rfl (Nat.le_of_ble_eq_true rfl) (Nat.le_of_ble_eq_true rfl) rfl rfl (Nat.le_of_ble_eq_true rfl) (by decide +kernel) (c_isZone (nI z)) ?_
  refine wp_ifb_eq d220_4 (tgt := 14) (by decide) (fun hq9 => absurd (⟨nI_le (by omega) (by omega), nI_le (by omega) (by omega)⟩ : nI 0 ≤ nI z ∧ nI z ≤ nI 5) hq9) (fun _ => ?_)
  refine wp_iload_n d220_7 rfl ?_
  refine wp_invsT (e := 43) (j2 := 209) (n := 1) d220_8 (by decide +kernel) (by decide +kernel) rfl rfl rfl (Nat.le_of_ble_eq_true rfl) (Nat.le_of_ble_eq_true rfl) rfl rfl (Nat.le_of_ble_eq_true rfl) (by decide +kernel) (c_isZone (nI o)) ?_
  refine wp_ifb_ne d220_11 (tgt := 16) (by decide) (fun _ => ?_) (fun hq9 => absurd (⟨nI_le (by omega) (by omega), nI_le (by omega) (by omega)⟩ : nI 0 ≤ nI o ∧ nI o ≤ nI 5) hq9)
  refine wp_iload_n d220_16 rfl ?_
  refine wp_iload_n d220_17 rfl ?_
  refine wp_icmp_ne d220_18 (tgt := 24) (by decide) (fun _ => ?_) (fun hq9 => absurd hq9 (fun q => he ((nI_eq (by omega) (by omega)).mp q)))
  refine wp_iload_n d220_24 rfl ?_
  refine wp_ifb_eq d220_25 (tgt := 57) (by decide) (fun _ => ?_) (fun hq9 => absurd hq9 hi)
  refine wp_aload_n d220_57 rfl ?_
  refine wp_iload_n d220_58 rfl ?_
  refine wp_iload_n d220_59 rfl ?_
  refine wp_invvT (e := 66) (j2 := 221) (n := 2) d220_60 (by decide +kernel) (by decide +kernel) rfl rfl rfl (md_0 hR) (by decide +kernel) (Nat.le_of_ble_eq_true rfl) rfl rfl (Nat.le_of_ble_eq_true rfl) (by decide +kernel) (c_excludes hR (z := z) (o := o) (by omega)) ?_
  refine wp_iload_n d220_63 rfl ?_
  refine wp_icmp_ne d220_64 (tgt := 70) (by decide) (fun _ => ?_) (fun hq9 => absurd hq9 hb)
  refine wp_aload_n d220_70 rfl ?_
  refine wp_invvD (e := 50) (j2 := 212) (n := 0) d220_71 (by decide +kernel) (by decide +kernel) rfl rfl rfl (md_0 hR) (by decide +kernel) (Nat.le_of_ble_eq_true rfl) rfl rfl (Nat.le_of_ble_eq_true rfl) (by decide +kernel) (c_record hR hn hn4) hF ?_
  intro h hR hF
  refine wp_aload_n d220_74 rfl ?_
  refine wp_getf (e := 7) (ci := 12) (k := 0) (nest := false) d220_75 (by decide +kernel) (md_0 hR) rfl ?_
  refine wp_bipush d220_78 (v := nI 14) (by decide) ?_
  refine wp_iload_n d220_80 rfl ?_
  refine wp_iaddv d220_81 (v := nI (14 + z)) (nI_add _ _) ?_
  refine wp_dup2 d220_82 rfl rfl ?_
  refine wp_iald d220_83 (md_1 hR) (nI_in (by omega) (by decide)) (v := σ (14 + z)) ((congrArg σ (nI_nat (by omega))).trans rfl) ?_
  refine wp_iconst d220_84 (v := nI 1) (by decide) ?_
  refine wp_iload_n d220_85 rfl ?_
  refine wp_ishl d220_86 ?_
  refine wp_ixor d220_87 ?_
  refine wp_stS d220_88 hR hF (k := 14 + z) (by omega) (fun h hR hF => ?_)
  refine wp_aload_n d220_89 rfl ?_
  refine wp_getf (e := 7) (ci := 12) (k := 0) (nest := false) d220_90 (by decide +kernel) (md_0 hR) rfl ?_
  refine wp_bipush d220_93 (v := nI 14) (by decide) ?_
  refine wp_iload_n d220_95 rfl ?_
  refine wp_iaddv d220_96 (v := nI (14 + o)) (nI_add _ _) ?_
  refine wp_dup2 d220_97 rfl rfl ?_
  refine wp_iald d220_98 (md_1 hR) (nI_in (by omega) (by decide)) (v := σ (14 + o)) ((congrArg ((upd σ (14 + z) (((σ (14 + z)) ^^^ ((nI 1) <<< ((nI o) &&& 31)))))) (nI_nat (by omega))).trans ((upd_ne (by omega)).trans rfl)) ?_
  refine wp_iconst d220_99 (v := nI 1) (by decide) ?_
  refine wp_iload_n d220_100 rfl ?_
  refine wp_ishl d220_101 ?_
  refine wp_ixor d220_102 ?_
  refine wp_stS d220_103 hR hF (k := 14 + o) (by omega) (fun h hR hF => ?_)
  refine wp_aload_n d220_104 rfl ?_
  refine wp_getf (e := 7) (ci := 12) (k := 0) (nest := false) d220_105 (by decide +kernel) (md_0 hR) rfl ?_
  refine wp_bipush d220_108 (v := nI 14) (by decide) ?_
  refine wp_iload_n d220_110 rfl ?_
  refine wp_iaddv d220_111 (v := nI (14 + z)) (nI_add _ _) ?_
  refine wp_iald d220_112 (md_1 hR) (nI_in (by omega) (by decide)) (v := ((σ (14 + z)) ^^^ ((nI 1) <<< ((nI o) &&& 31)))) ((congrArg ((upd (upd σ (14 + z) (((σ (14 + z)) ^^^ ((nI 1) <<< ((nI o) &&& 31))))) (14 + o) (((σ (14 + o)) ^^^ ((nI 1) <<< ((nI z) &&& 31)))))) (nI_nat (by omega))).trans ((upd_ne (by omega)).trans upd_eq)) ?_
  refine wp_invsT (e := 70) (j2 := 222) (n := 1) d220_113 (by decide +kernel) (by decide +kernel) rfl rfl rfl (Nat.le_of_ble_eq_true rfl) (Nat.le_of_ble_eq_true rfl) rfl rfl (Nat.le_of_ble_eq_true rfl) (by decide +kernel) (c_bitsIn (((σ (14 + z)) ^^^ ((nI 1) <<< ((nI o) &&& 31))))) ?_
  refine wp_iret d220_116 (by decide +kernel) ?_
  exact ⟨rfl, hR, hF⟩
theorem r_exclude_5b {X : mX} {h : mH} {R : Nat → Nat → Int32} {σ : Nat → Int32} (hR : Ms h R σ) {mi nR nD nG nW nA n : Nat} (hC : Cn σ mi nR nD nG nW nA) (hn : R 0 5 = nI n) (hn4 : n ≤ 4) {z o : Nat} {is : Bool} (hz : z < 6) (ho : o < 6) (he : ¬ z = o) (hi : is = true) (h8 : ¬ σ (8 + z) = nI 1) (hb : m_b (F_bit (σ (14 + z)) (nI o)) = m_b (is = true)) : Tells X 220 [.ref 313, .int (nI z), .int (nI o), .int (m_b (is = true))] h (-5) := by
  obtain ⟨⟨h0, hmi⟩, ⟨h2, hR1, hR12⟩, ⟨h3, hD⟩, ⟨h4, hG⟩, ⟨h5, hW⟩, ⟨h6, hA⟩⟩ := hC
  refine wp_iload_n d220_0 rfl ?_
  refine wp_invsT (e := 43) (j2 := 209) (n := 1) d220_1 (by decide +kernel) (by decide +kernel) rfl rfl rfl (Nat.le_of_ble_eq_true rfl) (Nat.le_of_ble_eq_true rfl) rfl rfl (Nat.le_of_ble_eq_true rfl) (by decide +kernel) (c_isZone (nI z)) ?_
  refine wp_ifb_eq d220_4 (tgt := 14) (by decide) (fun hq9 => absurd (⟨nI_le (by omega) (by omega), nI_le (by omega) (by omega)⟩ : nI 0 ≤ nI z ∧ nI z ≤ nI 5) hq9) (fun _ => ?_)
  refine wp_iload_n d220_7 rfl ?_
  refine wp_invsT (e := 43) (j2 := 209) (n := 1) d220_8 (by decide +kernel) (by decide +kernel) rfl rfl rfl (Nat.le_of_ble_eq_true rfl) (Nat.le_of_ble_eq_true rfl) rfl rfl (Nat.le_of_ble_eq_true rfl) (by decide +kernel) (c_isZone (nI o)) ?_
  refine wp_ifb_ne d220_11 (tgt := 16) (by decide) (fun _ => ?_) (fun hq9 => absurd (⟨nI_le (by omega) (by omega), nI_le (by omega) (by omega)⟩ : nI 0 ≤ nI o ∧ nI o ≤ nI 5) hq9)
  refine wp_iload_n d220_16 rfl ?_
  refine wp_iload_n d220_17 rfl ?_
  refine wp_icmp_ne d220_18 (tgt := 24) (by decide) (fun _ => ?_) (fun hq9 => absurd hq9 (fun q => he ((nI_eq (by omega) (by omega)).mp q)))
  refine wp_iload_n d220_24 rfl ?_
  refine wp_ifb_eq d220_25 (tgt := 57) (by decide) (fun hq9 => absurd hi hq9) (fun _ => ?_)
  refine wp_aload_n d220_28 rfl ?_
  refine wp_getf (e := 7) (ci := 12) (k := 0) (nest := false) d220_29 (by decide +kernel) (md_0 hR) rfl ?_
  refine wp_bipush d220_32 (v := nI 8) (by decide) ?_
  refine wp_iload_n d220_34 rfl ?_
  refine wp_iaddv d220_35 (v := nI (8 + z)) (nI_add _ _) ?_
  refine wp_iald d220_36 (md_1 hR) (nI_in (by omega) (by decide)) (v := σ (8 + z)) ((congrArg σ (nI_nat (by omega))).trans rfl) ?_
  refine wp_iconst d220_37 (v := nI 1) (by decide) ?_
  refine wp_icmp_ne d220_38 (tgt := 57) (by decide) (fun _ => ?_) (fun hq9 => absurd hq9 h8)
  refine wp_aload_n d220_57 rfl ?_
  refine wp_iload_n d220_58 rfl ?_
  refine wp_iload_n d220_59 rfl ?_
  refine wp_invvT (e := 66) (j2 := 221) (n := 2) d220_60 (by decide +kernel) (by decide +kernel) rfl rfl rfl (md_0 hR) (by decide +kernel) (Nat.le_of_ble_eq_true rfl) rfl rfl (Nat.le_of_ble_eq_true rfl) (by decide +kernel) (c_excludes hR (z := z) (o := o) (by omega)) ?_
  refine wp_iload_n d220_63 rfl ?_
  refine wp_icmp_ne d220_64 (tgt := 70) (by decide) (fun hq9 => absurd hb hq9) (fun _ => ?_)
  refine wp_bipush d220_67 (v := (-5 : Int32)) (by decide) ?_
  refine wp_iret d220_69 (by decide +kernel) ?_
  exact ⟨rfl, rfl⟩
theorem r_excludeb {X : mX} {h : mH} {R : Nat → Nat → Int32} {σ : Nat → Int32} (hR : Ms h R σ) {mi nR nD nG nW nA n : Nat} (hC : Cn σ mi nR nD nG nW nA) (hn : R 0 5 = nI n) (hn4 : n ≤ 4) {z o : Nat} {is : Bool} (hz : z < 6) (ho : o < 6) (he : ¬ z = o) (hi : is = true) (h8 : ¬ σ (8 + z) = nI 1) (hb : ¬ m_b (F_bit (σ (14 + z)) (nI o)) = m_b (is = true)) : Does X 220 [.ref 313, .int (nI z), .int (nI o), .int (m_b (is = true))] h (F_rec R σ n) (R_excl σ z o) (some (.int (F_bits (σ (14 + z) ^^^ (nI 1 <<< (nI o &&& 31))) 16))) := by
  obtain ⟨⟨h0, hmi⟩, ⟨h2, hR1, hR12⟩, ⟨h3, hD⟩, ⟨h4, hG⟩, ⟨h5, hW⟩, ⟨h6, hA⟩⟩ := hC
  have hF : Frm h h 313 8 := Frm.rf
  refine wp_iload_n d220_0 rfl ?_
  refine wp_invsT (e := 43) (j2 := 209) (n := 1) d220_1 (by decide +kernel) (by decide +kernel) rfl rfl rfl (Nat.le_of_ble_eq_true rfl) (Nat.le_of_ble_eq_true rfl) rfl rfl (Nat.le_of_ble_eq_true rfl) (by decide +kernel) (c_isZone (nI z)) ?_
  refine wp_ifb_eq d220_4 (tgt := 14) (by decide) (fun hq9 => absurd (⟨nI_le (by omega) (by omega), nI_le (by omega) (by omega)⟩ : nI 0 ≤ nI z ∧ nI z ≤ nI 5) hq9) (fun _ => ?_)
  refine wp_iload_n d220_7 rfl ?_
  refine wp_invsT (e := 43) (j2 := 209) (n := 1) d220_8 (by decide +kernel) (by decide +kernel) rfl rfl rfl (Nat.le_of_ble_eq_true rfl) (Nat.le_of_ble_eq_true rfl) rfl rfl (Nat.le_of_ble_eq_true rfl) (by decide +kernel) (c_isZone (nI o)) ?_
  refine wp_ifb_ne d220_11 (tgt := 16) (by decide) (fun _ => ?_) (fun hq9 => absurd (⟨nI_le (by omega) (by omega), nI_le (by omega) (by omega)⟩ : nI 0 ≤ nI o ∧ nI o ≤ nI 5) hq9)
  refine wp_iload_n d220_16 rfl ?_
  refine wp_iload_n d220_17 rfl ?_
  refine wp_icmp_ne d220_18 (tgt := 24) (by decide) (fun _ => ?_) (fun hq9 => absurd hq9 (fun q => he ((nI_eq (by omega) (by omega)).mp q)))
  refine wp_iload_n d220_24 rfl ?_
  refine wp_ifb_eq d220_25 (tgt := 57) (by decide) (fun hq9 => absurd hi hq9) (fun _ => ?_)
  refine wp_aload_n d220_28 rfl ?_
  refine wp_getf (e := 7) (ci := 12) (k := 0) (nest := false) d220_29 (by decide +kernel) (md_0 hR) rfl ?_
  refine wp_bipush d220_32 (v := nI 8) (by decide) ?_
  refine wp_iload_n d220_34 rfl ?_
  refine wp_iaddv d220_35 (v := nI (8 + z)) (nI_add _ _) ?_
  refine wp_iald d220_36 (md_1 hR) (nI_in (by omega) (by decide)) (v := σ (8 + z)) ((congrArg σ (nI_nat (by omega))).trans rfl) ?_
  refine wp_iconst d220_37 (v := nI 1) (by decide) ?_
  refine wp_icmp_ne d220_38 (tgt := 57) (by decide) (fun _ => ?_) (fun hq9 => absurd hq9 h8)
  refine wp_aload_n d220_57 rfl ?_
  refine wp_iload_n d220_58 rfl ?_
  refine wp_iload_n d220_59 rfl ?_
  refine wp_invvT (e := 66) (j2 := 221) (n := 2) d220_60 (by decide +kernel) (by decide +kernel) rfl rfl rfl (md_0 hR) (by decide +kernel) (Nat.le_of_ble_eq_true rfl) rfl rfl (Nat.le_of_ble_eq_true rfl) (by decide +kernel) (c_excludes hR (z := z) (o := o) (by omega)) ?_
  refine wp_iload_n d220_63 rfl ?_
  refine wp_icmp_ne d220_64 (tgt := 70) (by decide) (fun _ => ?_) (fun hq9 => absurd hq9 hb)
  refine wp_aload_n d220_70 rfl ?_
  refine wp_invvD (e := 50) (j2 := 212) (n := 0) d220_71 (by decide +kernel) (by decide +kernel) rfl rfl rfl (md_0 hR) (by decide +kernel) (Nat.le_of_ble_eq_true rfl) rfl rfl (Nat.le_of_ble_eq_true rfl) (by decide +kernel) (c_record hR hn hn4) hF ?_
  intro h hR hF
  refine wp_aload_n d220_74 rfl ?_
  refine wp_getf (e := 7) (ci := 12) (k := 0) (nest := false) d220_75 (by decide +kernel) (md_0 hR) rfl ?_
  refine wp_bipush d220_78 (v := nI 14) (by decide) ?_
  refine wp_iload_n d220_80 rfl ?_
  refine wp_iaddv d220_81 (v := nI (14 + z)) (nI_add _ _) ?_
  refine wp_dup2 d220_82 rfl rfl ?_
  refine wp_iald d220_83 (md_1 hR) (nI_in (by omega) (by decide)) (v := σ (14 + z)) ((congrArg σ (nI_nat (by omega))).trans rfl) ?_
  refine wp_iconst d220_84 (v := nI 1) (by decide) ?_
  refine wp_iload_n d220_85 rfl ?_
  refine wp_ishl d220_86 ?_
  refine wp_ixor d220_87 ?_
  refine wp_stS d220_88 hR hF (k := 14 + z) (by omega) (fun h hR hF => ?_)
  refine wp_aload_n d220_89 rfl ?_
  refine wp_getf (e := 7) (ci := 12) (k := 0) (nest := false) d220_90 (by decide +kernel) (md_0 hR) rfl ?_
  refine wp_bipush d220_93 (v := nI 14) (by decide) ?_
  refine wp_iload_n d220_95 rfl ?_
  refine wp_iaddv d220_96 (v := nI (14 + o)) (nI_add _ _) ?_
  refine wp_dup2 d220_97 rfl rfl ?_
  refine wp_iald d220_98 (md_1 hR) (nI_in (by omega) (by decide)) (v := σ (14 + o)) ((congrArg ((upd σ (14 + z) (((σ (14 + z)) ^^^ ((nI 1) <<< ((nI o) &&& 31)))))) (nI_nat (by omega))).trans ((upd_ne (by omega)).trans rfl)) ?_
  refine wp_iconst d220_99 (v := nI 1) (by decide) ?_
  refine wp_iload_n d220_100 rfl ?_
  refine wp_ishl d220_101 ?_
  refine wp_ixor d220_102 ?_
  refine wp_stS d220_103 hR hF (k := 14 + o) (by omega) (fun h hR hF => ?_)
  refine wp_aload_n d220_104 rfl ?_
  refine wp_getf (e := 7) (ci := 12) (k := 0) (nest := false) d220_105 (by decide +kernel) (md_0 hR) rfl ?_
  refine wp_bipush d220_108 (v := nI 14) (by decide) ?_
  refine wp_iload_n d220_110 rfl ?_
  refine wp_iaddv d220_111 (v := nI (14 + z)) (nI_add _ _) ?_
  refine wp_iald d220_112 (md_1 hR) (nI_in (by omega) (by decide)) (v := ((σ (14 + z)) ^^^ ((nI 1) <<< ((nI o) &&& 31)))) ((congrArg ((upd (upd σ (14 + z) (((σ (14 + z)) ^^^ ((nI 1) <<< ((nI o) &&& 31))))) (14 + o) (((σ (14 + o)) ^^^ ((nI 1) <<< ((nI z) &&& 31)))))) (nI_nat (by omega))).trans ((upd_ne (by omega)).trans upd_eq)) ?_
  refine wp_invsT (e := 70) (j2 := 222) (n := 1) d220_113 (by decide +kernel) (by decide +kernel) rfl rfl rfl (Nat.le_of_ble_eq_true rfl) (Nat.le_of_ble_eq_true rfl) rfl rfl (Nat.le_of_ble_eq_true rfl) (by decide +kernel) (c_bitsIn (((σ (14 + z)) ^^^ ((nI 1) <<< ((nI o) &&& 31))))) ?_
  refine wp_iret d220_116 (by decide +kernel) ?_
  exact ⟨rfl, hR, hF⟩
theorem r_exclude_5c {X : mX} {h : mH} {R : Nat → Nat → Int32} {σ : Nat → Int32} (hR : Ms h R σ) {mi nR nD nG nW nA n : Nat} (hC : Cn σ mi nR nD nG nW nA) (hn : R 0 5 = nI n) (hn4 : n ≤ 4) {z o : Nat} {is : Bool} (hz : z < 6) (ho : o < 6) (he : ¬ z = o) (hi : is = true) (h8 : σ (8 + z) = nI 1) (h9 : ¬ σ (8 + o) = nI 1) (hb : m_b (F_bit (σ (14 + z)) (nI o)) = m_b (is = true)) : Tells X 220 [.ref 313, .int (nI z), .int (nI o), .int (m_b (is = true))] h (-5) := by
  obtain ⟨⟨h0, hmi⟩, ⟨h2, hR1, hR12⟩, ⟨h3, hD⟩, ⟨h4, hG⟩, ⟨h5, hW⟩, ⟨h6, hA⟩⟩ := hC
  refine wp_iload_n d220_0 rfl ?_
  refine wp_invsT (e := 43) (j2 := 209) (n := 1) d220_1 (by decide +kernel) (by decide +kernel) rfl rfl rfl (Nat.le_of_ble_eq_true rfl) (Nat.le_of_ble_eq_true rfl) rfl rfl (Nat.le_of_ble_eq_true rfl) (by decide +kernel) (c_isZone (nI z)) ?_
  refine wp_ifb_eq d220_4 (tgt := 14) (by decide) (fun hq9 => absurd (⟨nI_le (by omega) (by omega), nI_le (by omega) (by omega)⟩ : nI 0 ≤ nI z ∧ nI z ≤ nI 5) hq9) (fun _ => ?_)
  refine wp_iload_n d220_7 rfl ?_
  refine wp_invsT (e := 43) (j2 := 209) (n := 1) d220_8 (by decide +kernel) (by decide +kernel) rfl rfl rfl (Nat.le_of_ble_eq_true rfl) (Nat.le_of_ble_eq_true rfl) rfl rfl (Nat.le_of_ble_eq_true rfl) (by decide +kernel) (c_isZone (nI o)) ?_
  refine wp_ifb_ne d220_11 (tgt := 16) (by decide) (fun _ => ?_) (fun hq9 => absurd (⟨nI_le (by omega) (by omega), nI_le (by omega) (by omega)⟩ : nI 0 ≤ nI o ∧ nI o ≤ nI 5) hq9)
  refine wp_iload_n d220_16 rfl ?_
  refine wp_iload_n d220_17 rfl ?_
  refine wp_icmp_ne d220_18 (tgt := 24) (by decide) (fun _ => ?_) (fun hq9 => absurd hq9 (fun q => he ((nI_eq (by omega) (by omega)).mp q)))
  refine wp_iload_n d220_24 rfl ?_
  refine wp_ifb_eq d220_25 (tgt := 57) (by decide) (fun hq9 => absurd hi hq9) (fun _ => ?_)
  refine wp_aload_n d220_28 rfl ?_
  refine wp_getf (e := 7) (ci := 12) (k := 0) (nest := false) d220_29 (by decide +kernel) (md_0 hR) rfl ?_
  refine wp_bipush d220_32 (v := nI 8) (by decide) ?_
  refine wp_iload_n d220_34 rfl ?_
  refine wp_iaddv d220_35 (v := nI (8 + z)) (nI_add _ _) ?_
  refine wp_iald d220_36 (md_1 hR) (nI_in (by omega) (by decide)) (v := σ (8 + z)) ((congrArg σ (nI_nat (by omega))).trans rfl) ?_
  refine wp_iconst d220_37 (v := nI 1) (by decide) ?_
  refine wp_icmp_ne d220_38 (tgt := 57) (by decide) (fun hq9 => absurd h8 hq9) (fun _ => ?_)
  refine wp_aload_n d220_41 rfl ?_
  refine wp_getf (e := 7) (ci := 12) (k := 0) (nest := false) d220_42 (by decide +kernel) (md_0 hR) rfl ?_
  refine wp_bipush d220_45 (v := nI 8) (by decide) ?_
  refine wp_iload_n d220_47 rfl ?_
  refine wp_iaddv d220_48 (v := nI (8 + o)) (nI_add _ _) ?_
  refine wp_iald d220_49 (md_1 hR) (nI_in (by omega) (by decide)) (v := σ (8 + o)) ((congrArg σ (nI_nat (by omega))).trans rfl) ?_
  refine wp_iconst d220_50 (v := nI 1) (by decide) ?_
  refine wp_icmp_ne d220_51 (tgt := 57) (by decide) (fun _ => ?_) (fun hq9 => absurd hq9 h9)
  refine wp_aload_n d220_57 rfl ?_
  refine wp_iload_n d220_58 rfl ?_
  refine wp_iload_n d220_59 rfl ?_
  refine wp_invvT (e := 66) (j2 := 221) (n := 2) d220_60 (by decide +kernel) (by decide +kernel) rfl rfl rfl (md_0 hR) (by decide +kernel) (Nat.le_of_ble_eq_true rfl) rfl rfl (Nat.le_of_ble_eq_true rfl) (by decide +kernel) (c_excludes hR (z := z) (o := o) (by omega)) ?_
  refine wp_iload_n d220_63 rfl ?_
  refine wp_icmp_ne d220_64 (tgt := 70) (by decide) (fun hq9 => absurd hb hq9) (fun _ => ?_)
  refine wp_bipush d220_67 (v := (-5 : Int32)) (by decide) ?_
  refine wp_iret d220_69 (by decide +kernel) ?_
  exact ⟨rfl, rfl⟩
theorem r_excludec {X : mX} {h : mH} {R : Nat → Nat → Int32} {σ : Nat → Int32} (hR : Ms h R σ) {mi nR nD nG nW nA n : Nat} (hC : Cn σ mi nR nD nG nW nA) (hn : R 0 5 = nI n) (hn4 : n ≤ 4) {z o : Nat} {is : Bool} (hz : z < 6) (ho : o < 6) (he : ¬ z = o) (hi : is = true) (h8 : σ (8 + z) = nI 1) (h9 : ¬ σ (8 + o) = nI 1) (hb : ¬ m_b (F_bit (σ (14 + z)) (nI o)) = m_b (is = true)) : Does X 220 [.ref 313, .int (nI z), .int (nI o), .int (m_b (is = true))] h (F_rec R σ n) (R_excl σ z o) (some (.int (F_bits (σ (14 + z) ^^^ (nI 1 <<< (nI o &&& 31))) 16))) := by
  obtain ⟨⟨h0, hmi⟩, ⟨h2, hR1, hR12⟩, ⟨h3, hD⟩, ⟨h4, hG⟩, ⟨h5, hW⟩, ⟨h6, hA⟩⟩ := hC
  have hF : Frm h h 313 8 := Frm.rf
  refine wp_iload_n d220_0 rfl ?_
  refine wp_invsT (e := 43) (j2 := 209) (n := 1) d220_1 (by decide +kernel) (by decide +kernel) rfl rfl rfl (Nat.le_of_ble_eq_true rfl) (Nat.le_of_ble_eq_true rfl) rfl rfl (Nat.le_of_ble_eq_true rfl) (by decide +kernel) (c_isZone (nI z)) ?_
  refine wp_ifb_eq d220_4 (tgt := 14) (by decide) (fun hq9 => absurd (⟨nI_le (by omega) (by omega), nI_le (by omega) (by omega)⟩ : nI 0 ≤ nI z ∧ nI z ≤ nI 5) hq9) (fun _ => ?_)
  refine wp_iload_n d220_7 rfl ?_
  refine wp_invsT (e := 43) (j2 := 209) (n := 1) d220_8 (by decide +kernel) (by decide +kernel) rfl rfl rfl (Nat.le_of_ble_eq_true rfl) (Nat.le_of_ble_eq_true rfl) rfl rfl (Nat.le_of_ble_eq_true rfl) (by decide +kernel) (c_isZone (nI o)) ?_
  refine wp_ifb_ne d220_11 (tgt := 16) (by decide) (fun _ => ?_) (fun hq9 => absurd (⟨nI_le (by omega) (by omega), nI_le (by omega) (by omega)⟩ : nI 0 ≤ nI o ∧ nI o ≤ nI 5) hq9)
  refine wp_iload_n d220_16 rfl ?_
  refine wp_iload_n d220_17 rfl ?_
  refine wp_icmp_ne d220_18 (tgt := 24) (by decide) (fun _ => ?_) (fun hq9 => absurd hq9 (fun q => he ((nI_eq (by omega) (by omega)).mp q)))
  refine wp_iload_n d220_24 rfl ?_
  refine wp_ifb_eq d220_25 (tgt := 57) (by decide) (fun hq9 => absurd hi hq9) (fun _ => ?_)
  refine wp_aload_n d220_28 rfl ?_
  refine wp_getf (e := 7) (ci := 12) (k := 0) (nest := false) d220_29 (by decide +kernel) (md_0 hR) rfl ?_
  refine wp_bipush d220_32 (v := nI 8) (by decide) ?_
  refine wp_iload_n d220_34 rfl ?_
  refine wp_iaddv d220_35 (v := nI (8 + z)) (nI_add _ _) ?_
  refine wp_iald d220_36 (md_1 hR) (nI_in (by omega) (by decide)) (v := σ (8 + z)) ((congrArg σ (nI_nat (by omega))).trans rfl) ?_
  refine wp_iconst d220_37 (v := nI 1) (by decide) ?_
  refine wp_icmp_ne d220_38 (tgt := 57) (by decide) (fun hq9 => absurd h8 hq9) (fun _ => ?_)
  refine wp_aload_n d220_41 rfl ?_
  refine wp_getf (e := 7) (ci := 12) (k := 0) (nest := false) d220_42 (by decide +kernel) (md_0 hR) rfl ?_
  refine wp_bipush d220_45 (v := nI 8) (by decide) ?_
  refine wp_iload_n d220_47 rfl ?_
  refine wp_iaddv d220_48 (v := nI (8 + o)) (nI_add _ _) ?_
  refine wp_iald d220_49 (md_1 hR) (nI_in (by omega) (by decide)) (v := σ (8 + o)) ((congrArg σ (nI_nat (by omega))).trans rfl) ?_
  refine wp_iconst d220_50 (v := nI 1) (by decide) ?_
  refine wp_icmp_ne d220_51 (tgt := 57) (by decide) (fun _ => ?_) (fun hq9 => absurd hq9 h9)
  refine wp_aload_n d220_57 rfl ?_
  refine wp_iload_n d220_58 rfl ?_
  refine wp_iload_n d220_59 rfl ?_
  refine wp_invvT (e := 66) (j2 := 221) (n := 2) d220_60 (by decide +kernel) (by decide +kernel) rfl rfl rfl (md_0 hR) (by decide +kernel) (Nat.le_of_ble_eq_true rfl) rfl rfl (Nat.le_of_ble_eq_true rfl) (by decide +kernel) (c_excludes hR (z := z) (o := o) (by omega)) ?_
  refine wp_iload_n d220_63 rfl ?_
  refine wp_icmp_ne d220_64 (tgt := 70) (by decide) (fun _ => ?_) (fun hq9 => absurd hq9 hb)
  refine wp_aload_n d220_70 rfl ?_
  refine wp_invvD (e := 50) (j2 := 212) (n := 0) d220_71 (by decide +kernel) (by decide +kernel) rfl rfl rfl (md_0 hR) (by decide +kernel) (Nat.le_of_ble_eq_true rfl) rfl rfl (Nat.le_of_ble_eq_true rfl) (by decide +kernel) (c_record hR hn hn4) hF ?_
  intro h hR hF
  refine wp_aload_n d220_74 rfl ?_
  refine wp_getf (e := 7) (ci := 12) (k := 0) (nest := false) d220_75 (by decide +kernel) (md_0 hR) rfl ?_
  refine wp_bipush d220_78 (v := nI 14) (by decide) ?_
  refine wp_iload_n d220_80 rfl ?_
  refine wp_iaddv d220_81 (v := nI (14 + z)) (nI_add _ _) ?_
  refine wp_dup2 d220_82 rfl rfl ?_
  refine wp_iald d220_83 (md_1 hR) (nI_in (by omega) (by decide)) (v := σ (14 + z)) ((congrArg σ (nI_nat (by omega))).trans rfl) ?_
  refine wp_iconst d220_84 (v := nI 1) (by decide) ?_
  refine wp_iload_n d220_85 rfl ?_
  refine wp_ishl d220_86 ?_
  refine wp_ixor d220_87 ?_
  refine wp_stS d220_88 hR hF (k := 14 + z) (by omega) (fun h hR hF => ?_)
  refine wp_aload_n d220_89 rfl ?_
  refine wp_getf (e := 7) (ci := 12) (k := 0) (nest := false) d220_90 (by decide +kernel) (md_0 hR) rfl ?_
  refine wp_bipush d220_93 (v := nI 14) (by decide) ?_
  refine wp_iload_n d220_95 rfl ?_
  refine wp_iaddv d220_96 (v := nI (14 + o)) (nI_add _ _) ?_
  refine wp_dup2 d220_97 rfl rfl ?_
  refine wp_iald d220_98 (md_1 hR) (nI_in (by omega) (by decide)) (v := σ (14 + o)) ((congrArg ((upd σ (14 + z) (((σ (14 + z)) ^^^ ((nI 1) <<< ((nI o) &&& 31)))))) (nI_nat (by omega))).trans ((upd_ne (by omega)).trans rfl)) ?_
  refine wp_iconst d220_99 (v := nI 1) (by decide) ?_
  refine wp_iload_n d220_100 rfl ?_
  refine wp_ishl d220_101 ?_
  refine wp_ixor d220_102 ?_
  refine wp_stS d220_103 hR hF (k := 14 + o) (by omega) (fun h hR hF => ?_)
  refine wp_aload_n d220_104 rfl ?_
  refine wp_getf (e := 7) (ci := 12) (k := 0) (nest := false) d220_105 (by decide +kernel) (md_0 hR) rfl ?_
  refine wp_bipush d220_108 (v := nI 14) (by decide) ?_
  refine wp_iload_n d220_110 rfl ?_
  refine wp_iaddv d220_111 (v := nI (14 + z)) (nI_add _ _) ?_
  refine wp_iald d220_112 (md_1 hR) (nI_in (by omega) (by decide)) (v := ((σ (14 + z)) ^^^ ((nI 1) <<< ((nI o) &&& 31)))) ((congrArg ((upd (upd σ (14 + z) (((σ (14 + z)) ^^^ ((nI 1) <<< ((nI o) &&& 31))))) (14 + o) (((σ (14 + o)) ^^^ ((nI 1) <<< ((nI z) &&& 31)))))) (nI_nat (by omega))).trans ((upd_ne (by omega)).trans upd_eq)) ?_
  refine wp_invsT (e := 70) (j2 := 222) (n := 1) d220_113 (by decide +kernel) (by decide +kernel) rfl rfl rfl (Nat.le_of_ble_eq_true rfl) (Nat.le_of_ble_eq_true rfl) rfl rfl (Nat.le_of_ble_eq_true rfl) (by decide +kernel) (c_bitsIn (((σ (14 + z)) ^^^ ((nI 1) <<< ((nI o) &&& 31))))) ?_
  refine wp_iret d220_116 (by decide +kernel) ?_
  exact ⟨rfl, hR, hF⟩
theorem r_openZone_1 {X : mX} {h : mH} {R : Nat → Nat → Int32} {σ : Nat → Int32} (hR : Ms h R σ) {mi nR nD nG nW nA n : Nat} (hC : Cn σ mi nR nD nG nW nA) (hn : R 0 5 = nI n) (hn4 : n ≤ 4) {x : Int32} (hx : ¬ (nI 0 ≤ x ∧ x ≤ nI 5)) : Tells X 223 [.ref 313, .int (x)] h (-1) := by
  obtain ⟨⟨h0, hmi⟩, ⟨h2, hR1, hR12⟩, ⟨h3, hD⟩, ⟨h4, hG⟩, ⟨h5, hW⟩, ⟨h6, hA⟩⟩ := hC
  refine wp_iload_n d223_0 rfl ?_
  refine wp_invsT (e := 43) (j2 := 209) (n := 1) d223_1 (by decide +kernel) (by decide +kernel) rfl rfl rfl (Nat.le_of_ble_eq_true rfl) (Nat.le_of_ble_eq_true rfl) rfl rfl (Nat.le_of_ble_eq_true rfl) (by decide +kernel) (c_isZone (x)) ?_
  refine wp_ifb_ne d223_4 (tgt := 11) (by decide) (fun hq9 => absurd hq9 hx) (fun _ => ?_)
  refine wp_iconst d223_7 (v := (-1 : Int32)) (by decide) ?_
  refine wp_goto d223_8 (tgt := 43) (by decide) ?_
  refine wp_istore_n d223_43 (Nat.le_of_ble_eq_true rfl) rfl ?_
  refine wp_iload_n d223_44 rfl ?_
  refine wp_if_ge d223_45 (tgt := 50) (by decide) (fun hz => absurd hz (by decide)) (fun _ => ?_)
  refine wp_iload_n d223_48 rfl ?_
  refine wp_iret d223_49 (by decide +kernel) ?_
  exact ⟨rfl, rfl⟩
theorem r_openZone_2 {X : mX} {h : mH} {R : Nat → Nat → Int32} {σ : Nat → Int32} (hR : Ms h R σ) {mi nR nD nG nW nA n : Nat} (hC : Cn σ mi nR nD nG nW nA) (hn : R 0 5 = nI n) (hn4 : n ≤ 4) {z : Nat} (hz : z < 6) (hb : F_bar σ z 6 = true) : Tells X 223 [.ref 313, .int (nI z)] h (-4) := by
  obtain ⟨⟨h0, hmi⟩, ⟨h2, hR1, hR12⟩, ⟨h3, hD⟩, ⟨h4, hG⟩, ⟨h5, hW⟩, ⟨h6, hA⟩⟩ := hC
  refine wp_iload_n d223_0 rfl ?_
  refine wp_invsT (e := 43) (j2 := 209) (n := 1) d223_1 (by decide +kernel) (by decide +kernel) rfl rfl rfl (Nat.le_of_ble_eq_true rfl) (Nat.le_of_ble_eq_true rfl) rfl rfl (Nat.le_of_ble_eq_true rfl) (by decide +kernel) (c_isZone (nI z)) ?_
  refine wp_ifb_ne d223_4 (tgt := 11) (by decide) (fun _ => ?_) (fun hq9 => absurd (⟨nI_le (by omega) (by omega), nI_le (by omega) (by omega)⟩ : nI 0 ≤ nI z ∧ nI z ≤ nI 5) hq9)
  refine wp_aload_n d223_11 rfl ?_
  refine wp_iload_n d223_12 rfl ?_
  refine wp_invvT (e := 74) (j2 := 224) (n := 1) d223_13 (by decide +kernel) (by decide +kernel) rfl rfl rfl (md_0 hR) (by decide +kernel) (Nat.le_of_ble_eq_true rfl) rfl rfl (Nat.le_of_ble_eq_true rfl) (by decide +kernel) (c_isBarred hR (z := z) (by omega)) ?_
  refine wp_ifb_eq d223_16 (tgt := 24) (by decide) (fun hq9 => absurd hb hq9) (fun _ => ?_)
  refine wp_bipush d223_19 (v := (-4 : Int32)) (by decide) ?_
  refine wp_goto d223_21 (tgt := 43) (by decide) ?_
  refine wp_istore_n d223_43 (Nat.le_of_ble_eq_true rfl) rfl ?_
  refine wp_iload_n d223_44 rfl ?_
  refine wp_if_ge d223_45 (tgt := 50) (by decide) (fun hz => absurd hz (by decide)) (fun _ => ?_)
  refine wp_iload_n d223_48 rfl ?_
  refine wp_iret d223_49 (by decide +kernel) ?_
  exact ⟨rfl, rfl⟩
theorem r_openZone_3 {X : mX} {h : mH} {R : Nat → Nat → Int32} {σ : Nat → Int32} (hR : Ms h R σ) {mi nR nD nG nW nA n : Nat} (hC : Cn σ mi nR nD nG nW nA) (hn : R 0 5 = nI n) (hn4 : n ≤ 4) {z : Nat} (hz : z < 6) (hb : ¬ F_bar σ z 6 = true) (h8 : σ (8 + z) = nI 1) : Tells X 223 [.ref 313, .int (nI z)] h (-5) := by
  obtain ⟨⟨h0, hmi⟩, ⟨h2, hR1, hR12⟩, ⟨h3, hD⟩, ⟨h4, hG⟩, ⟨h5, hW⟩, ⟨h6, hA⟩⟩ := hC
  refine wp_iload_n d223_0 rfl ?_
  refine wp_invsT (e := 43) (j2 := 209) (n := 1) d223_1 (by decide +kernel) (by decide +kernel) rfl rfl rfl (Nat.le_of_ble_eq_true rfl) (Nat.le_of_ble_eq_true rfl) rfl rfl (Nat.le_of_ble_eq_true rfl) (by decide +kernel) (c_isZone (nI z)) ?_
  refine wp_ifb_ne d223_4 (tgt := 11) (by decide) (fun _ => ?_) (fun hq9 => absurd (⟨nI_le (by omega) (by omega), nI_le (by omega) (by omega)⟩ : nI 0 ≤ nI z ∧ nI z ≤ nI 5) hq9)
  refine wp_aload_n d223_11 rfl ?_
  refine wp_iload_n d223_12 rfl ?_
  refine wp_invvT (e := 74) (j2 := 224) (n := 1) d223_13 (by decide +kernel) (by decide +kernel) rfl rfl rfl (md_0 hR) (by decide +kernel) (Nat.le_of_ble_eq_true rfl) rfl rfl (Nat.le_of_ble_eq_true rfl) (by decide +kernel) (c_isBarred hR (z := z) (by omega)) ?_
  refine wp_ifb_eq d223_16 (tgt := 24) (by decide) (fun _ => ?_) (fun hq9 => absurd hq9 hb)
  refine wp_aload_n d223_24 rfl ?_
  refine wp_getf (e := 7) (ci := 12) (k := 0) (nest := false) d223_25 (by decide +kernel) (md_0 hR) rfl ?_
  refine wp_bipush d223_28 (v := nI 8) (by decide) ?_
  refine wp_iload_n d223_30 rfl ?_
  refine wp_iaddv d223_31 (v := nI (8 + z)) (nI_add _ _) ?_
  refine wp_iald d223_32 (md_1 hR) (nI_in (by omega) (by decide)) (v := σ (8 + z)) ((congrArg σ (nI_nat (by omega))).trans rfl) ?_
  refine wp_iconst d223_33 (v := nI 1) (by decide) ?_
  refine wp_icmp_ne d223_34 (tgt := 42) (by decide) (fun hq9 => absurd h8 hq9) (fun _ => ?_)
  refine wp_bipush d223_37 (v := (-5 : Int32)) (by decide) ?_
  refine wp_goto d223_39 (tgt := 43) (by decide) ?_
  refine wp_istore_n d223_43 (Nat.le_of_ble_eq_true rfl) rfl ?_
  refine wp_iload_n d223_44 rfl ?_
  refine wp_if_ge d223_45 (tgt := 50) (by decide) (fun hz => absurd hz (by decide)) (fun _ => ?_)
  refine wp_iload_n d223_48 rfl ?_
  refine wp_iret d223_49 (by decide +kernel) ?_
  exact ⟨rfl, rfl⟩
theorem r_openZone {X : mX} {h : mH} {R : Nat → Nat → Int32} {σ : Nat → Int32} (hR : Ms h R σ) {mi nR nD nG nW nA n : Nat} (hC : Cn σ mi nR nD nG nW nA) (hn : R 0 5 = nI n) (hn4 : n ≤ 4) {z : Nat} (hz : z < 6) (hb : ¬ F_bar σ z 6 = true) (h8 : ¬ σ (8 + z) = nI 1) : Does X 223 [.ref 313, .int (nI z)] h (F_rec R σ n) (upd σ (8 + z) (nI 1)) (some (.int (F_oz (upd σ (8 + z) (nI 1)) 6))) := by
  obtain ⟨⟨h0, hmi⟩, ⟨h2, hR1, hR12⟩, ⟨h3, hD⟩, ⟨h4, hG⟩, ⟨h5, hW⟩, ⟨h6, hA⟩⟩ := hC
  have hF : Frm h h 313 8 := Frm.rf
  refine wp_iload_n d223_0 rfl ?_
  refine wp_invsT (e := 43) (j2 := 209) (n := 1) d223_1 (by decide +kernel) (by decide +kernel) rfl rfl rfl (Nat.le_of_ble_eq_true rfl) (Nat.le_of_ble_eq_true rfl) rfl rfl (Nat.le_of_ble_eq_true rfl) (by decide +kernel) (c_isZone (nI z)) ?_
  refine wp_ifb_ne d223_4 (tgt := 11) (by decide) (fun _ => ?_) (fun hq9 => absurd (⟨nI_le (by omega) (by omega), nI_le (by omega) (by omega)⟩ : nI 0 ≤ nI z ∧ nI z ≤ nI 5) hq9)
  refine wp_aload_n d223_11 rfl ?_
  refine wp_iload_n d223_12 rfl ?_
  refine wp_invvT (e := 74) (j2 := 224) (n := 1) d223_13 (by decide +kernel) (by decide +kernel) rfl rfl rfl (md_0 hR) (by decide +kernel) (Nat.le_of_ble_eq_true rfl) rfl rfl (Nat.le_of_ble_eq_true rfl) (by decide +kernel) (c_isBarred hR (z := z) (by omega)) ?_
  refine wp_ifb_eq d223_16 (tgt := 24) (by decide) (fun _ => ?_) (fun hq9 => absurd hq9 hb)
  refine wp_aload_n d223_24 rfl ?_
  refine wp_getf (e := 7) (ci := 12) (k := 0) (nest := false) d223_25 (by decide +kernel) (md_0 hR) rfl ?_
  refine wp_bipush d223_28 (v := nI 8) (by decide) ?_
  refine wp_iload_n d223_30 rfl ?_
  refine wp_iaddv d223_31 (v := nI (8 + z)) (nI_add _ _) ?_
  refine wp_iald d223_32 (md_1 hR) (nI_in (by omega) (by decide)) (v := σ (8 + z)) ((congrArg σ (nI_nat (by omega))).trans rfl) ?_
  refine wp_iconst d223_33 (v := nI 1) (by decide) ?_
  refine wp_icmp_ne d223_34 (tgt := 42) (by decide) (fun _ => ?_) (fun hq9 => absurd hq9 h8)
  refine wp_iconst d223_42 (v := nI 0) (by decide) ?_
  refine wp_istore_n d223_43 (Nat.le_of_ble_eq_true rfl) rfl ?_
  refine wp_iload_n d223_44 rfl ?_
  refine wp_if_ge d223_45 (tgt := 50) (by decide) (fun _ => ?_) (fun hz => absurd hz (by decide))
  refine wp_aload_n d223_50 rfl ?_
  refine wp_invvD (e := 50) (j2 := 212) (n := 0) d223_51 (by decide +kernel) (by decide +kernel) rfl rfl rfl (md_0 hR) (by decide +kernel) (Nat.le_of_ble_eq_true rfl) rfl rfl (Nat.le_of_ble_eq_true rfl) (by decide +kernel) (c_record hR hn hn4) hF ?_
  intro h hR hF
  refine wp_aload_n d223_54 rfl ?_
  refine wp_getf (e := 7) (ci := 12) (k := 0) (nest := false) d223_55 (by decide +kernel) (md_0 hR) rfl ?_
  refine wp_bipush d223_58 (v := nI 8) (by decide) ?_
  refine wp_iload_n d223_60 rfl ?_
  refine wp_iaddv d223_61 (v := nI (8 + z)) (nI_add _ _) ?_
  refine wp_iconst d223_62 (v := nI 1) (by decide) ?_
  refine wp_stS d223_63 hR hF (k := 8 + z) (by omega) (fun h hR hF => ?_)
  refine wp_aload_n d223_64 rfl ?_
  refine wp_invvT (e := 77) (j2 := 225) (n := 0) d223_65 (by decide +kernel) (by decide +kernel) rfl rfl rfl (md_0 hR) (by decide +kernel) (Nat.le_of_ble_eq_true rfl) rfl rfl (Nat.le_of_ble_eq_true rfl) (by decide +kernel) (c_openZones hR) ?_
  refine wp_iret d223_68 (by decide +kernel) ?_
  exact ⟨rfl, hR, hF⟩
theorem r_addGuard_1 {X : mX} {h : mH} {R : Nat → Nat → Int32} {σ : Nat → Int32} (hR : Ms h R σ) {mi nR nD nG nW nA n : Nat} (hC : Cn σ mi nR nD nG nW nA) (hn : R 0 5 = nI n) (hn4 : n ≤ 4) (hf : nG = 4) : Tells X 229 [.ref 313] h (-3) := by
  obtain ⟨⟨h0, hmi⟩, ⟨h2, hR1, hR12⟩, ⟨h3, hD⟩, ⟨h4, hG⟩, ⟨h5, hW⟩, ⟨h6, hA⟩⟩ := hC
  refine wp_aload_n d229_0 rfl ?_
  refine wp_getf (e := 7) (ci := 12) (k := 0) (nest := false) d229_1 (by decide +kernel) (md_0 hR) rfl ?_
  refine wp_iconst d229_4 (v := nI 4) (by decide) ?_
  refine wp_iald d229_5 (md_1 hR) (nI_in (by omega) (by decide)) (v := nI nG) ((congrArg σ (nI_nat (by omega))).trans h4) ?_
  refine wp_iconst d229_6 (v := nI 4) (by decide) ?_
  refine wp_icmp_ne d229_7 (tgt := 13) (by decide) (fun hq9 => absurd (by rw [hf] : nI nG = nI 4) hq9) (fun _ => ?_)
  refine wp_bipush d229_10 (v := (-3 : Int32)) (by decide) ?_
  refine wp_iret d229_12 (by decide +kernel) ?_
  exact ⟨rfl, rfl⟩
def R_addGuard (σ : Nat → Int32) (nG mi : Nat) : Nat → Int32 := upd (G_set (G_set (G_clr σ (192 + 10 * nG) 10) nG 1 (-5)) nG 9 (nI mi)) 4 (nI (nG + 1))
theorem r_addGuard_l {X : mX}  {h0 : mH} {R : Nat → Nat → Int32} {σ : Nat → Int32} {nG : Nat} (hg : nG < 4) {Q : Option Value → mH → Prop} : ∀ (d : Nat) (k : Nat) (h : mH), 10 - k = d → k ≤ 10 → Ms h R (G_clr σ (192 + 10 * nG) k) → Frm h0 h 313 8 → (∀ h1, Ms h1 R (G_clr σ (192 + 10 * nG) 10) → Frm h0 h1 313 8 → ∀ v, m_wp X 229 45 [some (.ref 313), some (.int (nI nG)), some (.int v)] [] h1 Q) → m_wp X 229 26 [some (.ref 313), some (.int (nI nG)), some (.int (nI k))] [] h Q := by
  intro d
  induction d using Nat.strongRecOn with
  | ind d ih =>
    intro k h hd hk hR hF K
    refine wp_iload_n d229_26 rfl ?_
    refine wp_bipush d229_27 (v := nI 10) (by decide) ?_
    refine wp_icmp_ge d229_29 (tgt := 45) (by decide) (fun hc29 => ?_) (fun hc29 => ?_)
    · have hc29 : 10 ≤ k := (nI_leI (by omega) (by omega)).mp hc29
      rw [show k = 10 by omega] at hR
      exact K h hR hF _
    · have hc29 : ¬ (10 ≤ k) := fun z => hc29 ((nI_leI (by omega) (by omega)).mpr z)
      refine wp_aload_n d229_32 rfl ?_
      refine wp_iload_n d229_33 rfl ?_
      refine wp_iload_n d229_34 rfl ?_
      refine wp_iconst d229_35 (v := nI 0) (by decide) ?_
      refine wp_invvD (e := 87) (j2 := 230) (n := 3) d229_36 (by decide +kernel) (by decide +kernel) rfl rfl rfl (md_0 hR) (by decide +kernel) (Nat.le_of_ble_eq_true rfl) rfl rfl (Nat.le_of_ble_eq_true rfl) (by decide +kernel) (c_setGuard hR (g := nG) (p := k) (by omega) (by omega) (nI 0)) hF ?_
      intro h hR hF
      refine wp_iinc d229_39 rfl (v := nI (k + 1)) (nI_add _ 1) (Nat.le_of_ble_eq_true rfl) rfl ?_
      refine wp_goto d229_42 (tgt := 26) (by decide) ?_
      exact ih (10 - (k + 1)) (by omega) (k + 1) h rfl (by omega) hR hF K
theorem r_addGuard {X : mX} {h : mH} {R : Nat → Nat → Int32} {σ : Nat → Int32} (hR : Ms h R σ) {mi nR nD nG nW nA n : Nat} (hC : Cn σ mi nR nD nG nW nA) (hn : R 0 5 = nI n) (hn4 : n ≤ 4) (hf : ¬ nG = 4) : Does X 229 [.ref 313] h (F_rec R σ n) (R_addGuard σ nG mi) (some (.int (nI nG))) := by
  obtain ⟨⟨h0, hmi⟩, ⟨h2, hR1, hR12⟩, ⟨h3, hD⟩, ⟨h4, hG⟩, ⟨h5, hW⟩, ⟨h6, hA⟩⟩ := hC
  have hF : Frm h h 313 8 := Frm.rf
  refine wp_aload_n d229_0 rfl ?_
  refine wp_getf (e := 7) (ci := 12) (k := 0) (nest := false) d229_1 (by decide +kernel) (md_0 hR) rfl ?_
  refine wp_iconst d229_4 (v := nI 4) (by decide) ?_
  refine wp_iald d229_5 (md_1 hR) (nI_in (by omega) (by decide)) (v := nI nG) ((congrArg σ (nI_nat (by omega))).trans h4) ?_
  refine wp_iconst d229_6 (v := nI 4) (by decide) ?_
  refine wp_icmp_ne d229_7 (tgt := 13) (by decide) (fun _ => ?_) (fun hq9 => absurd hq9 (fun q => hf ((nI_eq (by omega) (by omega)).mp q)))
  refine wp_aload_n d229_13 rfl ?_
  refine wp_invvD (e := 50) (j2 := 212) (n := 0) d229_14 (by decide +kernel) (by decide +kernel) rfl rfl rfl (md_0 hR) (by decide +kernel) (Nat.le_of_ble_eq_true rfl) rfl rfl (Nat.le_of_ble_eq_true rfl) (by decide +kernel) (c_record hR hn hn4) hF ?_
  intro h hR hF
  refine wp_aload_n d229_17 rfl ?_
  refine wp_getf (e := 7) (ci := 12) (k := 0) (nest := false) d229_18 (by decide +kernel) (md_0 hR) rfl ?_
  refine wp_iconst d229_21 (v := nI 4) (by decide) ?_
  refine wp_iald d229_22 (md_1 hR) (nI_in (by omega) (by decide)) (v := nI nG) ((congrArg σ (nI_nat (by omega))).trans h4) ?_
  refine wp_istore_n d229_23 (Nat.le_of_ble_eq_true rfl) rfl ?_
  refine wp_iconst d229_24 (v := nI 0) (by decide) ?_
  refine wp_istore_n d229_25 (Nat.le_of_ble_eq_true rfl) rfl ?_
  refine r_addGuard_l (σ := σ) (nG := nG) (by omega) _ 0 h rfl (by omega) hR hF ?_
  intro h hR hF v2
  refine wp_aload_n d229_45 rfl ?_
  refine wp_iload_n d229_46 rfl ?_
  refine wp_iconst d229_47 (v := nI 1) (by decide) ?_
  refine wp_bipush d229_48 (v := (-5 : Int32)) (by decide) ?_
  refine wp_invvD (e := 87) (j2 := 230) (n := 3) d229_50 (by decide +kernel) (by decide +kernel) rfl rfl rfl (md_0 hR) (by decide +kernel) (Nat.le_of_ble_eq_true rfl) rfl rfl (Nat.le_of_ble_eq_true rfl) (by decide +kernel) (c_setGuard hR (g := nG) (p := 1) (by omega) (by omega) ((-5 : Int32))) hF ?_
  intro h hR hF
  refine wp_aload_n d229_53 rfl ?_
  refine wp_iload_n d229_54 rfl ?_
  refine wp_bipush d229_55 (v := nI 9) (by decide) ?_
  refine wp_aload_n d229_57 rfl ?_
  refine wp_getf (e := 7) (ci := 12) (k := 0) (nest := false) d229_58 (by decide +kernel) (md_0 hR) rfl ?_
  refine wp_iconst d229_61 (v := nI 0) (by decide) ?_
  refine wp_iald d229_62 (md_1 hR) (nI_in (by omega) (by decide)) (v := nI mi) ((congrArg ((G_set (G_clr σ (192 + 10 * nG) 10) nG 1 ((-5 : Int32)))) (nI_nat (by omega))).trans ((upd_ne (by omega)).trans ((G_clr_ne (by omega)).trans h0))) ?_
  refine wp_invvD (e := 87) (j2 := 230) (n := 3) d229_63 (by decide +kernel) (by decide +kernel) rfl rfl rfl (md_0 hR) (by decide +kernel) (Nat.le_of_ble_eq_true rfl) rfl rfl (Nat.le_of_ble_eq_true rfl) (by decide +kernel) (c_setGuard hR (g := nG) (p := 9) (by omega) (by omega) (nI mi)) hF ?_
  intro h hR hF
  refine wp_aload_n d229_66 rfl ?_
  refine wp_getf (e := 7) (ci := 12) (k := 0) (nest := false) d229_67 (by decide +kernel) (md_0 hR) rfl ?_
  refine wp_iconst d229_70 (v := nI 4) (by decide) ?_
  refine wp_dup2 d229_71 rfl rfl ?_
  refine wp_iald d229_72 (md_1 hR) (nI_in (by omega) (by decide)) (v := nI nG) ((congrArg ((G_set (G_set (G_clr σ (192 + 10 * nG) 10) nG 1 ((-5 : Int32))) nG 9 (nI mi))) (nI_nat (by omega))).trans ((upd_ne (by omega)).trans ((upd_ne (by omega)).trans ((G_clr_ne (by omega)).trans h4)))) ?_
  refine wp_iconst d229_73 (v := nI 1) (by decide) ?_
  refine wp_iaddv d229_74 (v := nI (nG + 1)) (nI_add _ _) ?_
  refine wp_stS d229_75 hR hF (k := 4) (by omega) (fun h hR hF => ?_)
  refine wp_iload_n d229_76 rfl ?_
  refine wp_iret d229_77 (by decide +kernel) ?_
  exact ⟨rfl, hR, hF⟩
theorem r_takeKey_1a {X : mX} {h : mH} {R : Nat → Nat → Int32} {σ : Nat → Int32} (hR : Ms h R σ) {mi nR nD nG nW nA n : Nat} (hC : Cn σ mi nR nD nG nW nA) (hn : R 0 5 = nI n) (hn4 : n ≤ 4) {x y : Int32} (hx : ¬ (nI 0 ≤ x ∧ x < nI nG)) : Tells X 231 [.ref 313, .int (x), .int (y)] h (-1) := by
  obtain ⟨⟨h0, hmi⟩, ⟨h2, hR1, hR12⟩, ⟨h3, hD⟩, ⟨h4, hG⟩, ⟨h5, hW⟩, ⟨h6, hA⟩⟩ := hC
  refine wp_aload_n d231_0 rfl ?_
  refine wp_iload_n d231_1 rfl ?_
  refine wp_invvT (e := 94) (j2 := 232) (n := 1) d231_2 (by decide +kernel) (by decide +kernel) rfl rfl rfl (md_0 hR) (by decide +kernel) (Nat.le_of_ble_eq_true rfl) rfl rfl (Nat.le_of_ble_eq_true rfl) (by decide +kernel) (c_isGuard hR (n := nG) h4 (by omega) (x)) ?_
  refine wp_ifb_eq d231_5 (tgt := 15) (by decide) (fun _ => ?_) (fun hq9 => absurd hq9 hx)
  refine wp_iconst d231_15 (v := (-1 : Int32)) (by decide) ?_
  refine wp_iret d231_16 (by decide +kernel) ?_
  exact ⟨rfl, rfl⟩
theorem r_takeKey_1b {X : mX} {h : mH} {R : Nat → Nat → Int32} {σ : Nat → Int32} (hR : Ms h R σ) {mi nR nD nG nW nA n : Nat} (hC : Cn σ mi nR nD nG nW nA) (hn : R 0 5 = nI n) (hn4 : n ≤ 4) {x y : Int32} (hx : nI 0 ≤ x ∧ x < nI nG) (hy : ¬ (nI 0 ≤ y ∧ y ≤ nI 7)) : Tells X 231 [.ref 313, .int (x), .int (y)] h (-1) := by
  obtain ⟨⟨h0, hmi⟩, ⟨h2, hR1, hR12⟩, ⟨h3, hD⟩, ⟨h4, hG⟩, ⟨h5, hW⟩, ⟨h6, hA⟩⟩ := hC
  refine wp_aload_n d231_0 rfl ?_
  refine wp_iload_n d231_1 rfl ?_
  refine wp_invvT (e := 94) (j2 := 232) (n := 1) d231_2 (by decide +kernel) (by decide +kernel) rfl rfl rfl (md_0 hR) (by decide +kernel) (Nat.le_of_ble_eq_true rfl) rfl rfl (Nat.le_of_ble_eq_true rfl) (by decide +kernel) (c_isGuard hR (n := nG) h4 (by omega) (x)) ?_
  refine wp_ifb_eq d231_5 (tgt := 15) (by decide) (fun hq9 => absurd hx hq9) (fun _ => ?_)
  refine wp_iload_n d231_8 rfl ?_
  refine wp_invsT (e := 97) (j2 := 233) (n := 1) d231_9 (by decide +kernel) (by decide +kernel) rfl rfl rfl (Nat.le_of_ble_eq_true rfl) (Nat.le_of_ble_eq_true rfl) rfl rfl (Nat.le_of_ble_eq_true rfl) (by decide +kernel) (c_isKey (y)) ?_
  refine wp_ifb_ne d231_12 (tgt := 17) (by decide) (fun hq9 => absurd hq9 hy) (fun _ => ?_)
  refine wp_iconst d231_15 (v := (-1 : Int32)) (by decide) ?_
  refine wp_iret d231_16 (by decide +kernel) ?_
  exact ⟨rfl, rfl⟩
theorem r_bringKey_1a {X : mX} {h : mH} {R : Nat → Nat → Int32} {σ : Nat → Int32} (hR : Ms h R σ) {mi nR nD nG nW nA n : Nat} (hC : Cn σ mi nR nD nG nW nA) (hn : R 0 5 = nI n) (hn4 : n ≤ 4) {x y : Int32} (hx : ¬ (nI 0 ≤ x ∧ x < nI nG)) : Tells X 238 [.ref 313, .int (x), .int (y)] h (-1) := by
  obtain ⟨⟨h0, hmi⟩, ⟨h2, hR1, hR12⟩, ⟨h3, hD⟩, ⟨h4, hG⟩, ⟨h5, hW⟩, ⟨h6, hA⟩⟩ := hC
  refine wp_aload_n d238_0 rfl ?_
  refine wp_iload_n d238_1 rfl ?_
  refine wp_invvT (e := 94) (j2 := 232) (n := 1) d238_2 (by decide +kernel) (by decide +kernel) rfl rfl rfl (md_0 hR) (by decide +kernel) (Nat.le_of_ble_eq_true rfl) rfl rfl (Nat.le_of_ble_eq_true rfl) (by decide +kernel) (c_isGuard hR (n := nG) h4 (by omega) (x)) ?_
  refine wp_ifb_eq d238_5 (tgt := 15) (by decide) (fun _ => ?_) (fun hq9 => absurd hq9 hx)
  refine wp_iconst d238_15 (v := (-1 : Int32)) (by decide) ?_
  refine wp_iret d238_16 (by decide +kernel) ?_
  exact ⟨rfl, rfl⟩
theorem r_bringKey_1b {X : mX} {h : mH} {R : Nat → Nat → Int32} {σ : Nat → Int32} (hR : Ms h R σ) {mi nR nD nG nW nA n : Nat} (hC : Cn σ mi nR nD nG nW nA) (hn : R 0 5 = nI n) (hn4 : n ≤ 4) {x y : Int32} (hx : nI 0 ≤ x ∧ x < nI nG) (hy : ¬ (nI 0 ≤ y ∧ y ≤ nI 7)) : Tells X 238 [.ref 313, .int (x), .int (y)] h (-1) := by
  obtain ⟨⟨h0, hmi⟩, ⟨h2, hR1, hR12⟩, ⟨h3, hD⟩, ⟨h4, hG⟩, ⟨h5, hW⟩, ⟨h6, hA⟩⟩ := hC
  refine wp_aload_n d238_0 rfl ?_
  refine wp_iload_n d238_1 rfl ?_
  refine wp_invvT (e := 94) (j2 := 232) (n := 1) d238_2 (by decide +kernel) (by decide +kernel) rfl rfl rfl (md_0 hR) (by decide +kernel) (Nat.le_of_ble_eq_true rfl) rfl rfl (Nat.le_of_ble_eq_true rfl) (by decide +kernel) (c_isGuard hR (n := nG) h4 (by omega) (x)) ?_
  refine wp_ifb_eq d238_5 (tgt := 15) (by decide) (fun hq9 => absurd hx hq9) (fun _ => ?_)
  refine wp_iload_n d238_8 rfl ?_
  refine wp_invsT (e := 97) (j2 := 233) (n := 1) d238_9 (by decide +kernel) (by decide +kernel) rfl rfl rfl (Nat.le_of_ble_eq_true rfl) (Nat.le_of_ble_eq_true rfl) rfl rfl (Nat.le_of_ble_eq_true rfl) (by decide +kernel) (c_isKey (y)) ?_
  refine wp_ifb_ne d238_12 (tgt := 17) (by decide) (fun hq9 => absurd hq9 hy) (fun _ => ?_)
  refine wp_iconst d238_15 (v := (-1 : Int32)) (by decide) ?_
  refine wp_iret d238_16 (by decide +kernel) ?_
  exact ⟨rfl, rfl⟩
theorem r_takeKey_2a {X : mX} {h : mH} {R : Nat → Nat → Int32} {σ : Nat → Int32} (hR : Ms h R σ) {mi nR nD nG nW nA n : Nat} (hC : Cn σ mi nR nD nG nW nA) (hn : R 0 5 = nI n) (hn4 : n ≤ 4) {g k : Nat} (hg : g < nG) (hk : k < 8) (ha : ¬ σ (192 + 10 * g + 0) = 0) : Tells X 231 [.ref 313, .int (nI g), .int (nI k)] h (-4) := by
  obtain ⟨⟨h0, hmi⟩, ⟨h2, hR1, hR12⟩, ⟨h3, hD⟩, ⟨h4, hG⟩, ⟨h5, hW⟩, ⟨h6, hA⟩⟩ := hC
  refine wp_aload_n d231_0 rfl ?_
  refine wp_iload_n d231_1 rfl ?_
  refine wp_invvT (e := 94) (j2 := 232) (n := 1) d231_2 (by decide +kernel) (by decide +kernel) rfl rfl rfl (md_0 hR) (by decide +kernel) (Nat.le_of_ble_eq_true rfl) rfl rfl (Nat.le_of_ble_eq_true rfl) (by decide +kernel) (c_isGuard hR (n := nG) h4 (by omega) (nI g)) ?_
  refine wp_ifb_eq d231_5 (tgt := 15) (by decide) (fun hq9 => absurd (⟨nI_le (by omega) (by omega), nI_lt (by omega) (by omega)⟩ : nI 0 ≤ nI g ∧ nI g < nI nG) hq9) (fun _ => ?_)
  refine wp_iload_n d231_8 rfl ?_
  refine wp_invsT (e := 97) (j2 := 233) (n := 1) d231_9 (by decide +kernel) (by decide +kernel) rfl rfl rfl (Nat.le_of_ble_eq_true rfl) (Nat.le_of_ble_eq_true rfl) rfl rfl (Nat.le_of_ble_eq_true rfl) (by decide +kernel) (c_isKey (nI k)) ?_
  refine wp_ifb_ne d231_12 (tgt := 17) (by decide) (fun _ => ?_) (fun hq9 => absurd (⟨nI_le (by omega) (by omega), nI_le (by omega) (by omega)⟩ : nI 0 ≤ nI k ∧ nI k ≤ nI 7) hq9)
  refine wp_aload_n d231_17 rfl ?_
  refine wp_iload_n d231_18 rfl ?_
  refine wp_iconst d231_19 (v := nI 0) (by decide) ?_
  refine wp_invvT (e := 81) (j2 := 227) (n := 2) d231_20 (by decide +kernel) (by decide +kernel) rfl rfl rfl (md_0 hR) (by decide +kernel) (Nat.le_of_ble_eq_true rfl) rfl rfl (Nat.le_of_ble_eq_true rfl) (by decide +kernel) (c_guardPart hR (r := g) (p := 0) (by omega) (by omega)) ?_
  refine wp_if_ne d231_23 (tgt := 36) (by decide) (fun _ => ?_) (fun hq9 => absurd hq9 ha)
  refine wp_bipush d231_36 (v := (-4 : Int32)) (by decide) ?_
  refine wp_iret d231_38 (by decide +kernel) ?_
  exact ⟨rfl, rfl⟩
theorem r_takeKey_2b {X : mX} {h : mH} {R : Nat → Nat → Int32} {σ : Nat → Int32} (hR : Ms h R σ) {mi nR nD nG nW nA n : Nat} (hC : Cn σ mi nR nD nG nW nA) (hn : R 0 5 = nI n) (hn4 : n ≤ 4) {g k : Nat} (hg : g < nG) (hk : k < 8) (ha : σ (192 + 10 * g + 0) = 0) (hh : ¬ F_ho σ (nI k) nG = -5) : Tells X 231 [.ref 313, .int (nI g), .int (nI k)] h (-4) := by
  obtain ⟨⟨h0, hmi⟩, ⟨h2, hR1, hR12⟩, ⟨h3, hD⟩, ⟨h4, hG⟩, ⟨h5, hW⟩, ⟨h6, hA⟩⟩ := hC
  refine wp_aload_n d231_0 rfl ?_
  refine wp_iload_n d231_1 rfl ?_
  refine wp_invvT (e := 94) (j2 := 232) (n := 1) d231_2 (by decide +kernel) (by decide +kernel) rfl rfl rfl (md_0 hR) (by decide +kernel) (Nat.le_of_ble_eq_true rfl) rfl rfl (Nat.le_of_ble_eq_true rfl) (by decide +kernel) (c_isGuard hR (n := nG) h4 (by omega) (nI g)) ?_
  refine wp_ifb_eq d231_5 (tgt := 15) (by decide) (fun hq9 => absurd (⟨nI_le (by omega) (by omega), nI_lt (by omega) (by omega)⟩ : nI 0 ≤ nI g ∧ nI g < nI nG) hq9) (fun _ => ?_)
  refine wp_iload_n d231_8 rfl ?_
  refine wp_invsT (e := 97) (j2 := 233) (n := 1) d231_9 (by decide +kernel) (by decide +kernel) rfl rfl rfl (Nat.le_of_ble_eq_true rfl) (Nat.le_of_ble_eq_true rfl) rfl rfl (Nat.le_of_ble_eq_true rfl) (by decide +kernel) (c_isKey (nI k)) ?_
  refine wp_ifb_ne d231_12 (tgt := 17) (by decide) (fun _ => ?_) (fun hq9 => absurd (⟨nI_le (by omega) (by omega), nI_le (by omega) (by omega)⟩ : nI 0 ≤ nI k ∧ nI k ≤ nI 7) hq9)
  refine wp_aload_n d231_17 rfl ?_
  refine wp_iload_n d231_18 rfl ?_
  refine wp_iconst d231_19 (v := nI 0) (by decide) ?_
  refine wp_invvT (e := 81) (j2 := 227) (n := 2) d231_20 (by decide +kernel) (by decide +kernel) rfl rfl rfl (md_0 hR) (by decide +kernel) (Nat.le_of_ble_eq_true rfl) rfl rfl (Nat.le_of_ble_eq_true rfl) (by decide +kernel) (c_guardPart hR (r := g) (p := 0) (by omega) (by omega)) ?_
  refine wp_if_ne d231_23 (tgt := 36) (by decide) (fun hq9 => absurd ha hq9) (fun _ => ?_)
  refine wp_aload_n d231_26 rfl ?_
  refine wp_iload_n d231_27 rfl ?_
  refine wp_invvT (e := 100) (j2 := 234) (n := 1) d231_28 (by decide +kernel) (by decide +kernel) rfl rfl rfl (md_0 hR) (by decide +kernel) (Nat.le_of_ble_eq_true rfl) rfl rfl (Nat.le_of_ble_eq_true rfl) (by decide +kernel) (c_holderOf hR h4 hG (nI k)) ?_
  refine wp_bipush d231_31 (v := (-5 : Int32)) (by decide) ?_
  refine wp_icmp_eq d231_33 (tgt := 39) (by decide) (fun hq9 => absurd hq9 hh) (fun _ => ?_)
  refine wp_bipush d231_36 (v := (-4 : Int32)) (by decide) ?_
  refine wp_iret d231_38 (by decide +kernel) ?_
  exact ⟨rfl, rfl⟩
theorem r_takeKey_3 {X : mX} {h : mH} {R : Nat → Nat → Int32} {σ : Nat → Int32} (hR : Ms h R σ) {mi nR nD nG nW nA n : Nat} (hC : Cn σ mi nR nD nG nW nA) (hn : R 0 5 = nI n) (hn4 : n ≤ 4) {g k : Nat} (hg : g < nG) (hk : k < 8) (ha : σ (192 + 10 * g + 0) = 0) (hh : F_ho σ (nI k) nG = -5) (hb : F_bits (σ (192 + 10 * g + 6)) 16 = nI 3) : Tells X 231 [.ref 313, .int (nI g), .int (nI k)] h (-3) := by
  obtain ⟨⟨h0, hmi⟩, ⟨h2, hR1, hR12⟩, ⟨h3, hD⟩, ⟨h4, hG⟩, ⟨h5, hW⟩, ⟨h6, hA⟩⟩ := hC
  refine wp_aload_n d231_0 rfl ?_
  refine wp_iload_n d231_1 rfl ?_
  refine wp_invvT (e := 94) (j2 := 232) (n := 1) d231_2 (by decide +kernel) (by decide +kernel) rfl rfl rfl (md_0 hR) (by decide +kernel) (Nat.le_of_ble_eq_true rfl) rfl rfl (Nat.le_of_ble_eq_true rfl) (by decide +kernel) (c_isGuard hR (n := nG) h4 (by omega) (nI g)) ?_
  refine wp_ifb_eq d231_5 (tgt := 15) (by decide) (fun hq9 => absurd (⟨nI_le (by omega) (by omega), nI_lt (by omega) (by omega)⟩ : nI 0 ≤ nI g ∧ nI g < nI nG) hq9) (fun _ => ?_)
  refine wp_iload_n d231_8 rfl ?_
  refine wp_invsT (e := 97) (j2 := 233) (n := 1) d231_9 (by decide +kernel) (by decide +kernel) rfl rfl rfl (Nat.le_of_ble_eq_true rfl) (Nat.le_of_ble_eq_true rfl) rfl rfl (Nat.le_of_ble_eq_true rfl) (by decide +kernel) (c_isKey (nI k)) ?_
  refine wp_ifb_ne d231_12 (tgt := 17) (by decide) (fun _ => ?_) (fun hq9 => absurd (⟨nI_le (by omega) (by omega), nI_le (by omega) (by omega)⟩ : nI 0 ≤ nI k ∧ nI k ≤ nI 7) hq9)
  refine wp_aload_n d231_17 rfl ?_
  refine wp_iload_n d231_18 rfl ?_
  refine wp_iconst d231_19 (v := nI 0) (by decide) ?_
  refine wp_invvT (e := 81) (j2 := 227) (n := 2) d231_20 (by decide +kernel) (by decide +kernel) rfl rfl rfl (md_0 hR) (by decide +kernel) (Nat.le_of_ble_eq_true rfl) rfl rfl (Nat.le_of_ble_eq_true rfl) (by decide +kernel) (c_guardPart hR (r := g) (p := 0) (by omega) (by omega)) ?_
  refine wp_if_ne d231_23 (tgt := 36) (by decide) (fun hq9 => absurd ha hq9) (fun _ => ?_)
  refine wp_aload_n d231_26 rfl ?_
  refine wp_iload_n d231_27 rfl ?_
  refine wp_invvT (e := 100) (j2 := 234) (n := 1) d231_28 (by decide +kernel) (by decide +kernel) rfl rfl rfl (md_0 hR) (by decide +kernel) (Nat.le_of_ble_eq_true rfl) rfl rfl (Nat.le_of_ble_eq_true rfl) (by decide +kernel) (c_holderOf hR h4 hG (nI k)) ?_
  refine wp_bipush d231_31 (v := (-5 : Int32)) (by decide) ?_
  refine wp_icmp_eq d231_33 (tgt := 39) (by decide) (fun _ => ?_) (fun hq9 => absurd hh hq9)
  refine wp_aload_n d231_39 rfl ?_
  refine wp_iload_n d231_40 rfl ?_
  refine wp_invvT (e := 103) (j2 := 236) (n := 1) d231_41 (by decide +kernel) (by decide +kernel) rfl rfl rfl (md_0 hR) (by decide +kernel) (Nat.le_of_ble_eq_true rfl) rfl rfl (Nat.le_of_ble_eq_true rfl) (by decide +kernel) (tells_eq (c_keysOf hR (g := g) (by omega)) (congrArg (fun z => F_bits z 16) rfl)) ?_
  refine wp_iconst d231_44 (v := nI 3) (by decide) ?_
  refine wp_icmp_ne d231_45 (tgt := 51) (by decide) (fun hq9 => absurd hb hq9) (fun _ => ?_)
  refine wp_bipush d231_48 (v := (-3 : Int32)) (by decide) ?_
  refine wp_iret d231_50 (by decide +kernel) ?_
  exact ⟨rfl, rfl⟩

theorem r_takeKey {X : mX} {h : mH} {R : Nat → Nat → Int32} {σ : Nat → Int32} (hR : Ms h R σ) {mi nR nD nG nW nA n : Nat} (hC : Cn σ mi nR nD nG nW nA) (hn : R 0 5 = nI n) (hn4 : n ≤ 4) {g k : Nat} (hg : g < nG) (hk : k < 8) (ha : σ (192 + 10 * g + 0) = 0) (hh : F_ho σ (nI k) nG = -5) (hb : ¬ F_bits (σ (192 + 10 * g + 6)) 16 = nI 3) : Does X 231 [.ref 313, .int (nI g), .int (nI k)] h (F_rec R σ n) (G_turn σ g (nI k)) (some (.int (F_bits (σ (192 + 10 * g + 6) ^^^ (nI 1 <<< (nI k &&& 31))) 16))) := by
  obtain ⟨⟨h0, hmi⟩, ⟨h2, hR1, hR12⟩, ⟨h3, hD⟩, ⟨h4, hG⟩, ⟨h5, hW⟩, ⟨h6, hA⟩⟩ := hC
  have hF : Frm h h 313 8 := Frm.rf
  refine wp_aload_n d231_0 rfl ?_
  refine wp_iload_n d231_1 rfl ?_
  refine wp_invvT (e := 94) (j2 := 232) (n := 1) d231_2 (by decide +kernel) (by decide +kernel) rfl rfl rfl (md_0 hR) (by decide +kernel) (Nat.le_of_ble_eq_true rfl) rfl rfl (Nat.le_of_ble_eq_true rfl) (by decide +kernel) (c_isGuard hR (n := nG) h4 (by omega) (nI g)) ?_
  refine wp_ifb_eq d231_5 (tgt := 15) (by decide) (fun hq9 => absurd (⟨nI_le (by omega) (by omega), nI_lt (by omega) (by omega)⟩ : nI 0 ≤ nI g ∧ nI g < nI nG) hq9) (fun _ => ?_)
  refine wp_iload_n d231_8 rfl ?_
  refine wp_invsT (e := 97) (j2 := 233) (n := 1) d231_9 (by decide +kernel) (by decide +kernel) rfl rfl rfl (Nat.le_of_ble_eq_true rfl) (Nat.le_of_ble_eq_true rfl) rfl rfl (Nat.le_of_ble_eq_true rfl) (by decide +kernel) (c_isKey (nI k)) ?_
  refine wp_ifb_ne d231_12 (tgt := 17) (by decide) (fun _ => ?_) (fun hq9 => absurd (⟨nI_le (by omega) (by omega), nI_le (by omega) (by omega)⟩ : nI 0 ≤ nI k ∧ nI k ≤ nI 7) hq9)
  refine wp_aload_n d231_17 rfl ?_
  refine wp_iload_n d231_18 rfl ?_
  refine wp_iconst d231_19 (v := nI 0) (by decide) ?_
  refine wp_invvT (e := 81) (j2 := 227) (n := 2) d231_20 (by decide +kernel) (by decide +kernel) rfl rfl rfl (md_0 hR) (by decide +kernel) (Nat.le_of_ble_eq_true rfl) rfl rfl (Nat.le_of_ble_eq_true rfl) (by decide +kernel) (c_guardPart hR (r := g) (p := 0) (by omega) (by omega)) ?_
  refine wp_if_ne d231_23 (tgt := 36) (by decide) (fun hq9 => absurd ha hq9) (fun _ => ?_)
  refine wp_aload_n d231_26 rfl ?_
  refine wp_iload_n d231_27 rfl ?_
  refine wp_invvT (e := 100) (j2 := 234) (n := 1) d231_28 (by decide +kernel) (by decide +kernel) rfl rfl rfl (md_0 hR) (by decide +kernel) (Nat.le_of_ble_eq_true rfl) rfl rfl (Nat.le_of_ble_eq_true rfl) (by decide +kernel) (c_holderOf hR h4 hG (nI k)) ?_
  refine wp_bipush d231_31 (v := (-5 : Int32)) (by decide) ?_
  refine wp_icmp_eq d231_33 (tgt := 39) (by decide) (fun _ => ?_) (fun hq9 => absurd hh hq9)
  refine wp_aload_n d231_39 rfl ?_
  refine wp_iload_n d231_40 rfl ?_
  refine wp_invvT (e := 103) (j2 := 236) (n := 1) d231_41 (by decide +kernel) (by decide +kernel) rfl rfl rfl (md_0 hR) (by decide +kernel) (Nat.le_of_ble_eq_true rfl) rfl rfl (Nat.le_of_ble_eq_true rfl) (by decide +kernel) (tells_eq (c_keysOf hR (g := g) (by omega)) (congrArg (fun z => F_bits z 16) rfl)) ?_
  refine wp_iconst d231_44 (v := nI 3) (by decide) ?_
  refine wp_icmp_ne d231_45 (tgt := 51) (by decide) (fun _ => ?_) (fun hq9 => absurd hq9 hb)
  refine wp_aload_n d231_51 rfl ?_
  refine wp_invvD (e := 50) (j2 := 212) (n := 0) d231_52 (by decide +kernel) (by decide +kernel) rfl rfl rfl (md_0 hR) (by decide +kernel) (Nat.le_of_ble_eq_true rfl) rfl rfl (Nat.le_of_ble_eq_true rfl) (by decide +kernel) (c_record hR hn hn4) hF ?_
  intro h hR hF
  refine wp_aload_n d231_55 rfl ?_
  refine wp_iload_n d231_56 rfl ?_
  refine wp_iload_n d231_57 rfl ?_
  refine wp_invvD (e := 106) (j2 := 237) (n := 2) d231_58 (by decide +kernel) (by decide +kernel) rfl rfl rfl (md_0 hR) (by decide +kernel) (Nat.le_of_ble_eq_true rfl) rfl rfl (Nat.le_of_ble_eq_true rfl) (by decide +kernel) (c_turnKey hR (g := g) (by omega) (nI k)) hF ?_
  intro h hR hF
  refine wp_aload_n d231_61 rfl ?_
  refine wp_iload_n d231_62 rfl ?_
  refine wp_invvT (e := 103) (j2 := 236) (n := 1) d231_63 (by decide +kernel) (by decide +kernel) rfl rfl rfl (md_0 hR) (by decide +kernel) (Nat.le_of_ble_eq_true rfl) rfl rfl (Nat.le_of_ble_eq_true rfl) (by decide +kernel) (tells_eq (c_keysOf hR (g := g) (by omega)) (congrArg (fun z => F_bits z 16) upd_eq)) ?_
  refine wp_iret d231_66 (by decide +kernel) ?_
  exact ⟨rfl, hR, hF⟩
theorem r_bringKey_2a {X : mX} {h : mH} {R : Nat → Nat → Int32} {σ : Nat → Int32} (hR : Ms h R σ) {mi nR nD nG nW nA n : Nat} (hC : Cn σ mi nR nD nG nW nA) (hn : R 0 5 = nI n) (hn4 : n ≤ 4) {g k : Nat} (hg : g < nG) (hk : k < 8) (ha : ¬ σ (192 + 10 * g + 0) = 0) : Tells X 238 [.ref 313, .int (nI g), .int (nI k)] h (-4) := by
  obtain ⟨⟨h0, hmi⟩, ⟨h2, hR1, hR12⟩, ⟨h3, hD⟩, ⟨h4, hG⟩, ⟨h5, hW⟩, ⟨h6, hA⟩⟩ := hC
  refine wp_aload_n d238_0 rfl ?_
  refine wp_iload_n d238_1 rfl ?_
  refine wp_invvT (e := 94) (j2 := 232) (n := 1) d238_2 (by decide +kernel) (by decide +kernel) rfl rfl rfl (md_0 hR) (by decide +kernel) (Nat.le_of_ble_eq_true rfl) rfl rfl (Nat.le_of_ble_eq_true rfl) (by decide +kernel) (c_isGuard hR (n := nG) h4 (by omega) (nI g)) ?_
  refine wp_ifb_eq d238_5 (tgt := 15) (by decide) (fun hq9 => absurd (⟨nI_le (by omega) (by omega), nI_lt (by omega) (by omega)⟩ : nI 0 ≤ nI g ∧ nI g < nI nG) hq9) (fun _ => ?_)
  refine wp_iload_n d238_8 rfl ?_
  refine wp_invsT (e := 97) (j2 := 233) (n := 1) d238_9 (by decide +kernel) (by decide +kernel) rfl rfl rfl (Nat.le_of_ble_eq_true rfl) (Nat.le_of_ble_eq_true rfl) rfl rfl (Nat.le_of_ble_eq_true rfl) (by decide +kernel) (c_isKey (nI k)) ?_
  refine wp_ifb_ne d238_12 (tgt := 17) (by decide) (fun _ => ?_) (fun hq9 => absurd (⟨nI_le (by omega) (by omega), nI_le (by omega) (by omega)⟩ : nI 0 ≤ nI k ∧ nI k ≤ nI 7) hq9)
  refine wp_aload_n d238_17 rfl ?_
  refine wp_iload_n d238_18 rfl ?_
  refine wp_iconst d238_19 (v := nI 0) (by decide) ?_
  refine wp_invvT (e := 81) (j2 := 227) (n := 2) d238_20 (by decide +kernel) (by decide +kernel) rfl rfl rfl (md_0 hR) (by decide +kernel) (Nat.le_of_ble_eq_true rfl) rfl rfl (Nat.le_of_ble_eq_true rfl) (by decide +kernel) (c_guardPart hR (r := g) (p := 0) (by omega) (by omega)) ?_
  refine wp_if_ne d238_23 (tgt := 35) (by decide) (fun _ => ?_) (fun hq9 => absurd hq9 ha)
  refine wp_bipush d238_35 (v := (-4 : Int32)) (by decide) ?_
  refine wp_iret d238_37 (by decide +kernel) ?_
  exact ⟨rfl, rfl⟩
theorem r_bringKey_2b {X : mX} {h : mH} {R : Nat → Nat → Int32} {σ : Nat → Int32} (hR : Ms h R σ) {mi nR nD nG nW nA n : Nat} (hC : Cn σ mi nR nD nG nW nA) (hn : R 0 5 = nI n) (hn4 : n ≤ 4) {g k : Nat} (hg : g < nG) (hk : k < 8) (ha : σ (192 + 10 * g + 0) = 0) (hh : ¬ F_bit (σ (192 + 10 * g + 6)) (nI k)) : Tells X 238 [.ref 313, .int (nI g), .int (nI k)] h (-4) := by
  obtain ⟨⟨h0, hmi⟩, ⟨h2, hR1, hR12⟩, ⟨h3, hD⟩, ⟨h4, hG⟩, ⟨h5, hW⟩, ⟨h6, hA⟩⟩ := hC
  refine wp_aload_n d238_0 rfl ?_
  refine wp_iload_n d238_1 rfl ?_
  refine wp_invvT (e := 94) (j2 := 232) (n := 1) d238_2 (by decide +kernel) (by decide +kernel) rfl rfl rfl (md_0 hR) (by decide +kernel) (Nat.le_of_ble_eq_true rfl) rfl rfl (Nat.le_of_ble_eq_true rfl) (by decide +kernel) (c_isGuard hR (n := nG) h4 (by omega) (nI g)) ?_
  refine wp_ifb_eq d238_5 (tgt := 15) (by decide) (fun hq9 => absurd (⟨nI_le (by omega) (by omega), nI_lt (by omega) (by omega)⟩ : nI 0 ≤ nI g ∧ nI g < nI nG) hq9) (fun _ => ?_)
  refine wp_iload_n d238_8 rfl ?_
  refine wp_invsT (e := 97) (j2 := 233) (n := 1) d238_9 (by decide +kernel) (by decide +kernel) rfl rfl rfl (Nat.le_of_ble_eq_true rfl) (Nat.le_of_ble_eq_true rfl) rfl rfl (Nat.le_of_ble_eq_true rfl) (by decide +kernel) (c_isKey (nI k)) ?_
  refine wp_ifb_ne d238_12 (tgt := 17) (by decide) (fun _ => ?_) (fun hq9 => absurd (⟨nI_le (by omega) (by omega), nI_le (by omega) (by omega)⟩ : nI 0 ≤ nI k ∧ nI k ≤ nI 7) hq9)
  refine wp_aload_n d238_17 rfl ?_
  refine wp_iload_n d238_18 rfl ?_
  refine wp_iconst d238_19 (v := nI 0) (by decide) ?_
  refine wp_invvT (e := 81) (j2 := 227) (n := 2) d238_20 (by decide +kernel) (by decide +kernel) rfl rfl rfl (md_0 hR) (by decide +kernel) (Nat.le_of_ble_eq_true rfl) rfl rfl (Nat.le_of_ble_eq_true rfl) (by decide +kernel) (c_guardPart hR (r := g) (p := 0) (by omega) (by omega)) ?_
  refine wp_if_ne d238_23 (tgt := 35) (by decide) (fun hq9 => absurd ha hq9) (fun _ => ?_)
  refine wp_aload_n d238_26 rfl ?_
  refine wp_iload_n d238_27 rfl ?_
  refine wp_iload_n d238_28 rfl ?_
  refine wp_invvT (e := 91) (j2 := 235) (n := 2) d238_29 (by decide +kernel) (by decide +kernel) rfl rfl rfl (md_0 hR) (by decide +kernel) (Nat.le_of_ble_eq_true rfl) rfl rfl (Nat.le_of_ble_eq_true rfl) (by decide +kernel) (c_hasKey hR (g := g) (by omega) (nI k)) ?_
  refine wp_ifb_ne d238_32 (tgt := 38) (by decide) (fun hq9 => absurd hq9 hh) (fun _ => ?_)
  refine wp_bipush d238_35 (v := (-4 : Int32)) (by decide) ?_
  refine wp_iret d238_37 (by decide +kernel) ?_
  exact ⟨rfl, rfl⟩
theorem r_bringKey {X : mX} {h : mH} {R : Nat → Nat → Int32} {σ : Nat → Int32} (hR : Ms h R σ) {mi nR nD nG nW nA n : Nat} (hC : Cn σ mi nR nD nG nW nA) (hn : R 0 5 = nI n) (hn4 : n ≤ 4) {g k : Nat} (hg : g < nG) (hk : k < 8) (ha : σ (192 + 10 * g + 0) = 0) (hh : F_bit (σ (192 + 10 * g + 6)) (nI k)) : Does X 238 [.ref 313, .int (nI g), .int (nI k)] h (F_rec R σ n) (G_turn σ g (nI k)) (some (.int (F_bits (σ (192 + 10 * g + 6) ^^^ (nI 1 <<< (nI k &&& 31))) 16))) := by
  obtain ⟨⟨h0, hmi⟩, ⟨h2, hR1, hR12⟩, ⟨h3, hD⟩, ⟨h4, hG⟩, ⟨h5, hW⟩, ⟨h6, hA⟩⟩ := hC
  have hF : Frm h h 313 8 := Frm.rf
  refine wp_aload_n d238_0 rfl ?_
  refine wp_iload_n d238_1 rfl ?_
  refine wp_invvT (e := 94) (j2 := 232) (n := 1) d238_2 (by decide +kernel) (by decide +kernel) rfl rfl rfl (md_0 hR) (by decide +kernel) (Nat.le_of_ble_eq_true rfl) rfl rfl (Nat.le_of_ble_eq_true rfl) (by decide +kernel) (c_isGuard hR (n := nG) h4 (by omega) (nI g)) ?_
  refine wp_ifb_eq d238_5 (tgt := 15) (by decide) (fun hq9 => absurd (⟨nI_le (by omega) (by omega), nI_lt (by omega) (by omega)⟩ : nI 0 ≤ nI g ∧ nI g < nI nG) hq9) (fun _ => ?_)
  refine wp_iload_n d238_8 rfl ?_
  refine wp_invsT (e := 97) (j2 := 233) (n := 1) d238_9 (by decide +kernel) (by decide +kernel) rfl rfl rfl (Nat.le_of_ble_eq_true rfl) (Nat.le_of_ble_eq_true rfl) rfl rfl (Nat.le_of_ble_eq_true rfl) (by decide +kernel) (c_isKey (nI k)) ?_
  refine wp_ifb_ne d238_12 (tgt := 17) (by decide) (fun _ => ?_) (fun hq9 => absurd (⟨nI_le (by omega) (by omega), nI_le (by omega) (by omega)⟩ : nI 0 ≤ nI k ∧ nI k ≤ nI 7) hq9)
  refine wp_aload_n d238_17 rfl ?_
  refine wp_iload_n d238_18 rfl ?_
  refine wp_iconst d238_19 (v := nI 0) (by decide) ?_
  refine wp_invvT (e := 81) (j2 := 227) (n := 2) d238_20 (by decide +kernel) (by decide +kernel) rfl rfl rfl (md_0 hR) (by decide +kernel) (Nat.le_of_ble_eq_true rfl) rfl rfl (Nat.le_of_ble_eq_true rfl) (by decide +kernel) (c_guardPart hR (r := g) (p := 0) (by omega) (by omega)) ?_
  refine wp_if_ne d238_23 (tgt := 35) (by decide) (fun hq9 => absurd ha hq9) (fun _ => ?_)
  refine wp_aload_n d238_26 rfl ?_
  refine wp_iload_n d238_27 rfl ?_
  refine wp_iload_n d238_28 rfl ?_
  refine wp_invvT (e := 91) (j2 := 235) (n := 2) d238_29 (by decide +kernel) (by decide +kernel) rfl rfl rfl (md_0 hR) (by decide +kernel) (Nat.le_of_ble_eq_true rfl) rfl rfl (Nat.le_of_ble_eq_true rfl) (by decide +kernel) (c_hasKey hR (g := g) (by omega) (nI k)) ?_
  refine wp_ifb_ne d238_32 (tgt := 38) (by decide) (fun _ => ?_) (fun hq9 => absurd hh hq9)
  refine wp_aload_n d238_38 rfl ?_
  refine wp_invvD (e := 50) (j2 := 212) (n := 0) d238_39 (by decide +kernel) (by decide +kernel) rfl rfl rfl (md_0 hR) (by decide +kernel) (Nat.le_of_ble_eq_true rfl) rfl rfl (Nat.le_of_ble_eq_true rfl) (by decide +kernel) (c_record hR hn hn4) hF ?_
  intro h hR hF
  refine wp_aload_n d238_42 rfl ?_
  refine wp_iload_n d238_43 rfl ?_
  refine wp_iload_n d238_44 rfl ?_
  refine wp_invvD (e := 106) (j2 := 237) (n := 2) d238_45 (by decide +kernel) (by decide +kernel) rfl rfl rfl (md_0 hR) (by decide +kernel) (Nat.le_of_ble_eq_true rfl) rfl rfl (Nat.le_of_ble_eq_true rfl) (by decide +kernel) (c_turnKey hR (g := g) (by omega) (nI k)) hF ?_
  intro h hR hF
  refine wp_aload_n d238_48 rfl ?_
  refine wp_iload_n d238_49 rfl ?_
  refine wp_invvT (e := 103) (j2 := 236) (n := 1) d238_50 (by decide +kernel) (by decide +kernel) rfl rfl rfl (md_0 hR) (by decide +kernel) (Nat.le_of_ble_eq_true rfl) rfl rfl (Nat.le_of_ble_eq_true rfl) (by decide +kernel) (tells_eq (c_keysOf hR (g := g) (by omega)) (congrArg (fun z => F_bits z 16) upd_eq)) ?_
  refine wp_iret d238_53 (by decide +kernel) ?_
  exact ⟨rfl, hR, hF⟩
end
section
/-! The reference's acts: orders, works, alarms. -/
theorem d239_0 : decode (m_code 239) 0 = .ok (.aload_n 0, 1) := by decide +kernel
theorem d239_1 : decode (m_code 239) 1 = .ok (.iload_n 1, 1) := by decide +kernel
theorem d239_2 : decode (m_code 239) 2 = .ok (.invokevirtual 94, 3) := by decide +kernel
theorem d239_5 : decode (m_code 239) 5 = .ok (.ifCond .eq 18, 3) := by decide +kernel
theorem d239_8 : decode (m_code 239) 8 = .ok (.aload_n 0, 1) := by decide +kernel
theorem d239_9 : decode (m_code 239) 9 = .ok (.iload_n 2, 1) := by decide +kernel
theorem d239_10 : decode (m_code 239) 10 = .ok (.invokevirtual 94, 3) := by decide +kernel
theorem d239_13 : decode (m_code 239) 13 = .ok (.ifCond .eq 10, 3) := by decide +kernel
theorem d239_16 : decode (m_code 239) 16 = .ok (.iload_n 3, 1) := by decide +kernel
theorem d239_17 : decode (m_code 239) 17 = .ok (.invokestatic 97, 3) := by decide +kernel
theorem d239_20 : decode (m_code 239) 20 = .ok (.ifCond .ne 5, 3) := by decide +kernel
theorem d239_23 : decode (m_code 239) 23 = .ok (.iconst (-1), 1) := by decide +kernel
theorem d239_24 : decode (m_code 239) 24 = .ok (.ireturn, 1) := by decide +kernel
theorem d239_25 : decode (m_code 239) 25 = .ok (.iload_n 1, 1) := by decide +kernel
theorem d239_26 : decode (m_code 239) 26 = .ok (.iload_n 2, 1) := by decide +kernel
theorem d239_27 : decode (m_code 239) 27 = .ok (.if_icmp .ne 6, 3) := by decide +kernel
theorem d239_30 : decode (m_code 239) 30 = .ok (.bipush (-2), 2) := by decide +kernel
theorem d239_32 : decode (m_code 239) 32 = .ok (.ireturn, 1) := by decide +kernel
theorem d239_33 : decode (m_code 239) 33 = .ok (.aload_n 0, 1) := by decide +kernel
theorem d239_34 : decode (m_code 239) 34 = .ok (.iload_n 1, 1) := by decide +kernel
theorem d239_35 : decode (m_code 239) 35 = .ok (.iconst 0, 1) := by decide +kernel
theorem d239_36 : decode (m_code 239) 36 = .ok (.invokevirtual 81, 3) := by decide +kernel
theorem d239_39 : decode (m_code 239) 39 = .ok (.ifCond .lt 27, 3) := by decide +kernel
theorem d239_42 : decode (m_code 239) 42 = .ok (.aload_n 0, 1) := by decide +kernel
theorem d239_43 : decode (m_code 239) 43 = .ok (.iload_n 1, 1) := by decide +kernel
theorem d239_44 : decode (m_code 239) 44 = .ok (.iconst 0, 1) := by decide +kernel
theorem d239_45 : decode (m_code 239) 45 = .ok (.invokevirtual 81, 3) := by decide +kernel
theorem d239_48 : decode (m_code 239) 48 = .ok (.aload_n 0, 1) := by decide +kernel
theorem d239_49 : decode (m_code 239) 49 = .ok (.iload_n 2, 1) := by decide +kernel
theorem d239_50 : decode (m_code 239) 50 = .ok (.iconst 0, 1) := by decide +kernel
theorem d239_51 : decode (m_code 239) 51 = .ok (.invokevirtual 81, 3) := by decide +kernel
theorem d239_54 : decode (m_code 239) 54 = .ok (.if_icmp .ne 12, 3) := by decide +kernel
theorem d239_57 : decode (m_code 239) 57 = .ok (.aload_n 0, 1) := by decide +kernel
theorem d239_58 : decode (m_code 239) 58 = .ok (.iload_n 1, 1) := by decide +kernel
theorem d239_59 : decode (m_code 239) 59 = .ok (.iload_n 3, 1) := by decide +kernel
theorem d239_60 : decode (m_code 239) 60 = .ok (.invokevirtual 91, 3) := by decide +kernel
theorem d239_63 : decode (m_code 239) 63 = .ok (.ifCond .ne 6, 3) := by decide +kernel
theorem d239_66 : decode (m_code 239) 66 = .ok (.bipush (-4), 2) := by decide +kernel
theorem d239_68 : decode (m_code 239) 68 = .ok (.ireturn, 1) := by decide +kernel
theorem d239_69 : decode (m_code 239) 69 = .ok (.aload_n 0, 1) := by decide +kernel
theorem d239_70 : decode (m_code 239) 70 = .ok (.iload_n 2, 1) := by decide +kernel
theorem d239_71 : decode (m_code 239) 71 = .ok (.invokevirtual 103, 3) := by decide +kernel
theorem d239_74 : decode (m_code 239) 74 = .ok (.iconst 3, 1) := by decide +kernel
theorem d239_75 : decode (m_code 239) 75 = .ok (.if_icmp .ne 6, 3) := by decide +kernel
theorem d239_78 : decode (m_code 239) 78 = .ok (.bipush (-3), 2) := by decide +kernel
theorem d239_80 : decode (m_code 239) 80 = .ok (.ireturn, 1) := by decide +kernel
theorem d239_81 : decode (m_code 239) 81 = .ok (.aload_n 0, 1) := by decide +kernel
theorem d239_82 : decode (m_code 239) 82 = .ok (.invokevirtual 50, 3) := by decide +kernel
theorem d239_85 : decode (m_code 239) 85 = .ok (.aload_n 0, 1) := by decide +kernel
theorem d239_86 : decode (m_code 239) 86 = .ok (.iload_n 1, 1) := by decide +kernel
theorem d239_87 : decode (m_code 239) 87 = .ok (.iload_n 3, 1) := by decide +kernel
theorem d239_88 : decode (m_code 239) 88 = .ok (.invokevirtual 106, 3) := by decide +kernel
theorem d239_91 : decode (m_code 239) 91 = .ok (.aload_n 0, 1) := by decide +kernel
theorem d239_92 : decode (m_code 239) 92 = .ok (.iload_n 2, 1) := by decide +kernel
theorem d239_93 : decode (m_code 239) 93 = .ok (.iload_n 3, 1) := by decide +kernel
theorem d239_94 : decode (m_code 239) 94 = .ok (.invokevirtual 106, 3) := by decide +kernel
theorem d239_97 : decode (m_code 239) 97 = .ok (.aload_n 0, 1) := by decide +kernel
theorem d239_98 : decode (m_code 239) 98 = .ok (.iload_n 2, 1) := by decide +kernel
theorem d239_99 : decode (m_code 239) 99 = .ok (.invokevirtual 103, 3) := by decide +kernel
theorem d239_102 : decode (m_code 239) 102 = .ok (.ireturn, 1) := by decide +kernel
theorem d240_0 : decode (m_code 240) 0 = .ok (.aload_n 0, 1) := by decide +kernel
theorem d240_1 : decode (m_code 240) 1 = .ok (.iload_n 1, 1) := by decide +kernel
theorem d240_2 : decode (m_code 240) 2 = .ok (.invokevirtual 94, 3) := by decide +kernel
theorem d240_5 : decode (m_code 240) 5 = .ok (.ifCond .eq 11, 3) := by decide +kernel
theorem d240_8 : decode (m_code 240) 8 = .ok (.aload_n 0, 1) := by decide +kernel
theorem d240_9 : decode (m_code 240) 9 = .ok (.iload_n 2, 1) := by decide +kernel
theorem d240_10 : decode (m_code 240) 10 = .ok (.invokevirtual 57, 3) := by decide +kernel
theorem d240_13 : decode (m_code 240) 13 = .ok (.ifCond .ne 5, 3) := by decide +kernel
theorem d240_16 : decode (m_code 240) 16 = .ok (.iconst (-1), 1) := by decide +kernel
theorem d240_17 : decode (m_code 240) 17 = .ok (.ireturn, 1) := by decide +kernel
theorem d240_18 : decode (m_code 240) 18 = .ok (.iload_n 3, 1) := by decide +kernel
theorem d240_19 : decode (m_code 240) 19 = .ok (.iconst 0, 1) := by decide +kernel
theorem d240_20 : decode (m_code 240) 20 = .ok (.bipush 99, 2) := by decide +kernel
theorem d240_22 : decode (m_code 240) 22 = .ok (.invokestatic 39, 3) := by decide +kernel
theorem d240_25 : decode (m_code 240) 25 = .ok (.ifCond .ne 6, 3) := by decide +kernel
theorem d240_28 : decode (m_code 240) 28 = .ok (.bipush (-2), 2) := by decide +kernel
theorem d240_30 : decode (m_code 240) 30 = .ok (.ireturn, 1) := by decide +kernel
theorem d240_31 : decode (m_code 240) 31 = .ok (.aload_n 0, 1) := by decide +kernel
theorem d240_32 : decode (m_code 240) 32 = .ok (.iload_n 1, 1) := by decide +kernel
theorem d240_33 : decode (m_code 240) 33 = .ok (.iconst 5, 1) := by decide +kernel
theorem d240_34 : decode (m_code 240) 34 = .ok (.invokevirtual 81, 3) := by decide +kernel
theorem d240_37 : decode (m_code 240) 37 = .ok (.bipush 12, 2) := by decide +kernel
theorem d240_39 : decode (m_code 240) 39 = .ok (.if_icmp .ne 6, 3) := by decide +kernel
theorem d240_42 : decode (m_code 240) 42 = .ok (.bipush (-3), 2) := by decide +kernel
theorem d240_44 : decode (m_code 240) 44 = .ok (.ireturn, 1) := by decide +kernel
theorem d240_45 : decode (m_code 240) 45 = .ok (.aload_n 0, 1) := by decide +kernel
theorem d240_46 : decode (m_code 240) 46 = .ok (.invokevirtual 50, 3) := by decide +kernel
theorem d240_49 : decode (m_code 240) 49 = .ok (.aload_n 0, 1) := by decide +kernel
theorem d240_50 : decode (m_code 240) 50 = .ok (.iload_n 1, 1) := by decide +kernel
theorem d240_51 : decode (m_code 240) 51 = .ok (.iload_n 2, 1) := by decide +kernel
theorem d240_52 : decode (m_code 240) 52 = .ok (.iload_n 3, 1) := by decide +kernel
theorem d240_53 : decode (m_code 240) 53 = .ok (.invokevirtual 110, 3) := by decide +kernel
theorem d240_56 : decode (m_code 240) 56 = .ok (.aload_n 0, 1) := by decide +kernel
theorem d240_57 : decode (m_code 240) 57 = .ok (.iload_n 1, 1) := by decide +kernel
theorem d240_58 : decode (m_code 240) 58 = .ok (.iconst 5, 1) := by decide +kernel
theorem d240_59 : decode (m_code 240) 59 = .ok (.invokevirtual 81, 3) := by decide +kernel
theorem d240_62 : decode (m_code 240) 62 = .ok (.ireturn, 1) := by decide +kernel
theorem d242_0 : decode (m_code 242) 0 = .ok (.aload_n 0, 1) := by decide +kernel
theorem d242_1 : decode (m_code 242) 1 = .ok (.iload_n 1, 1) := by decide +kernel
theorem d242_2 : decode (m_code 242) 2 = .ok (.invokevirtual 94, 3) := by decide +kernel
theorem d242_5 : decode (m_code 242) 5 = .ok (.ifCond .ne 5, 3) := by decide +kernel
theorem d242_8 : decode (m_code 242) 8 = .ok (.iconst (-1), 1) := by decide +kernel
theorem d242_9 : decode (m_code 242) 9 = .ok (.ireturn, 1) := by decide +kernel
theorem d242_10 : decode (m_code 242) 10 = .ok (.aload_n 0, 1) := by decide +kernel
theorem d242_11 : decode (m_code 242) 11 = .ok (.iload_n 1, 1) := by decide +kernel
theorem d242_12 : decode (m_code 242) 12 = .ok (.iconst 5, 1) := by decide +kernel
theorem d242_13 : decode (m_code 242) 13 = .ok (.invokevirtual 81, 3) := by decide +kernel
theorem d242_16 : decode (m_code 242) 16 = .ok (.istore_n 2, 1) := by decide +kernel
theorem d242_17 : decode (m_code 242) 17 = .ok (.iload_n 2, 1) := by decide +kernel
theorem d242_18 : decode (m_code 242) 18 = .ok (.ifCond .ne 15, 3) := by decide +kernel
theorem d242_21 : decode (m_code 242) 21 = .ok (.aload_n 0, 1) := by decide +kernel
theorem d242_22 : decode (m_code 242) 22 = .ok (.iload_n 1, 1) := by decide +kernel
theorem d242_23 : decode (m_code 242) 23 = .ok (.iconst 3, 1) := by decide +kernel
theorem d242_24 : decode (m_code 242) 24 = .ok (.invokevirtual 81, 3) := by decide +kernel
theorem d242_27 : decode (m_code 242) 27 = .ok (.ifCond .ne 6, 3) := by decide +kernel
theorem d242_30 : decode (m_code 242) 30 = .ok (.bipush (-5), 2) := by decide +kernel
theorem d242_32 : decode (m_code 242) 32 = .ok (.ireturn, 1) := by decide +kernel
theorem d242_33 : decode (m_code 242) 33 = .ok (.aload_n 0, 1) := by decide +kernel
theorem d242_34 : decode (m_code 242) 34 = .ok (.invokevirtual 50, 3) := by decide +kernel
theorem d242_37 : decode (m_code 242) 37 = .ok (.aload_n 0, 1) := by decide +kernel
theorem d242_38 : decode (m_code 242) 38 = .ok (.iload_n 1, 1) := by decide +kernel
theorem d242_39 : decode (m_code 242) 39 = .ok (.iconst 5, 1) := by decide +kernel
theorem d242_40 : decode (m_code 242) 40 = .ok (.iconst 0, 1) := by decide +kernel
theorem d242_41 : decode (m_code 242) 41 = .ok (.invokevirtual 87, 3) := by decide +kernel
theorem d242_44 : decode (m_code 242) 44 = .ok (.aload_n 0, 1) := by decide +kernel
theorem d242_45 : decode (m_code 242) 45 = .ok (.iload_n 1, 1) := by decide +kernel
theorem d242_46 : decode (m_code 242) 46 = .ok (.iconst 3, 1) := by decide +kernel
theorem d242_47 : decode (m_code 242) 47 = .ok (.iconst 0, 1) := by decide +kernel
theorem d242_48 : decode (m_code 242) 48 = .ok (.invokevirtual 87, 3) := by decide +kernel
theorem d242_51 : decode (m_code 242) 51 = .ok (.iload_n 2, 1) := by decide +kernel
theorem d242_52 : decode (m_code 242) 52 = .ok (.ireturn, 1) := by decide +kernel
theorem d243_0 : decode (m_code 243) 0 = .ok (.aload_n 0, 1) := by decide +kernel
theorem d243_1 : decode (m_code 243) 1 = .ok (.iload_n 2, 1) := by decide +kernel
theorem d243_2 : decode (m_code 243) 2 = .ok (.invokevirtual 57, 3) := by decide +kernel
theorem d243_5 : decode (m_code 243) 5 = .ok (.ifCond .eq 7, 3) := by decide +kernel
theorem d243_8 : decode (m_code 243) 8 = .ok (.iload_n 2, 1) := by decide +kernel
theorem d243_9 : decode (m_code 243) 9 = .ok (.ifCond .ne 5, 3) := by decide +kernel
theorem d243_12 : decode (m_code 243) 12 = .ok (.iconst (-1), 1) := by decide +kernel
theorem d243_13 : decode (m_code 243) 13 = .ok (.ireturn, 1) := by decide +kernel
theorem d243_14 : decode (m_code 243) 14 = .ok (.iload_n 1, 1) := by decide +kernel
theorem d243_15 : decode (m_code 243) 15 = .ok (.iconst 0, 1) := by decide +kernel
theorem d243_16 : decode (m_code 243) 16 = .ok (.iconst 2, 1) := by decide +kernel
theorem d243_17 : decode (m_code 243) 17 = .ok (.invokestatic 39, 3) := by decide +kernel
theorem d243_20 : decode (m_code 243) 20 = .ok (.ifCond .eq 13, 3) := by decide +kernel
theorem d243_23 : decode (m_code 243) 23 = .ok (.iload_n 3, 1) := by decide +kernel
theorem d243_24 : decode (m_code 243) 24 = .ok (.iconst 0, 1) := by decide +kernel
theorem d243_25 : decode (m_code 243) 25 = .ok (.bipush 99, 2) := by decide +kernel
theorem d243_27 : decode (m_code 243) 27 = .ok (.invokestatic 39, 3) := by decide +kernel
theorem d243_30 : decode (m_code 243) 30 = .ok (.ifCond .ne 6, 3) := by decide +kernel
theorem d243_33 : decode (m_code 243) 33 = .ok (.bipush (-2), 2) := by decide +kernel
theorem d243_35 : decode (m_code 243) 35 = .ok (.ireturn, 1) := by decide +kernel
theorem d243_36 : decode (m_code 243) 36 = .ok (.aload_n 0, 1) := by decide +kernel
theorem d243_37 : decode (m_code 243) 37 = .ok (.getfield 7, 3) := by decide +kernel
theorem d243_40 : decode (m_code 243) 40 = .ok (.iconst 5, 1) := by decide +kernel
theorem d243_41 : decode (m_code 243) 41 = .ok (.iaload, 1) := by decide +kernel
theorem d243_42 : decode (m_code 243) 42 = .ok (.bipush 10, 2) := by decide +kernel
theorem d243_44 : decode (m_code 243) 44 = .ok (.if_icmp .ne 6, 3) := by decide +kernel
theorem d243_47 : decode (m_code 243) 47 = .ok (.bipush (-3), 2) := by decide +kernel
theorem d243_49 : decode (m_code 243) 49 = .ok (.ireturn, 1) := by decide +kernel
theorem d243_50 : decode (m_code 243) 50 = .ok (.aload_n 0, 1) := by decide +kernel
theorem d243_51 : decode (m_code 243) 51 = .ok (.invokevirtual 50, 3) := by decide +kernel
theorem d243_54 : decode (m_code 243) 54 = .ok (.aload_n 0, 1) := by decide +kernel
theorem d243_55 : decode (m_code 243) 55 = .ok (.getfield 7, 3) := by decide +kernel
theorem d243_58 : decode (m_code 243) 58 = .ok (.iconst 5, 1) := by decide +kernel
theorem d243_59 : decode (m_code 243) 59 = .ok (.iaload, 1) := by decide +kernel
theorem d243_60 : decode (m_code 243) 60 = .ok (.istore 4, 2) := by decide +kernel
theorem d243_62 : decode (m_code 243) 62 = .ok (.aload_n 0, 1) := by decide +kernel
theorem d243_63 : decode (m_code 243) 63 = .ok (.getfield 7, 3) := by decide +kernel
theorem d243_66 : decode (m_code 243) 66 = .ok (.sipush 328, 3) := by decide +kernel
theorem d243_69 : decode (m_code 243) 69 = .ok (.iconst 5, 1) := by decide +kernel
theorem d243_70 : decode (m_code 243) 70 = .ok (.iload 4, 2) := by decide +kernel
theorem d243_72 : decode (m_code 243) 72 = .ok (.imul, 1) := by decide +kernel
theorem d243_73 : decode (m_code 243) 73 = .ok (.iadd, 1) := by decide +kernel
theorem d243_74 : decode (m_code 243) 74 = .ok (.iconst 0, 1) := by decide +kernel
theorem d243_75 : decode (m_code 243) 75 = .ok (.iadd, 1) := by decide +kernel
theorem d243_76 : decode (m_code 243) 76 = .ok (.iload_n 1, 1) := by decide +kernel
theorem d243_77 : decode (m_code 243) 77 = .ok (.iastore, 1) := by decide +kernel
theorem d243_78 : decode (m_code 243) 78 = .ok (.aload_n 0, 1) := by decide +kernel
theorem d243_79 : decode (m_code 243) 79 = .ok (.getfield 7, 3) := by decide +kernel
theorem d243_82 : decode (m_code 243) 82 = .ok (.sipush 328, 3) := by decide +kernel
theorem d243_85 : decode (m_code 243) 85 = .ok (.iconst 5, 1) := by decide +kernel
theorem d243_86 : decode (m_code 243) 86 = .ok (.iload 4, 2) := by decide +kernel
theorem d243_88 : decode (m_code 243) 88 = .ok (.imul, 1) := by decide +kernel
theorem d243_89 : decode (m_code 243) 89 = .ok (.iadd, 1) := by decide +kernel
theorem d243_90 : decode (m_code 243) 90 = .ok (.iconst 1, 1) := by decide +kernel
theorem d243_91 : decode (m_code 243) 91 = .ok (.iadd, 1) := by decide +kernel
theorem d243_92 : decode (m_code 243) 92 = .ok (.iload_n 2, 1) := by decide +kernel
theorem d243_93 : decode (m_code 243) 93 = .ok (.iastore, 1) := by decide +kernel
theorem d243_94 : decode (m_code 243) 94 = .ok (.aload_n 0, 1) := by decide +kernel
theorem d243_95 : decode (m_code 243) 95 = .ok (.getfield 7, 3) := by decide +kernel
theorem d243_98 : decode (m_code 243) 98 = .ok (.sipush 328, 3) := by decide +kernel
theorem d243_101 : decode (m_code 243) 101 = .ok (.iconst 5, 1) := by decide +kernel
theorem d243_102 : decode (m_code 243) 102 = .ok (.iload 4, 2) := by decide +kernel
theorem d243_104 : decode (m_code 243) 104 = .ok (.imul, 1) := by decide +kernel
theorem d243_105 : decode (m_code 243) 105 = .ok (.iadd, 1) := by decide +kernel
theorem d243_106 : decode (m_code 243) 106 = .ok (.iconst 2, 1) := by decide +kernel
theorem d243_107 : decode (m_code 243) 107 = .ok (.iadd, 1) := by decide +kernel
theorem d243_108 : decode (m_code 243) 108 = .ok (.iload_n 3, 1) := by decide +kernel
theorem d243_109 : decode (m_code 243) 109 = .ok (.iastore, 1) := by decide +kernel
theorem d243_110 : decode (m_code 243) 110 = .ok (.aload_n 0, 1) := by decide +kernel
theorem d243_111 : decode (m_code 243) 111 = .ok (.getfield 7, 3) := by decide +kernel
theorem d243_114 : decode (m_code 243) 114 = .ok (.sipush 328, 3) := by decide +kernel
theorem d243_117 : decode (m_code 243) 117 = .ok (.iconst 5, 1) := by decide +kernel
theorem d243_118 : decode (m_code 243) 118 = .ok (.iload 4, 2) := by decide +kernel
theorem d243_120 : decode (m_code 243) 120 = .ok (.imul, 1) := by decide +kernel
theorem d243_121 : decode (m_code 243) 121 = .ok (.iadd, 1) := by decide +kernel
theorem d243_122 : decode (m_code 243) 122 = .ok (.iconst 3, 1) := by decide +kernel
theorem d243_123 : decode (m_code 243) 123 = .ok (.iadd, 1) := by decide +kernel
theorem d243_124 : decode (m_code 243) 124 = .ok (.iconst 0, 1) := by decide +kernel
theorem d243_125 : decode (m_code 243) 125 = .ok (.iastore, 1) := by decide +kernel
theorem d243_126 : decode (m_code 243) 126 = .ok (.aload_n 0, 1) := by decide +kernel
theorem d243_127 : decode (m_code 243) 127 = .ok (.getfield 7, 3) := by decide +kernel
theorem d243_130 : decode (m_code 243) 130 = .ok (.sipush 328, 3) := by decide +kernel
theorem d243_133 : decode (m_code 243) 133 = .ok (.iconst 5, 1) := by decide +kernel
theorem d243_134 : decode (m_code 243) 134 = .ok (.iload 4, 2) := by decide +kernel
theorem d243_136 : decode (m_code 243) 136 = .ok (.imul, 1) := by decide +kernel
theorem d243_137 : decode (m_code 243) 137 = .ok (.iadd, 1) := by decide +kernel
theorem d243_138 : decode (m_code 243) 138 = .ok (.iconst 4, 1) := by decide +kernel
theorem d243_139 : decode (m_code 243) 139 = .ok (.iadd, 1) := by decide +kernel
theorem d243_140 : decode (m_code 243) 140 = .ok (.iconst 0, 1) := by decide +kernel
theorem d243_141 : decode (m_code 243) 141 = .ok (.iastore, 1) := by decide +kernel
theorem d243_142 : decode (m_code 243) 142 = .ok (.aload_n 0, 1) := by decide +kernel
theorem d243_143 : decode (m_code 243) 143 = .ok (.getfield 7, 3) := by decide +kernel
theorem d243_146 : decode (m_code 243) 146 = .ok (.iconst 5, 1) := by decide +kernel
theorem d243_147 : decode (m_code 243) 147 = .ok (.dup2, 1) := by decide +kernel
theorem d243_148 : decode (m_code 243) 148 = .ok (.iaload, 1) := by decide +kernel
theorem d243_149 : decode (m_code 243) 149 = .ok (.iconst 1, 1) := by decide +kernel
theorem d243_150 : decode (m_code 243) 150 = .ok (.iadd, 1) := by decide +kernel
theorem d243_151 : decode (m_code 243) 151 = .ok (.iastore, 1) := by decide +kernel
theorem d243_152 : decode (m_code 243) 152 = .ok (.iload 4, 2) := by decide +kernel
theorem d243_154 : decode (m_code 243) 154 = .ok (.ireturn, 1) := by decide +kernel
theorem d244_0 : decode (m_code 244) 0 = .ok (.aload_n 0, 1) := by decide +kernel
theorem d244_1 : decode (m_code 244) 1 = .ok (.iload_n 1, 1) := by decide +kernel
theorem d244_2 : decode (m_code 244) 2 = .ok (.invokevirtual 113, 3) := by decide +kernel
theorem d244_5 : decode (m_code 244) 5 = .ok (.ifCond .eq 15, 3) := by decide +kernel
theorem d244_8 : decode (m_code 244) 8 = .ok (.aload_n 0, 1) := by decide +kernel
theorem d244_9 : decode (m_code 244) 9 = .ok (.iload_n 2, 1) := by decide +kernel
theorem d244_10 : decode (m_code 244) 10 = .ok (.invokevirtual 57, 3) := by decide +kernel
theorem d244_13 : decode (m_code 244) 13 = .ok (.ifCond .eq 7, 3) := by decide +kernel
theorem d244_16 : decode (m_code 244) 16 = .ok (.iload_n 2, 1) := by decide +kernel
theorem d244_17 : decode (m_code 244) 17 = .ok (.ifCond .ne 5, 3) := by decide +kernel
theorem d244_20 : decode (m_code 244) 20 = .ok (.iconst (-1), 1) := by decide +kernel
theorem d244_21 : decode (m_code 244) 21 = .ok (.ireturn, 1) := by decide +kernel
theorem d244_22 : decode (m_code 244) 22 = .ok (.aload_n 0, 1) := by decide +kernel
theorem d244_23 : decode (m_code 244) 23 = .ok (.iload_n 1, 1) := by decide +kernel
theorem d244_24 : decode (m_code 244) 24 = .ok (.iconst 1, 1) := by decide +kernel
theorem d244_25 : decode (m_code 244) 25 = .ok (.invokevirtual 116, 3) := by decide +kernel
theorem d244_28 : decode (m_code 244) 28 = .ok (.istore_n 3, 1) := by decide +kernel
theorem d244_29 : decode (m_code 244) 29 = .ok (.aload_n 0, 1) := by decide +kernel
theorem d244_30 : decode (m_code 244) 30 = .ok (.iload_n 3, 1) := by decide +kernel
theorem d244_31 : decode (m_code 244) 31 = .ok (.iload_n 2, 1) := by decide +kernel
theorem d244_32 : decode (m_code 244) 32 = .ok (.invokevirtual 60, 3) := by decide +kernel
theorem d244_35 : decode (m_code 244) 35 = .ok (.istore 4, 2) := by decide +kernel
theorem d244_37 : decode (m_code 244) 37 = .ok (.aload_n 0, 1) := by decide +kernel
theorem d244_38 : decode (m_code 244) 38 = .ok (.iload_n 1, 1) := by decide +kernel
theorem d244_39 : decode (m_code 244) 39 = .ok (.iconst 3, 1) := by decide +kernel
theorem d244_40 : decode (m_code 244) 40 = .ok (.invokevirtual 116, 3) := by decide +kernel
theorem d244_43 : decode (m_code 244) 43 = .ok (.iconst 2, 1) := by decide +kernel
theorem d244_44 : decode (m_code 244) 44 = .ok (.if_icmp .eq 18, 3) := by decide +kernel
theorem d244_47 : decode (m_code 244) 47 = .ok (.aload_n 0, 1) := by decide +kernel
theorem d244_48 : decode (m_code 244) 48 = .ok (.iload_n 3, 1) := by decide +kernel
theorem d244_49 : decode (m_code 244) 49 = .ok (.invokevirtual 119, 3) := by decide +kernel
theorem d244_52 : decode (m_code 244) 52 = .ok (.ifCond .eq 10, 3) := by decide +kernel
theorem d244_55 : decode (m_code 244) 55 = .ok (.iload 4, 2) := by decide +kernel
theorem d244_57 : decode (m_code 244) 57 = .ok (.bipush (-5), 2) := by decide +kernel
theorem d244_59 : decode (m_code 244) 59 = .ok (.if_icmp .ne 6, 3) := by decide +kernel
theorem d244_62 : decode (m_code 244) 62 = .ok (.bipush (-4), 2) := by decide +kernel
theorem d244_64 : decode (m_code 244) 64 = .ok (.ireturn, 1) := by decide +kernel
theorem d244_65 : decode (m_code 244) 65 = .ok (.aload_n 0, 1) := by decide +kernel
theorem d244_66 : decode (m_code 244) 66 = .ok (.invokevirtual 50, 3) := by decide +kernel
theorem d244_69 : decode (m_code 244) 69 = .ok (.aload_n 0, 1) := by decide +kernel
theorem d244_70 : decode (m_code 244) 70 = .ok (.getfield 7, 3) := by decide +kernel
theorem d244_73 : decode (m_code 244) 73 = .ok (.sipush 328, 3) := by decide +kernel
theorem d244_76 : decode (m_code 244) 76 = .ok (.iconst 5, 1) := by decide +kernel
theorem d244_77 : decode (m_code 244) 77 = .ok (.iload_n 1, 1) := by decide +kernel
theorem d244_78 : decode (m_code 244) 78 = .ok (.imul, 1) := by decide +kernel
theorem d244_79 : decode (m_code 244) 79 = .ok (.iadd, 1) := by decide +kernel
theorem d244_80 : decode (m_code 244) 80 = .ok (.iconst 1, 1) := by decide +kernel
theorem d244_81 : decode (m_code 244) 81 = .ok (.iadd, 1) := by decide +kernel
theorem d244_82 : decode (m_code 244) 82 = .ok (.iload_n 2, 1) := by decide +kernel
theorem d244_83 : decode (m_code 244) 83 = .ok (.iastore, 1) := by decide +kernel
theorem d244_84 : decode (m_code 244) 84 = .ok (.aload_n 0, 1) := by decide +kernel
theorem d244_85 : decode (m_code 244) 85 = .ok (.iload 4, 2) := by decide +kernel
theorem d244_87 : decode (m_code 244) 87 = .ok (.iconst 2, 1) := by decide +kernel
theorem d244_88 : decode (m_code 244) 88 = .ok (.invokevirtual 53, 3) := by decide +kernel
theorem d244_91 : decode (m_code 244) 91 = .ok (.ireturn, 1) := by decide +kernel
theorem d248_0 : decode (m_code 248) 0 = .ok (.aload_n 0, 1) := by decide +kernel
theorem d248_1 : decode (m_code 248) 1 = .ok (.iload_n 1, 1) := by decide +kernel
theorem d248_2 : decode (m_code 248) 2 = .ok (.invokevirtual 113, 3) := by decide +kernel
theorem d248_5 : decode (m_code 248) 5 = .ok (.ifCond .ne 7, 3) := by decide +kernel
theorem d248_8 : decode (m_code 248) 8 = .ok (.iconst (-1), 1) := by decide +kernel
theorem d248_9 : decode (m_code 248) 9 = .ok (.goto 19, 3) := by decide +kernel
theorem d248_12 : decode (m_code 248) 12 = .ok (.aload_n 0, 1) := by decide +kernel
theorem d248_13 : decode (m_code 248) 13 = .ok (.iload_n 1, 1) := by decide +kernel
theorem d248_14 : decode (m_code 248) 14 = .ok (.iconst 3, 1) := by decide +kernel
theorem d248_15 : decode (m_code 248) 15 = .ok (.invokevirtual 116, 3) := by decide +kernel
theorem d248_18 : decode (m_code 248) 18 = .ok (.iconst 2, 1) := by decide +kernel
theorem d248_19 : decode (m_code 248) 19 = .ok (.if_icmp .ne 8, 3) := by decide +kernel
theorem d248_22 : decode (m_code 248) 22 = .ok (.bipush (-5), 2) := by decide +kernel
theorem d248_24 : decode (m_code 248) 24 = .ok (.goto 4, 3) := by decide +kernel
theorem d248_27 : decode (m_code 248) 27 = .ok (.iconst 0, 1) := by decide +kernel
theorem d248_28 : decode (m_code 248) 28 = .ok (.istore_n 2, 1) := by decide +kernel
theorem d248_29 : decode (m_code 248) 29 = .ok (.iload_n 2, 1) := by decide +kernel
theorem d248_30 : decode (m_code 248) 30 = .ok (.ifCond .ge 5, 3) := by decide +kernel
theorem d248_33 : decode (m_code 248) 33 = .ok (.iload_n 2, 1) := by decide +kernel
theorem d248_34 : decode (m_code 248) 34 = .ok (.ireturn, 1) := by decide +kernel
theorem d248_35 : decode (m_code 248) 35 = .ok (.aload_n 0, 1) := by decide +kernel
theorem d248_36 : decode (m_code 248) 36 = .ok (.invokevirtual 50, 3) := by decide +kernel
theorem d248_39 : decode (m_code 248) 39 = .ok (.aload_n 0, 1) := by decide +kernel
theorem d248_40 : decode (m_code 248) 40 = .ok (.iload_n 1, 1) := by decide +kernel
theorem d248_41 : decode (m_code 248) 41 = .ok (.iconst 3, 1) := by decide +kernel
theorem d248_42 : decode (m_code 248) 42 = .ok (.invokevirtual 116, 3) := by decide +kernel
theorem d248_45 : decode (m_code 248) 45 = .ok (.istore_n 3, 1) := by decide +kernel
theorem d248_46 : decode (m_code 248) 46 = .ok (.aload_n 0, 1) := by decide +kernel
theorem d248_47 : decode (m_code 248) 47 = .ok (.getfield 7, 3) := by decide +kernel
theorem d248_50 : decode (m_code 248) 50 = .ok (.sipush 328, 3) := by decide +kernel
theorem d248_53 : decode (m_code 248) 53 = .ok (.iconst 5, 1) := by decide +kernel
theorem d248_54 : decode (m_code 248) 54 = .ok (.iload_n 1, 1) := by decide +kernel
theorem d248_55 : decode (m_code 248) 55 = .ok (.imul, 1) := by decide +kernel
theorem d248_56 : decode (m_code 248) 56 = .ok (.iadd, 1) := by decide +kernel
theorem d248_57 : decode (m_code 248) 57 = .ok (.iconst 3, 1) := by decide +kernel
theorem d248_58 : decode (m_code 248) 58 = .ok (.iadd, 1) := by decide +kernel
theorem d248_59 : decode (m_code 248) 59 = .ok (.iconst 2, 1) := by decide +kernel
theorem d248_60 : decode (m_code 248) 60 = .ok (.iastore, 1) := by decide +kernel
theorem d248_61 : decode (m_code 248) 61 = .ok (.iload_n 3, 1) := by decide +kernel
theorem d248_62 : decode (m_code 248) 62 = .ok (.ireturn, 1) := by decide +kernel
theorem d249_0 : decode (m_code 249) 0 = .ok (.aload_n 0, 1) := by decide +kernel
theorem d249_1 : decode (m_code 249) 1 = .ok (.iload_n 1, 1) := by decide +kernel
theorem d249_2 : decode (m_code 249) 2 = .ok (.invokevirtual 122, 3) := by decide +kernel
theorem d249_5 : decode (m_code 249) 5 = .ok (.ifCond .eq 11, 3) := by decide +kernel
theorem d249_8 : decode (m_code 249) 8 = .ok (.aload_n 0, 1) := by decide +kernel
theorem d249_9 : decode (m_code 249) 9 = .ok (.iload_n 2, 1) := by decide +kernel
theorem d249_10 : decode (m_code 249) 10 = .ok (.invokevirtual 94, 3) := by decide +kernel
theorem d249_13 : decode (m_code 249) 13 = .ok (.ifCond .ne 5, 3) := by decide +kernel
theorem d249_16 : decode (m_code 249) 16 = .ok (.iconst (-1), 1) := by decide +kernel
theorem d249_17 : decode (m_code 249) 17 = .ok (.ireturn, 1) := by decide +kernel
theorem d249_18 : decode (m_code 249) 18 = .ok (.aload_n 0, 1) := by decide +kernel
theorem d249_19 : decode (m_code 249) 19 = .ok (.iload_n 2, 1) := by decide +kernel
theorem d249_20 : decode (m_code 249) 20 = .ok (.iconst 0, 1) := by decide +kernel
theorem d249_21 : decode (m_code 249) 21 = .ok (.invokevirtual 81, 3) := by decide +kernel
theorem d249_24 : decode (m_code 249) 24 = .ok (.aload_n 0, 1) := by decide +kernel
theorem d249_25 : decode (m_code 249) 25 = .ok (.iload_n 1, 1) := by decide +kernel
theorem d249_26 : decode (m_code 249) 26 = .ok (.iconst 1, 1) := by decide +kernel
theorem d249_27 : decode (m_code 249) 27 = .ok (.invokevirtual 125, 3) := by decide +kernel
theorem d249_30 : decode (m_code 249) 30 = .ok (.if_icmp .eq 6, 3) := by decide +kernel
theorem d249_33 : decode (m_code 249) 33 = .ok (.bipush (-4), 2) := by decide +kernel
theorem d249_35 : decode (m_code 249) 35 = .ok (.ireturn, 1) := by decide +kernel
theorem d249_36 : decode (m_code 249) 36 = .ok (.aload_n 0, 1) := by decide +kernel
theorem d249_37 : decode (m_code 249) 37 = .ok (.iload_n 1, 1) := by decide +kernel
theorem d249_38 : decode (m_code 249) 38 = .ok (.iconst 3, 1) := by decide +kernel
theorem d249_39 : decode (m_code 249) 39 = .ok (.invokevirtual 125, 3) := by decide +kernel
theorem d249_42 : decode (m_code 249) 42 = .ok (.bipush (-5), 2) := by decide +kernel
theorem d249_44 : decode (m_code 249) 44 = .ok (.if_icmp .eq 6, 3) := by decide +kernel
theorem d249_47 : decode (m_code 249) 47 = .ok (.bipush (-5), 2) := by decide +kernel
theorem d249_49 : decode (m_code 249) 49 = .ok (.ireturn, 1) := by decide +kernel
theorem d249_50 : decode (m_code 249) 50 = .ok (.aload_n 0, 1) := by decide +kernel
theorem d249_51 : decode (m_code 249) 51 = .ok (.invokevirtual 50, 3) := by decide +kernel
theorem d249_54 : decode (m_code 249) 54 = .ok (.aload_n 0, 1) := by decide +kernel
theorem d249_55 : decode (m_code 249) 55 = .ok (.getfield 7, 3) := by decide +kernel
theorem d249_58 : decode (m_code 249) 58 = .ok (.sipush 378, 3) := by decide +kernel
theorem d249_61 : decode (m_code 249) 61 = .ok (.iconst 5, 1) := by decide +kernel
theorem d249_62 : decode (m_code 249) 62 = .ok (.iload_n 1, 1) := by decide +kernel
theorem d249_63 : decode (m_code 249) 63 = .ok (.imul, 1) := by decide +kernel
theorem d249_64 : decode (m_code 249) 64 = .ok (.iadd, 1) := by decide +kernel
theorem d249_65 : decode (m_code 249) 65 = .ok (.iconst 3, 1) := by decide +kernel
theorem d249_66 : decode (m_code 249) 66 = .ok (.iadd, 1) := by decide +kernel
theorem d249_67 : decode (m_code 249) 67 = .ok (.iload_n 2, 1) := by decide +kernel
theorem d249_68 : decode (m_code 249) 68 = .ok (.iastore, 1) := by decide +kernel
theorem d249_69 : decode (m_code 249) 69 = .ok (.aload_n 0, 1) := by decide +kernel
theorem d249_70 : decode (m_code 249) 70 = .ok (.getfield 7, 3) := by decide +kernel
theorem d249_73 : decode (m_code 249) 73 = .ok (.sipush 378, 3) := by decide +kernel
theorem d249_76 : decode (m_code 249) 76 = .ok (.iconst 5, 1) := by decide +kernel
theorem d249_77 : decode (m_code 249) 77 = .ok (.iload_n 1, 1) := by decide +kernel
theorem d249_78 : decode (m_code 249) 78 = .ok (.imul, 1) := by decide +kernel
theorem d249_79 : decode (m_code 249) 79 = .ok (.iadd, 1) := by decide +kernel
theorem d249_80 : decode (m_code 249) 80 = .ok (.iconst 4, 1) := by decide +kernel
theorem d249_81 : decode (m_code 249) 81 = .ok (.iadd, 1) := by decide +kernel
theorem d249_82 : decode (m_code 249) 82 = .ok (.aload_n 0, 1) := by decide +kernel
theorem d249_83 : decode (m_code 249) 83 = .ok (.getfield 7, 3) := by decide +kernel
theorem d249_86 : decode (m_code 249) 86 = .ok (.iconst 0, 1) := by decide +kernel
theorem d249_87 : decode (m_code 249) 87 = .ok (.iaload, 1) := by decide +kernel
theorem d249_88 : decode (m_code 249) 88 = .ok (.iastore, 1) := by decide +kernel
theorem d249_89 : decode (m_code 249) 89 = .ok (.aload_n 0, 1) := by decide +kernel
theorem d249_90 : decode (m_code 249) 90 = .ok (.getfield 7, 3) := by decide +kernel
theorem d249_93 : decode (m_code 249) 93 = .ok (.iconst 0, 1) := by decide +kernel
theorem d249_94 : decode (m_code 249) 94 = .ok (.iaload, 1) := by decide +kernel
theorem d249_95 : decode (m_code 249) 95 = .ok (.aload_n 0, 1) := by decide +kernel
theorem d249_96 : decode (m_code 249) 96 = .ok (.iload_n 1, 1) := by decide +kernel
theorem d249_97 : decode (m_code 249) 97 = .ok (.iconst 2, 1) := by decide +kernel
theorem d249_98 : decode (m_code 249) 98 = .ok (.invokevirtual 125, 3) := by decide +kernel
theorem d249_101 : decode (m_code 249) 101 = .ok (.isub, 1) := by decide +kernel
theorem d249_102 : decode (m_code 249) 102 = .ok (.ireturn, 1) := by decide +kernel
theorem nI_ne5 {d : Nat} (h : d < 2 ^ 31) : ¬ nI d = (-5 : Int32) := by
  intro e
  have h1 := congrArg Int32.toInt e
  rw [nI_toInt h, show (-5 : Int32).toInt = -5 from rfl] at h1
  omega
theorem r_handKey_1a {X : mX} {h : mH} {R : Nat → Nat → Int32} {σ : Nat → Int32} (hR : Ms h R σ) {mi nR nD nG nW nA n : Nat} (hC : Cn σ mi nR nD nG nW nA) (hn : R 0 5 = nI n) (hn4 : n ≤ 4) {x y w : Int32} (hx : ¬ (nI 0 ≤ x ∧ x < nI nG)) : Tells X 239 [.ref 313, .int (x), .int (y), .int (w)] h (-1) := by
  obtain ⟨⟨h0, hmi⟩, ⟨h2, hR1, hR12⟩, ⟨h3, hD⟩, ⟨h4, hG⟩, ⟨h5, hW⟩, ⟨h6, hA⟩⟩ := hC
  refine wp_aload_n d239_0 rfl ?_
  refine wp_iload_n d239_1 rfl ?_
  refine wp_invvT (e := 94) (j2 := 232) (n := 1) d239_2 (by decide +kernel) (by decide +kernel) rfl rfl rfl (md_0 hR) (by decide +kernel) (Nat.le_of_ble_eq_true rfl) rfl rfl (Nat.le_of_ble_eq_true rfl) (by decide +kernel) (c_isGuard hR (n := nG) h4 (by omega) (x)) ?_
  refine wp_ifb_eq d239_5 (tgt := 23) (by decide) (fun _ => ?_) (fun hq9 => absurd hq9 hx)
  refine wp_iconst d239_23 (v := (-1 : Int32)) (by decide) ?_
  refine wp_iret d239_24 (by decide +kernel) ?_
  exact ⟨rfl, rfl⟩
theorem r_handKey_1b {X : mX} {h : mH} {R : Nat → Nat → Int32} {σ : Nat → Int32} (hR : Ms h R σ) {mi nR nD nG nW nA n : Nat} (hC : Cn σ mi nR nD nG nW nA) (hn : R 0 5 = nI n) (hn4 : n ≤ 4) {x y w : Int32} (hx : nI 0 ≤ x ∧ x < nI nG) (hy : ¬ (nI 0 ≤ y ∧ y < nI nG)) : Tells X 239 [.ref 313, .int (x), .int (y), .int (w)] h (-1) := by
  obtain ⟨⟨h0, hmi⟩, ⟨h2, hR1, hR12⟩, ⟨h3, hD⟩, ⟨h4, hG⟩, ⟨h5, hW⟩, ⟨h6, hA⟩⟩ := hC
  refine wp_aload_n d239_0 rfl ?_
  refine wp_iload_n d239_1 rfl ?_
  refine wp_invvT (e := 94) (j2 := 232) (n := 1) d239_2 (by decide +kernel) (by decide +kernel) rfl rfl rfl (md_0 hR) (by decide +kernel) (Nat.le_of_ble_eq_true rfl) rfl rfl (Nat.le_of_ble_eq_true rfl) (by decide +kernel) (c_isGuard hR (n := nG) h4 (by omega) (x)) ?_
  refine wp_ifb_eq d239_5 (tgt := 23) (by decide) (fun hq9 => absurd hx hq9) (fun _ => ?_)
  refine wp_aload_n d239_8 rfl ?_
  refine wp_iload_n d239_9 rfl ?_
  refine wp_invvT (e := 94) (j2 := 232) (n := 1) d239_10 (by decide +kernel) (by decide +kernel) rfl rfl rfl (md_0 hR) (by decide +kernel) (Nat.le_of_ble_eq_true rfl) rfl rfl (Nat.le_of_ble_eq_true rfl) (by decide +kernel) (c_isGuard hR (n := nG) h4 (by omega) (y)) ?_
  refine wp_ifb_eq d239_13 (tgt := 23) (by decide) (fun _ => ?_) (fun hq9 => absurd hq9 hy)
  refine wp_iconst d239_23 (v := (-1 : Int32)) (by decide) ?_
  refine wp_iret d239_24 (by decide +kernel) ?_
  exact ⟨rfl, rfl⟩
theorem r_handKey_1c {X : mX} {h : mH} {R : Nat → Nat → Int32} {σ : Nat → Int32} (hR : Ms h R σ) {mi nR nD nG nW nA n : Nat} (hC : Cn σ mi nR nD nG nW nA) (hn : R 0 5 = nI n) (hn4 : n ≤ 4) {x y w : Int32} (hx : nI 0 ≤ x ∧ x < nI nG) (hy : nI 0 ≤ y ∧ y < nI nG) (hw : ¬ (nI 0 ≤ w ∧ w ≤ nI 7)) : Tells X 239 [.ref 313, .int (x), .int (y), .int (w)] h (-1) := by
  obtain ⟨⟨h0, hmi⟩, ⟨h2, hR1, hR12⟩, ⟨h3, hD⟩, ⟨h4, hG⟩, ⟨h5, hW⟩, ⟨h6, hA⟩⟩ := hC
  refine wp_aload_n d239_0 rfl ?_
  refine wp_iload_n d239_1 rfl ?_
  refine wp_invvT (e := 94) (j2 := 232) (n := 1) d239_2 (by decide +kernel) (by decide +kernel) rfl rfl rfl (md_0 hR) (by decide +kernel) (Nat.le_of_ble_eq_true rfl) rfl rfl (Nat.le_of_ble_eq_true rfl) (by decide +kernel) (c_isGuard hR (n := nG) h4 (by omega) (x)) ?_
  refine wp_ifb_eq d239_5 (tgt := 23) (by decide) (fun hq9 => absurd hx hq9) (fun _ => ?_)
  refine wp_aload_n d239_8 rfl ?_
  refine wp_iload_n d239_9 rfl ?_
  refine wp_invvT (e := 94) (j2 := 232) (n := 1) d239_10 (by decide +kernel) (by decide +kernel) rfl rfl rfl (md_0 hR) (by decide +kernel) (Nat.le_of_ble_eq_true rfl) rfl rfl (Nat.le_of_ble_eq_true rfl) (by decide +kernel) (c_isGuard hR (n := nG) h4 (by omega) (y)) ?_
  refine wp_ifb_eq d239_13 (tgt := 23) (by decide) (fun hq9 => absurd hy hq9) (fun _ => ?_)
  refine wp_iload_n d239_16 rfl ?_
  refine wp_invsT (e := 97) (j2 := 233) (n := 1) d239_17 (by decide +kernel) (by decide +kernel) rfl rfl rfl (Nat.le_of_ble_eq_true rfl) (Nat.le_of_ble_eq_true rfl) rfl rfl (Nat.le_of_ble_eq_true rfl) (by decide +kernel) (c_isKey (w)) ?_
  refine wp_ifb_ne d239_20 (tgt := 25) (by decide) (fun hq9 => absurd hq9 hw) (fun _ => ?_)
  refine wp_iconst d239_23 (v := (-1 : Int32)) (by decide) ?_
  refine wp_iret d239_24 (by decide +kernel) ?_
  exact ⟨rfl, rfl⟩
theorem r_handKey_2 {X : mX} {h : mH} {R : Nat → Nat → Int32} {σ : Nat → Int32} (hR : Ms h R σ) {mi nR nD nG nW nA n : Nat} (hC : Cn σ mi nR nD nG nW nA) (hn : R 0 5 = nI n) (hn4 : n ≤ 4) {g o k : Nat} (hg : g < nG) (ho : o < nG) (hk : k < 8) (he : g = o) : Tells X 239 [.ref 313, .int (nI g), .int (nI o), .int (nI k)] h (-2) := by
  obtain ⟨⟨h0, hmi⟩, ⟨h2, hR1, hR12⟩, ⟨h3, hD⟩, ⟨h4, hG⟩, ⟨h5, hW⟩, ⟨h6, hA⟩⟩ := hC
  refine wp_aload_n d239_0 rfl ?_
  refine wp_iload_n d239_1 rfl ?_
  refine wp_invvT (e := 94) (j2 := 232) (n := 1) d239_2 (by decide +kernel) (by decide +kernel) rfl rfl rfl (md_0 hR) (by decide +kernel) (Nat.le_of_ble_eq_true rfl) rfl rfl (Nat.le_of_ble_eq_true rfl) (by decide +kernel) (c_isGuard hR (n := nG) h4 (by omega) (nI g)) ?_
  refine wp_ifb_eq d239_5 (tgt := 23) (by decide) (fun hq9 => absurd (⟨nI_le (by omega) (by omega), nI_lt (by omega) (by omega)⟩ : nI 0 ≤ nI g ∧ nI g < nI nG) hq9) (fun _ => ?_)
  refine wp_aload_n d239_8 rfl ?_
  refine wp_iload_n d239_9 rfl ?_
  refine wp_invvT (e := 94) (j2 := 232) (n := 1) d239_10 (by decide +kernel) (by decide +kernel) rfl rfl rfl (md_0 hR) (by decide +kernel) (Nat.le_of_ble_eq_true rfl) rfl rfl (Nat.le_of_ble_eq_true rfl) (by decide +kernel) (c_isGuard hR (n := nG) h4 (by omega) (nI o)) ?_
  refine wp_ifb_eq d239_13 (tgt := 23) (by decide) (fun hq9 => absurd (⟨nI_le (by omega) (by omega), nI_lt (by omega) (by omega)⟩ : nI 0 ≤ nI o ∧ nI o < nI nG) hq9) (fun _ => ?_)
  refine wp_iload_n d239_16 rfl ?_
  refine wp_invsT (e := 97) (j2 := 233) (n := 1) d239_17 (by decide +kernel) (by decide +kernel) rfl rfl rfl (Nat.le_of_ble_eq_true rfl) (Nat.le_of_ble_eq_true rfl) rfl rfl (Nat.le_of_ble_eq_true rfl) (by decide +kernel) (c_isKey (nI k)) ?_
  refine wp_ifb_ne d239_20 (tgt := 25) (by decide) (fun _ => ?_) (fun hq9 => absurd (⟨nI_le (by omega) (by omega), nI_le (by omega) (by omega)⟩ : nI 0 ≤ nI k ∧ nI k ≤ nI 7) hq9)
  refine wp_iload_n d239_25 rfl ?_
  refine wp_iload_n d239_26 rfl ?_
  refine wp_icmp_ne d239_27 (tgt := 33) (by decide) (fun hq9 => absurd (by rw [he] : nI g = nI o) hq9) (fun _ => ?_)
  refine wp_bipush d239_30 (v := (-2 : Int32)) (by decide) ?_
  refine wp_iret d239_32 (by decide +kernel) ?_
  exact ⟨rfl, rfl⟩
theorem r_handKey_3a {X : mX} {h : mH} {R : Nat → Nat → Int32} {σ : Nat → Int32} (hR : Ms h R σ) {mi nR nD nG nW nA n : Nat} (hC : Cn σ mi nR nD nG nW nA) (hn : R 0 5 = nI n) (hn4 : n ≤ 4) {g o k : Nat} (hg : g < nG) (ho : o < nG) (hk : k < 8) (he : ¬ g = o) (ha : σ (192 + 10 * g + 0) < 0) : Tells X 239 [.ref 313, .int (nI g), .int (nI o), .int (nI k)] h (-4) := by
  obtain ⟨⟨h0, hmi⟩, ⟨h2, hR1, hR12⟩, ⟨h3, hD⟩, ⟨h4, hG⟩, ⟨h5, hW⟩, ⟨h6, hA⟩⟩ := hC
  refine wp_aload_n d239_0 rfl ?_
  refine wp_iload_n d239_1 rfl ?_
  refine wp_invvT (e := 94) (j2 := 232) (n := 1) d239_2 (by decide +kernel) (by decide +kernel) rfl rfl rfl (md_0 hR) (by decide +kernel) (Nat.le_of_ble_eq_true rfl) rfl rfl (Nat.le_of_ble_eq_true rfl) (by decide +kernel) (c_isGuard hR (n := nG) h4 (by omega) (nI g)) ?_
  refine wp_ifb_eq d239_5 (tgt := 23) (by decide) (fun hq9 => absurd (⟨nI_le (by omega) (by omega), nI_lt (by omega) (by omega)⟩ : nI 0 ≤ nI g ∧ nI g < nI nG) hq9) (fun _ => ?_)
  refine wp_aload_n d239_8 rfl ?_
  refine wp_iload_n d239_9 rfl ?_
  refine wp_invvT (e := 94) (j2 := 232) (n := 1) d239_10 (by decide +kernel) (by decide +kernel) rfl rfl rfl (md_0 hR) (by decide +kernel) (Nat.le_of_ble_eq_true rfl) rfl rfl (Nat.le_of_ble_eq_true rfl) (by decide +kernel) (c_isGuard hR (n := nG) h4 (by omega) (nI o)) ?_
  refine wp_ifb_eq d239_13 (tgt := 23) (by decide) (fun hq9 => absurd (⟨nI_le (by omega) (by omega), nI_lt (by omega) (by omega)⟩ : nI 0 ≤ nI o ∧ nI o < nI nG) hq9) (fun _ => ?_)
  refine wp_iload_n d239_16 rfl ?_
  refine wp_invsT (e := 97) (j2 := 233) (n := 1) d239_17 (by decide +kernel) (by decide +kernel) rfl rfl rfl (Nat.le_of_ble_eq_true rfl) (Nat.le_of_ble_eq_true rfl) rfl rfl (Nat.le_of_ble_eq_true rfl) (by decide +kernel) (c_isKey (nI k)) ?_
  refine wp_ifb_ne d239_20 (tgt := 25) (by decide) (fun _ => ?_) (fun hq9 => absurd (⟨nI_le (by omega) (by omega), nI_le (by omega) (by omega)⟩ : nI 0 ≤ nI k ∧ nI k ≤ nI 7) hq9)
  refine wp_iload_n d239_25 rfl ?_
  refine wp_iload_n d239_26 rfl ?_
  refine wp_icmp_ne d239_27 (tgt := 33) (by decide) (fun _ => ?_) (fun hq9 => absurd hq9 (fun q => he ((nI_eq (by omega) (by omega)).mp q)))
  refine wp_aload_n d239_33 rfl ?_
  refine wp_iload_n d239_34 rfl ?_
  refine wp_iconst d239_35 (v := nI 0) (by decide) ?_
  refine wp_invvT (e := 81) (j2 := 227) (n := 2) d239_36 (by decide +kernel) (by decide +kernel) rfl rfl rfl (md_0 hR) (by decide +kernel) (Nat.le_of_ble_eq_true rfl) rfl rfl (Nat.le_of_ble_eq_true rfl) (by decide +kernel) (c_guardPart hR (r := g) (p := 0) (by omega) (by omega)) ?_
  refine wp_if_lt d239_39 (tgt := 66) (by decide) (fun _ => ?_) (fun hq9 => absurd ha hq9)
  refine wp_bipush d239_66 (v := (-4 : Int32)) (by decide) ?_
  refine wp_iret d239_68 (by decide +kernel) ?_
  exact ⟨rfl, rfl⟩
theorem r_handKey_3b {X : mX} {h : mH} {R : Nat → Nat → Int32} {σ : Nat → Int32} (hR : Ms h R σ) {mi nR nD nG nW nA n : Nat} (hC : Cn σ mi nR nD nG nW nA) (hn : R 0 5 = nI n) (hn4 : n ≤ 4) {g o k : Nat} (hg : g < nG) (ho : o < nG) (hk : k < 8) (he : ¬ g = o) (ha : ¬ σ (192 + 10 * g + 0) < 0) (hb : ¬ σ (192 + 10 * g + 0) = σ (192 + 10 * o + 0)) : Tells X 239 [.ref 313, .int (nI g), .int (nI o), .int (nI k)] h (-4) := by
  obtain ⟨⟨h0, hmi⟩, ⟨h2, hR1, hR12⟩, ⟨h3, hD⟩, ⟨h4, hG⟩, ⟨h5, hW⟩, ⟨h6, hA⟩⟩ := hC
  refine wp_aload_n d239_0 rfl ?_
  refine wp_iload_n d239_1 rfl ?_
  refine wp_invvT (e := 94) (j2 := 232) (n := 1) d239_2 (by decide +kernel) (by decide +kernel) rfl rfl rfl (md_0 hR) (by decide +kernel) (Nat.le_of_ble_eq_true rfl) rfl rfl (Nat.le_of_ble_eq_true rfl) (by decide +kernel) (c_isGuard hR (n := nG) h4 (by omega) (nI g)) ?_
  refine wp_ifb_eq d239_5 (tgt := 23) (by decide) (fun hq9 => absurd (⟨nI_le (by omega) (by omega), nI_lt (by omega) (by omega)⟩ : nI 0 ≤ nI g ∧ nI g < nI nG) hq9) (fun _ => ?_)
  refine wp_aload_n d239_8 rfl ?_
  refine wp_iload_n d239_9 rfl ?_
  refine wp_invvT (e := 94) (j2 := 232) (n := 1) d239_10 (by decide +kernel) (by decide +kernel) rfl rfl rfl (md_0 hR) (by decide +kernel) (Nat.le_of_ble_eq_true rfl) rfl rfl (Nat.le_of_ble_eq_true rfl) (by decide +kernel) (c_isGuard hR (n := nG) h4 (by omega) (nI o)) ?_
  refine wp_ifb_eq d239_13 (tgt := 23) (by decide) (fun hq9 => absurd (⟨nI_le (by omega) (by omega), nI_lt (by omega) (by omega)⟩ : nI 0 ≤ nI o ∧ nI o < nI nG) hq9) (fun _ => ?_)
  refine wp_iload_n d239_16 rfl ?_
  refine wp_invsT (e := 97) (j2 := 233) (n := 1) d239_17 (by decide +kernel) (by decide +kernel) rfl rfl rfl (Nat.le_of_ble_eq_true rfl) (Nat.le_of_ble_eq_true rfl) rfl rfl (Nat.le_of_ble_eq_true rfl) (by decide +kernel) (c_isKey (nI k)) ?_
  refine wp_ifb_ne d239_20 (tgt := 25) (by decide) (fun _ => ?_) (fun hq9 => absurd (⟨nI_le (by omega) (by omega), nI_le (by omega) (by omega)⟩ : nI 0 ≤ nI k ∧ nI k ≤ nI 7) hq9)
  refine wp_iload_n d239_25 rfl ?_
  refine wp_iload_n d239_26 rfl ?_
  refine wp_icmp_ne d239_27 (tgt := 33) (by decide) (fun _ => ?_) (fun hq9 => absurd hq9 (fun q => he ((nI_eq (by omega) (by omega)).mp q)))
  refine wp_aload_n d239_33 rfl ?_
  refine wp_iload_n d239_34 rfl ?_
  refine wp_iconst d239_35 (v := nI 0) (by decide) ?_
  refine wp_invvT (e := 81) (j2 := 227) (n := 2) d239_36 (by decide +kernel) (by decide +kernel) rfl rfl rfl (md_0 hR) (by decide +kernel) (Nat.le_of_ble_eq_true rfl) rfl rfl (Nat.le_of_ble_eq_true rfl) (by decide +kernel) (c_guardPart hR (r := g) (p := 0) (by omega) (by omega)) ?_
  refine wp_if_lt d239_39 (tgt := 66) (by decide) (fun hq9 => absurd hq9 ha) (fun _ => ?_)
  refine wp_aload_n d239_42 rfl ?_
  refine wp_iload_n d239_43 rfl ?_
  refine wp_iconst d239_44 (v := nI 0) (by decide) ?_
  refine wp_invvT (e := 81) (j2 := 227) (n := 2) d239_45 (by decide +kernel) (by decide +kernel) rfl rfl rfl (md_0 hR) (by decide +kernel) (Nat.le_of_ble_eq_true rfl) rfl rfl (Nat.le_of_ble_eq_true rfl) (by decide +kernel) (c_guardPart hR (r := g) (p := 0) (by omega) (by omega)) ?_
  refine wp_aload_n d239_48 rfl ?_
  refine wp_iload_n d239_49 rfl ?_
  refine wp_iconst d239_50 (v := nI 0) (by decide) ?_
  refine wp_invvT (e := 81) (j2 := 227) (n := 2) d239_51 (by decide +kernel) (by decide +kernel) rfl rfl rfl (md_0 hR) (by decide +kernel) (Nat.le_of_ble_eq_true rfl) rfl rfl (Nat.le_of_ble_eq_true rfl) (by decide +kernel) (c_guardPart hR (r := o) (p := 0) (by omega) (by omega)) ?_
  refine wp_icmp_ne d239_54 (tgt := 66) (by decide) (fun _ => ?_) (fun hq9 => absurd hq9 hb)
  refine wp_bipush d239_66 (v := (-4 : Int32)) (by decide) ?_
  refine wp_iret d239_68 (by decide +kernel) ?_
  exact ⟨rfl, rfl⟩
theorem r_handKey_3c {X : mX} {h : mH} {R : Nat → Nat → Int32} {σ : Nat → Int32} (hR : Ms h R σ) {mi nR nD nG nW nA n : Nat} (hC : Cn σ mi nR nD nG nW nA) (hn : R 0 5 = nI n) (hn4 : n ≤ 4) {g o k : Nat} (hg : g < nG) (ho : o < nG) (hk : k < 8) (he : ¬ g = o) (ha : ¬ σ (192 + 10 * g + 0) < 0) (hb : σ (192 + 10 * g + 0) = σ (192 + 10 * o + 0)) (hh : ¬ F_bit (σ (192 + 10 * g + 6)) (nI k)) : Tells X 239 [.ref 313, .int (nI g), .int (nI o), .int (nI k)] h (-4) := by
  obtain ⟨⟨h0, hmi⟩, ⟨h2, hR1, hR12⟩, ⟨h3, hD⟩, ⟨h4, hG⟩, ⟨h5, hW⟩, ⟨h6, hA⟩⟩ := hC
  refine wp_aload_n d239_0 rfl ?_
  refine wp_iload_n d239_1 rfl ?_
  refine wp_invvT (e := 94) (j2 := 232) (n := 1) d239_2 (by decide +kernel) (by decide +kernel) rfl rfl rfl (md_0 hR) (by decide +kernel) (Nat.le_of_ble_eq_true rfl) rfl rfl (Nat.le_of_ble_eq_true rfl) (by decide +kernel) (c_isGuard hR (n := nG) h4 (by omega) (nI g)) ?_
  refine wp_ifb_eq d239_5 (tgt := 23) (by decide) (fun hq9 => absurd (⟨nI_le (by omega) (by omega), nI_lt (by omega) (by omega)⟩ : nI 0 ≤ nI g ∧ nI g < nI nG) hq9) (fun _ => ?_)
  refine wp_aload_n d239_8 rfl ?_
  refine wp_iload_n d239_9 rfl ?_
  refine wp_invvT (e := 94) (j2 := 232) (n := 1) d239_10 (by decide +kernel) (by decide +kernel) rfl rfl rfl (md_0 hR) (by decide +kernel) (Nat.le_of_ble_eq_true rfl) rfl rfl (Nat.le_of_ble_eq_true rfl) (by decide +kernel) (c_isGuard hR (n := nG) h4 (by omega) (nI o)) ?_
  refine wp_ifb_eq d239_13 (tgt := 23) (by decide) (fun hq9 => absurd (⟨nI_le (by omega) (by omega), nI_lt (by omega) (by omega)⟩ : nI 0 ≤ nI o ∧ nI o < nI nG) hq9) (fun _ => ?_)
  refine wp_iload_n d239_16 rfl ?_
  refine wp_invsT (e := 97) (j2 := 233) (n := 1) d239_17 (by decide +kernel) (by decide +kernel) rfl rfl rfl (Nat.le_of_ble_eq_true rfl) (Nat.le_of_ble_eq_true rfl) rfl rfl (Nat.le_of_ble_eq_true rfl) (by decide +kernel) (c_isKey (nI k)) ?_
  refine wp_ifb_ne d239_20 (tgt := 25) (by decide) (fun _ => ?_) (fun hq9 => absurd (⟨nI_le (by omega) (by omega), nI_le (by omega) (by omega)⟩ : nI 0 ≤ nI k ∧ nI k ≤ nI 7) hq9)
  refine wp_iload_n d239_25 rfl ?_
  refine wp_iload_n d239_26 rfl ?_
  refine wp_icmp_ne d239_27 (tgt := 33) (by decide) (fun _ => ?_) (fun hq9 => absurd hq9 (fun q => he ((nI_eq (by omega) (by omega)).mp q)))
  refine wp_aload_n d239_33 rfl ?_
  refine wp_iload_n d239_34 rfl ?_
  refine wp_iconst d239_35 (v := nI 0) (by decide) ?_
  refine wp_invvT (e := 81) (j2 := 227) (n := 2) d239_36 (by decide +kernel) (by decide +kernel) rfl rfl rfl (md_0 hR) (by decide +kernel) (Nat.le_of_ble_eq_true rfl) rfl rfl (Nat.le_of_ble_eq_true rfl) (by decide +kernel) (c_guardPart hR (r := g) (p := 0) (by omega) (by omega)) ?_
  refine wp_if_lt d239_39 (tgt := 66) (by decide) (fun hq9 => absurd hq9 ha) (fun _ => ?_)
  refine wp_aload_n d239_42 rfl ?_
  refine wp_iload_n d239_43 rfl ?_
  refine wp_iconst d239_44 (v := nI 0) (by decide) ?_
  refine wp_invvT (e := 81) (j2 := 227) (n := 2) d239_45 (by decide +kernel) (by decide +kernel) rfl rfl rfl (md_0 hR) (by decide +kernel) (Nat.le_of_ble_eq_true rfl) rfl rfl (Nat.le_of_ble_eq_true rfl) (by decide +kernel) (c_guardPart hR (r := g) (p := 0) (by omega) (by omega)) ?_
  refine wp_aload_n d239_48 rfl ?_
  refine wp_iload_n d239_49 rfl ?_
  refine wp_iconst d239_50 (v := nI 0) (by decide) ?_
  refine wp_invvT (e := 81) (j2 := 227) (n := 2) d239_51 (by decide +kernel) (by decide +kernel) rfl rfl rfl (md_0 hR) (by decide +kernel) (Nat.le_of_ble_eq_true rfl) rfl rfl (Nat.le_of_ble_eq_true rfl) (by decide +kernel) (c_guardPart hR (r := o) (p := 0) (by omega) (by omega)) ?_
  refine wp_icmp_ne d239_54 (tgt := 66) (by decide) (fun hq9 => absurd hb hq9) (fun _ => ?_)
  refine wp_aload_n d239_57 rfl ?_
  refine wp_iload_n d239_58 rfl ?_
  refine wp_iload_n d239_59 rfl ?_
  refine wp_invvT (e := 91) (j2 := 235) (n := 2) d239_60 (by decide +kernel) (by decide +kernel) rfl rfl rfl (md_0 hR) (by decide +kernel) (Nat.le_of_ble_eq_true rfl) rfl rfl (Nat.le_of_ble_eq_true rfl) (by decide +kernel) (c_hasKey hR (g := g) (by omega) (nI k)) ?_
  refine wp_ifb_ne d239_63 (tgt := 69) (by decide) (fun hq9 => absurd hq9 hh) (fun _ => ?_)
  refine wp_bipush d239_66 (v := (-4 : Int32)) (by decide) ?_
  refine wp_iret d239_68 (by decide +kernel) ?_
  exact ⟨rfl, rfl⟩
theorem r_handKey_4 {X : mX} {h : mH} {R : Nat → Nat → Int32} {σ : Nat → Int32} (hR : Ms h R σ) {mi nR nD nG nW nA n : Nat} (hC : Cn σ mi nR nD nG nW nA) (hn : R 0 5 = nI n) (hn4 : n ≤ 4) {g o k : Nat} (hg : g < nG) (ho : o < nG) (hk : k < 8) (he : ¬ g = o) (ha : ¬ σ (192 + 10 * g + 0) < 0) (hb : σ (192 + 10 * g + 0) = σ (192 + 10 * o + 0)) (hh : F_bit (σ (192 + 10 * g + 6)) (nI k)) (hf : F_bits (σ (192 + 10 * o + 6)) 16 = nI 3) : Tells X 239 [.ref 313, .int (nI g), .int (nI o), .int (nI k)] h (-3) := by
  obtain ⟨⟨h0, hmi⟩, ⟨h2, hR1, hR12⟩, ⟨h3, hD⟩, ⟨h4, hG⟩, ⟨h5, hW⟩, ⟨h6, hA⟩⟩ := hC
  refine wp_aload_n d239_0 rfl ?_
  refine wp_iload_n d239_1 rfl ?_
  refine wp_invvT (e := 94) (j2 := 232) (n := 1) d239_2 (by decide +kernel) (by decide +kernel) rfl rfl rfl (md_0 hR) (by decide +kernel) (Nat.le_of_ble_eq_true rfl) rfl rfl (Nat.le_of_ble_eq_true rfl) (by decide +kernel) (c_isGuard hR (n := nG) h4 (by omega) (nI g)) ?_
  refine wp_ifb_eq d239_5 (tgt := 23) (by decide) (fun hq9 => absurd (⟨nI_le (by omega) (by omega), nI_lt (by omega) (by omega)⟩ : nI 0 ≤ nI g ∧ nI g < nI nG) hq9) (fun _ => ?_)
  refine wp_aload_n d239_8 rfl ?_
  refine wp_iload_n d239_9 rfl ?_
  refine wp_invvT (e := 94) (j2 := 232) (n := 1) d239_10 (by decide +kernel) (by decide +kernel) rfl rfl rfl (md_0 hR) (by decide +kernel) (Nat.le_of_ble_eq_true rfl) rfl rfl (Nat.le_of_ble_eq_true rfl) (by decide +kernel) (c_isGuard hR (n := nG) h4 (by omega) (nI o)) ?_
  refine wp_ifb_eq d239_13 (tgt := 23) (by decide) (fun hq9 => absurd (⟨nI_le (by omega) (by omega), nI_lt (by omega) (by omega)⟩ : nI 0 ≤ nI o ∧ nI o < nI nG) hq9) (fun _ => ?_)
  refine wp_iload_n d239_16 rfl ?_
  refine wp_invsT (e := 97) (j2 := 233) (n := 1) d239_17 (by decide +kernel) (by decide +kernel) rfl rfl rfl (Nat.le_of_ble_eq_true rfl) (Nat.le_of_ble_eq_true rfl) rfl rfl (Nat.le_of_ble_eq_true rfl) (by decide +kernel) (c_isKey (nI k)) ?_
  refine wp_ifb_ne d239_20 (tgt := 25) (by decide) (fun _ => ?_) (fun hq9 => absurd (⟨nI_le (by omega) (by omega), nI_le (by omega) (by omega)⟩ : nI 0 ≤ nI k ∧ nI k ≤ nI 7) hq9)
  refine wp_iload_n d239_25 rfl ?_
  refine wp_iload_n d239_26 rfl ?_
  refine wp_icmp_ne d239_27 (tgt := 33) (by decide) (fun _ => ?_) (fun hq9 => absurd hq9 (fun q => he ((nI_eq (by omega) (by omega)).mp q)))
  refine wp_aload_n d239_33 rfl ?_
  refine wp_iload_n d239_34 rfl ?_
  refine wp_iconst d239_35 (v := nI 0) (by decide) ?_
  refine wp_invvT (e := 81) (j2 := 227) (n := 2) d239_36 (by decide +kernel) (by decide +kernel) rfl rfl rfl (md_0 hR) (by decide +kernel) (Nat.le_of_ble_eq_true rfl) rfl rfl (Nat.le_of_ble_eq_true rfl) (by decide +kernel) (c_guardPart hR (r := g) (p := 0) (by omega) (by omega)) ?_
  refine wp_if_lt d239_39 (tgt := 66) (by decide) (fun hq9 => absurd hq9 ha) (fun _ => ?_)
  refine wp_aload_n d239_42 rfl ?_
  refine wp_iload_n d239_43 rfl ?_
  refine wp_iconst d239_44 (v := nI 0) (by decide) ?_
  refine wp_invvT (e := 81) (j2 := 227) (n := 2) d239_45 (by decide +kernel) (by decide +kernel) rfl rfl rfl (md_0 hR) (by decide +kernel) (Nat.le_of_ble_eq_true rfl) rfl rfl (Nat.le_of_ble_eq_true rfl) (by decide +kernel) (c_guardPart hR (r := g) (p := 0) (by omega) (by omega)) ?_
  refine wp_aload_n d239_48 rfl ?_
  refine wp_iload_n d239_49 rfl ?_
  refine wp_iconst d239_50 (v := nI 0) (by decide) ?_
  refine wp_invvT (e := 81) (j2 := 227) (n := 2) d239_51 (by decide +kernel) (by decide +kernel) rfl rfl rfl (md_0 hR) (by decide +kernel) (Nat.le_of_ble_eq_true rfl) rfl rfl (Nat.le_of_ble_eq_true rfl) (by decide +kernel) (c_guardPart hR (r := o) (p := 0) (by omega) (by omega)) ?_
  refine wp_icmp_ne d239_54 (tgt := 66) (by decide) (fun hq9 => absurd hb hq9) (fun _ => ?_)
  refine wp_aload_n d239_57 rfl ?_
  refine wp_iload_n d239_58 rfl ?_
  refine wp_iload_n d239_59 rfl ?_
  refine wp_invvT (e := 91) (j2 := 235) (n := 2) d239_60 (by decide +kernel) (by decide +kernel) rfl rfl rfl (md_0 hR) (by decide +kernel) (Nat.le_of_ble_eq_true rfl) rfl rfl (Nat.le_of_ble_eq_true rfl) (by decide +kernel) (c_hasKey hR (g := g) (by omega) (nI k)) ?_
  refine wp_ifb_ne d239_63 (tgt := 69) (by decide) (fun _ => ?_) (fun hq9 => absurd hh hq9)
  refine wp_aload_n d239_69 rfl ?_
  refine wp_iload_n d239_70 rfl ?_
  refine wp_invvT (e := 103) (j2 := 236) (n := 1) d239_71 (by decide +kernel) (by decide +kernel) rfl rfl rfl (md_0 hR) (by decide +kernel) (Nat.le_of_ble_eq_true rfl) rfl rfl (Nat.le_of_ble_eq_true rfl) (by decide +kernel) (tells_eq (c_keysOf hR (g := o) (by omega)) (congrArg (fun z => F_bits z 16) rfl)) ?_
  refine wp_iconst d239_74 (v := nI 3) (by decide) ?_
  refine wp_icmp_ne d239_75 (tgt := 81) (by decide) (fun hq9 => absurd hf hq9) (fun _ => ?_)
  refine wp_bipush d239_78 (v := (-3 : Int32)) (by decide) ?_
  refine wp_iret d239_80 (by decide +kernel) ?_
  exact ⟨rfl, rfl⟩
theorem r_handKey {X : mX} {h : mH} {R : Nat → Nat → Int32} {σ : Nat → Int32} (hR : Ms h R σ) {mi nR nD nG nW nA n : Nat} (hC : Cn σ mi nR nD nG nW nA) (hn : R 0 5 = nI n) (hn4 : n ≤ 4) {g o k : Nat} (hg : g < nG) (ho : o < nG) (hk : k < 8) (he : ¬ g = o) (ha : ¬ σ (192 + 10 * g + 0) < 0) (hb : σ (192 + 10 * g + 0) = σ (192 + 10 * o + 0)) (hh : F_bit (σ (192 + 10 * g + 6)) (nI k)) (hf : ¬ F_bits (σ (192 + 10 * o + 6)) 16 = nI 3) : Does X 239 [.ref 313, .int (nI g), .int (nI o), .int (nI k)] h (F_rec R σ n) (G_turn (G_turn σ g (nI k)) o (nI k)) (some (.int (F_bits (G_turn σ g (nI k) (192 + 10 * o + 6) ^^^ (nI 1 <<< (nI k &&& 31))) 16))) := by
  obtain ⟨⟨h0, hmi⟩, ⟨h2, hR1, hR12⟩, ⟨h3, hD⟩, ⟨h4, hG⟩, ⟨h5, hW⟩, ⟨h6, hA⟩⟩ := hC
  have hF : Frm h h 313 8 := Frm.rf
  refine wp_aload_n d239_0 rfl ?_
  refine wp_iload_n d239_1 rfl ?_
  refine wp_invvT (e := 94) (j2 := 232) (n := 1) d239_2 (by decide +kernel) (by decide +kernel) rfl rfl rfl (md_0 hR) (by decide +kernel) (Nat.le_of_ble_eq_true rfl) rfl rfl (Nat.le_of_ble_eq_true rfl) (by decide +kernel) (c_isGuard hR (n := nG) h4 (by omega) (nI g)) ?_
  refine wp_ifb_eq d239_5 (tgt := 23) (by decide) (fun hq9 => absurd (⟨nI_le (by omega) (by omega), nI_lt (by omega) (by omega)⟩ : nI 0 ≤ nI g ∧ nI g < nI nG) hq9) (fun _ => ?_)
  refine wp_aload_n d239_8 rfl ?_
  refine wp_iload_n d239_9 rfl ?_
  refine wp_invvT (e := 94) (j2 := 232) (n := 1) d239_10 (by decide +kernel) (by decide +kernel) rfl rfl rfl (md_0 hR) (by decide +kernel) (Nat.le_of_ble_eq_true rfl) rfl rfl (Nat.le_of_ble_eq_true rfl) (by decide +kernel) (c_isGuard hR (n := nG) h4 (by omega) (nI o)) ?_
  refine wp_ifb_eq d239_13 (tgt := 23) (by decide) (fun hq9 => absurd (⟨nI_le (by omega) (by omega), nI_lt (by omega) (by omega)⟩ : nI 0 ≤ nI o ∧ nI o < nI nG) hq9) (fun _ => ?_)
  refine wp_iload_n d239_16 rfl ?_
  refine wp_invsT (e := 97) (j2 := 233) (n := 1) d239_17 (by decide +kernel) (by decide +kernel) rfl rfl rfl (Nat.le_of_ble_eq_true rfl) (Nat.le_of_ble_eq_true rfl) rfl rfl (Nat.le_of_ble_eq_true rfl) (by decide +kernel) (c_isKey (nI k)) ?_
  refine wp_ifb_ne d239_20 (tgt := 25) (by decide) (fun _ => ?_) (fun hq9 => absurd (⟨nI_le (by omega) (by omega), nI_le (by omega) (by omega)⟩ : nI 0 ≤ nI k ∧ nI k ≤ nI 7) hq9)
  refine wp_iload_n d239_25 rfl ?_
  refine wp_iload_n d239_26 rfl ?_
  refine wp_icmp_ne d239_27 (tgt := 33) (by decide) (fun _ => ?_) (fun hq9 => absurd hq9 (fun q => he ((nI_eq (by omega) (by omega)).mp q)))
  refine wp_aload_n d239_33 rfl ?_
  refine wp_iload_n d239_34 rfl ?_
  refine wp_iconst d239_35 (v := nI 0) (by decide) ?_
  refine wp_invvT (e := 81) (j2 := 227) (n := 2) d239_36 (by decide +kernel) (by decide +kernel) rfl rfl rfl (md_0 hR) (by decide +kernel) (Nat.le_of_ble_eq_true rfl) rfl rfl (Nat.le_of_ble_eq_true rfl) (by decide +kernel) (c_guardPart hR (r := g) (p := 0) (by omega) (by omega)) ?_
  refine wp_if_lt d239_39 (tgt := 66) (by decide) (fun hq9 => absurd hq9 ha) (fun _ => ?_)
  refine wp_aload_n d239_42 rfl ?_
  refine wp_iload_n d239_43 rfl ?_
  refine wp_iconst d239_44 (v := nI 0) (by decide) ?_
  refine wp_invvT (e := 81) (j2 := 227) (n := 2) d239_45 (by decide +kernel) (by decide +kernel) rfl rfl rfl (md_0 hR) (by decide +kernel) (Nat.le_of_ble_eq_true rfl) rfl rfl (Nat.le_of_ble_eq_true rfl) (by decide +kernel) (c_guardPart hR (r := g) (p := 0) (by omega) (by omega)) ?_
  refine wp_aload_n d239_48 rfl ?_
  refine wp_iload_n d239_49 rfl ?_
  refine wp_iconst d239_50 (v := nI 0) (by decide) ?_
  refine wp_invvT (e := 81) (j2 := 227) (n := 2) d239_51 (by decide +kernel) (by decide +kernel) rfl rfl rfl (md_0 hR) (by decide +kernel) (Nat.le_of_ble_eq_true rfl) rfl rfl (Nat.le_of_ble_eq_true rfl) (by decide +kernel) (c_guardPart hR (r := o) (p := 0) (by omega) (by omega)) ?_
  refine wp_icmp_ne d239_54 (tgt := 66) (by decide) (fun hq9 => absurd hb hq9) (fun _ => ?_)
  refine wp_aload_n d239_57 rfl ?_
  refine wp_iload_n d239_58 rfl ?_
  refine wp_iload_n d239_59 rfl ?_
  refine wp_invvT (e := 91) (j2 := 235) (n := 2) d239_60 (by decide +kernel) (by decide +kernel) rfl rfl rfl (md_0 hR) (by decide +kernel) (Nat.le_of_ble_eq_true rfl) rfl rfl (Nat.le_of_ble_eq_true rfl) (by decide +kernel) (c_hasKey hR (g := g) (by omega) (nI k)) ?_
  refine wp_ifb_ne d239_63 (tgt := 69) (by decide) (fun _ => ?_) (fun hq9 => absurd hh hq9)
  refine wp_aload_n d239_69 rfl ?_
  refine wp_iload_n d239_70 rfl ?_
  refine wp_invvT (e := 103) (j2 := 236) (n := 1) d239_71 (by decide +kernel) (by decide +kernel) rfl rfl rfl (md_0 hR) (by decide +kernel) (Nat.le_of_ble_eq_true rfl) rfl rfl (Nat.le_of_ble_eq_true rfl) (by decide +kernel) (tells_eq (c_keysOf hR (g := o) (by omega)) (congrArg (fun z => F_bits z 16) rfl)) ?_
  refine wp_iconst d239_74 (v := nI 3) (by decide) ?_
  refine wp_icmp_ne d239_75 (tgt := 81) (by decide) (fun _ => ?_) (fun hq9 => absurd hq9 hf)
  refine wp_aload_n d239_81 rfl ?_
  refine wp_invvD (e := 50) (j2 := 212) (n := 0) d239_82 (by decide +kernel) (by decide +kernel) rfl rfl rfl (md_0 hR) (by decide +kernel) (Nat.le_of_ble_eq_true rfl) rfl rfl (Nat.le_of_ble_eq_true rfl) (by decide +kernel) (c_record hR hn hn4) hF ?_
  intro h hR hF
  refine wp_aload_n d239_85 rfl ?_
  refine wp_iload_n d239_86 rfl ?_
  refine wp_iload_n d239_87 rfl ?_
  refine wp_invvD (e := 106) (j2 := 237) (n := 2) d239_88 (by decide +kernel) (by decide +kernel) rfl rfl rfl (md_0 hR) (by decide +kernel) (Nat.le_of_ble_eq_true rfl) rfl rfl (Nat.le_of_ble_eq_true rfl) (by decide +kernel) (c_turnKey hR (g := g) (by omega) (nI k)) hF ?_
  intro h hR hF
  refine wp_aload_n d239_91 rfl ?_
  refine wp_iload_n d239_92 rfl ?_
  refine wp_iload_n d239_93 rfl ?_
  refine wp_invvD (e := 106) (j2 := 237) (n := 2) d239_94 (by decide +kernel) (by decide +kernel) rfl rfl rfl (md_0 hR) (by decide +kernel) (Nat.le_of_ble_eq_true rfl) rfl rfl (Nat.le_of_ble_eq_true rfl) (by decide +kernel) (c_turnKey hR (g := o) (by omega) (nI k)) hF ?_
  intro h hR hF
  refine wp_aload_n d239_97 rfl ?_
  refine wp_iload_n d239_98 rfl ?_
  refine wp_invvT (e := 103) (j2 := 236) (n := 1) d239_99 (by decide +kernel) (by decide +kernel) rfl rfl rfl (md_0 hR) (by decide +kernel) (Nat.le_of_ble_eq_true rfl) rfl rfl (Nat.le_of_ble_eq_true rfl) (by decide +kernel) (tells_eq (c_keysOf hR (g := o) (by omega)) (congrArg (fun z => F_bits z 16) upd_eq)) ?_
  refine wp_iret d239_102 (by decide +kernel) ?_
  exact ⟨rfl, hR, hF⟩
theorem r_go_1a {X : mX} {h : mH} {R : Nat → Nat → Int32} {σ : Nat → Int32} (hR : Ms h R σ) {mi nR nD nG nW nA n : Nat} (hC : Cn σ mi nR nD nG nW nA) (hn : R 0 5 = nI n) (hn4 : n ≤ 4) {x y w : Int32} (hx : ¬ (nI 0 ≤ x ∧ x < nI nG)) : Tells X 240 [.ref 313, .int (x), .int (y), .int (w)] h (-1) := by
  obtain ⟨⟨h0, hmi⟩, ⟨h2, hR1, hR12⟩, ⟨h3, hD⟩, ⟨h4, hG⟩, ⟨h5, hW⟩, ⟨h6, hA⟩⟩ := hC
  refine wp_aload_n d240_0 rfl ?_
  refine wp_iload_n d240_1 rfl ?_
  refine wp_invvT (e := 94) (j2 := 232) (n := 1) d240_2 (by decide +kernel) (by decide +kernel) rfl rfl rfl (md_0 hR) (by decide +kernel) (Nat.le_of_ble_eq_true rfl) rfl rfl (Nat.le_of_ble_eq_true rfl) (by decide +kernel) (c_isGuard hR (n := nG) h4 (by omega) (x)) ?_
  refine wp_ifb_eq d240_5 (tgt := 16) (by decide) (fun _ => ?_) (fun hq9 => absurd hq9 hx)
  refine wp_iconst d240_16 (v := (-1 : Int32)) (by decide) ?_
  refine wp_iret d240_17 (by decide +kernel) ?_
  exact ⟨rfl, rfl⟩
theorem r_go_1b {X : mX} {h : mH} {R : Nat → Nat → Int32} {σ : Nat → Int32} (hR : Ms h R σ) {mi nR nD nG nW nA n : Nat} (hC : Cn σ mi nR nD nG nW nA) (hn : R 0 5 = nI n) (hn4 : n ≤ 4) {x y w : Int32} (hx : nI 0 ≤ x ∧ x < nI nG) (hy : ¬ (nI 0 ≤ y ∧ y < nI nR)) : Tells X 240 [.ref 313, .int (x), .int (y), .int (w)] h (-1) := by
  obtain ⟨⟨h0, hmi⟩, ⟨h2, hR1, hR12⟩, ⟨h3, hD⟩, ⟨h4, hG⟩, ⟨h5, hW⟩, ⟨h6, hA⟩⟩ := hC
  refine wp_aload_n d240_0 rfl ?_
  refine wp_iload_n d240_1 rfl ?_
  refine wp_invvT (e := 94) (j2 := 232) (n := 1) d240_2 (by decide +kernel) (by decide +kernel) rfl rfl rfl (md_0 hR) (by decide +kernel) (Nat.le_of_ble_eq_true rfl) rfl rfl (Nat.le_of_ble_eq_true rfl) (by decide +kernel) (c_isGuard hR (n := nG) h4 (by omega) (x)) ?_
  refine wp_ifb_eq d240_5 (tgt := 16) (by decide) (fun hq9 => absurd hx hq9) (fun _ => ?_)
  refine wp_aload_n d240_8 rfl ?_
  refine wp_iload_n d240_9 rfl ?_
  refine wp_invvT (e := 57) (j2 := 215) (n := 1) d240_10 (by decide +kernel) (by decide +kernel) rfl rfl rfl (md_0 hR) (by decide +kernel) (Nat.le_of_ble_eq_true rfl) rfl rfl (Nat.le_of_ble_eq_true rfl) (by decide +kernel) (c_isRoom hR (n := nR) h2 (by omega) (y)) ?_
  refine wp_ifb_ne d240_13 (tgt := 18) (by decide) (fun hq9 => absurd hq9 hy) (fun _ => ?_)
  refine wp_iconst d240_16 (v := (-1 : Int32)) (by decide) ?_
  refine wp_iret d240_17 (by decide +kernel) ?_
  exact ⟨rfl, rfl⟩
theorem r_go_2 {X : mX} {h : mH} {R : Nat → Nat → Int32} {σ : Nat → Int32} (hR : Ms h R σ) {mi nR nD nG nW nA n : Nat} (hC : Cn σ mi nR nD nG nW nA) (hn : R 0 5 = nI n) (hn4 : n ≤ 4) {x y w : Int32} (hx : nI 0 ≤ x ∧ x < nI nG) (hy : nI 0 ≤ y ∧ y < nI nR) (hw : ¬ (nI 0 ≤ w ∧ w ≤ nI 99)) : Tells X 240 [.ref 313, .int (x), .int (y), .int (w)] h (-2) := by
  obtain ⟨⟨h0, hmi⟩, ⟨h2, hR1, hR12⟩, ⟨h3, hD⟩, ⟨h4, hG⟩, ⟨h5, hW⟩, ⟨h6, hA⟩⟩ := hC
  refine wp_aload_n d240_0 rfl ?_
  refine wp_iload_n d240_1 rfl ?_
  refine wp_invvT (e := 94) (j2 := 232) (n := 1) d240_2 (by decide +kernel) (by decide +kernel) rfl rfl rfl (md_0 hR) (by decide +kernel) (Nat.le_of_ble_eq_true rfl) rfl rfl (Nat.le_of_ble_eq_true rfl) (by decide +kernel) (c_isGuard hR (n := nG) h4 (by omega) (x)) ?_
  refine wp_ifb_eq d240_5 (tgt := 16) (by decide) (fun hq9 => absurd hx hq9) (fun _ => ?_)
  refine wp_aload_n d240_8 rfl ?_
  refine wp_iload_n d240_9 rfl ?_
  refine wp_invvT (e := 57) (j2 := 215) (n := 1) d240_10 (by decide +kernel) (by decide +kernel) rfl rfl rfl (md_0 hR) (by decide +kernel) (Nat.le_of_ble_eq_true rfl) rfl rfl (Nat.le_of_ble_eq_true rfl) (by decide +kernel) (c_isRoom hR (n := nR) h2 (by omega) (y)) ?_
  refine wp_ifb_ne d240_13 (tgt := 18) (by decide) (fun _ => ?_) (fun hq9 => absurd hy hq9)
  refine wp_iload_n d240_18 rfl ?_
  refine wp_iconst d240_19 (v := nI 0) (by decide) ?_
  refine wp_bipush d240_20 (v := nI 99) (by decide) ?_
  refine wp_invsT (e := 39) (j2 := 210) (n := 3) d240_22 (by decide +kernel) (by decide +kernel) rfl rfl rfl (Nat.le_of_ble_eq_true rfl) (Nat.le_of_ble_eq_true rfl) rfl rfl (Nat.le_of_ble_eq_true rfl) (by decide +kernel) (c_within (w) (nI 0) (nI 99)) ?_
  refine wp_ifb_ne d240_25 (tgt := 31) (by decide) (fun hq9 => absurd hq9 hw) (fun _ => ?_)
  refine wp_bipush d240_28 (v := (-2 : Int32)) (by decide) ?_
  refine wp_iret d240_30 (by decide +kernel) ?_
  exact ⟨rfl, rfl⟩
theorem r_go_3 {X : mX} {h : mH} {R : Nat → Nat → Int32} {σ : Nat → Int32} (hR : Ms h R σ) {mi nR nD nG nW nA n : Nat} (hC : Cn σ mi nR nD nG nW nA) (hn : R 0 5 = nI n) (hn4 : n ≤ 4) {g m : Nat} {y w : Int32} (hg : g < nG) (hy : nI 0 ≤ y ∧ y < nI nR) (hw : nI 0 ≤ w ∧ w ≤ nI 99) (hm : σ (192 + 10 * g + 5) = nI m) (hm12 : m ≤ 12) (hf : m = 12) : Tells X 240 [.ref 313, .int (nI g), .int (y), .int (w)] h (-3) := by
  obtain ⟨⟨h0, hmi⟩, ⟨h2, hR1, hR12⟩, ⟨h3, hD⟩, ⟨h4, hG⟩, ⟨h5, hW⟩, ⟨h6, hA⟩⟩ := hC
  refine wp_aload_n d240_0 rfl ?_
  refine wp_iload_n d240_1 rfl ?_
  refine wp_invvT (e := 94) (j2 := 232) (n := 1) d240_2 (by decide +kernel) (by decide +kernel) rfl rfl rfl (md_0 hR) (by decide +kernel) (Nat.le_of_ble_eq_true rfl) rfl rfl (Nat.le_of_ble_eq_true rfl) (by decide +kernel) (c_isGuard hR (n := nG) h4 (by omega) (nI g)) ?_
  refine wp_ifb_eq d240_5 (tgt := 16) (by decide) (fun hq9 => absurd (⟨nI_le (by omega) (by omega), nI_lt (by omega) (by omega)⟩ : nI 0 ≤ nI g ∧ nI g < nI nG) hq9) (fun _ => ?_)
  refine wp_aload_n d240_8 rfl ?_
  refine wp_iload_n d240_9 rfl ?_
  refine wp_invvT (e := 57) (j2 := 215) (n := 1) d240_10 (by decide +kernel) (by decide +kernel) rfl rfl rfl (md_0 hR) (by decide +kernel) (Nat.le_of_ble_eq_true rfl) rfl rfl (Nat.le_of_ble_eq_true rfl) (by decide +kernel) (c_isRoom hR (n := nR) h2 (by omega) (y)) ?_
  refine wp_ifb_ne d240_13 (tgt := 18) (by decide) (fun _ => ?_) (fun hq9 => absurd hy hq9)
  refine wp_iload_n d240_18 rfl ?_
  refine wp_iconst d240_19 (v := nI 0) (by decide) ?_
  refine wp_bipush d240_20 (v := nI 99) (by decide) ?_
  refine wp_invsT (e := 39) (j2 := 210) (n := 3) d240_22 (by decide +kernel) (by decide +kernel) rfl rfl rfl (Nat.le_of_ble_eq_true rfl) (Nat.le_of_ble_eq_true rfl) rfl rfl (Nat.le_of_ble_eq_true rfl) (by decide +kernel) (c_within (w) (nI 0) (nI 99)) ?_
  refine wp_ifb_ne d240_25 (tgt := 31) (by decide) (fun _ => ?_) (fun hq9 => absurd hw hq9)
  refine wp_aload_n d240_31 rfl ?_
  refine wp_iload_n d240_32 rfl ?_
  refine wp_iconst d240_33 (v := nI 5) (by decide) ?_
  refine wp_invvT (e := 81) (j2 := 227) (n := 2) d240_34 (by decide +kernel) (by decide +kernel) rfl rfl rfl (md_0 hR) (by decide +kernel) (Nat.le_of_ble_eq_true rfl) rfl rfl (Nat.le_of_ble_eq_true rfl) (by decide +kernel) (tells_eq (c_guardPart hR (r := g) (p := 5) (by omega) (by omega)) hm) ?_
  refine wp_bipush d240_37 (v := nI 12) (by decide) ?_
  refine wp_icmp_ne d240_39 (tgt := 45) (by decide) (fun hq9 => absurd (by rw [hf] : nI m = nI 12) hq9) (fun _ => ?_)
  refine wp_bipush d240_42 (v := (-3 : Int32)) (by decide) ?_
  refine wp_iret d240_44 (by decide +kernel) ?_
  exact ⟨rfl, rfl⟩
theorem r_go {X : mX} {h : mH} {R : Nat → Nat → Int32} {σ : Nat → Int32} (hR : Ms h R σ) {mi nR nD nG nW nA n : Nat} (hC : Cn σ mi nR nD nG nW nA) (hn : R 0 5 = nI n) (hn4 : n ≤ 4) {g m : Nat} {y w : Int32} (hg : g < nG) (hy : nI 0 ≤ y ∧ y < nI nR) (hw : nI 0 ≤ w ∧ w ≤ nI 99) (hm : σ (192 + 10 * g + 5) = nI m) (hm12 : m ≤ 12) (hf : ¬ m = 12) : Does X 240 [.ref 313, .int (nI g), .int (y), .int (w)] h (F_rec R σ n) (G_put σ g m y w) (some (.int (nI (m + 1)))) := by
  obtain ⟨⟨h0, hmi⟩, ⟨h2, hR1, hR12⟩, ⟨h3, hD⟩, ⟨h4, hG⟩, ⟨h5, hW⟩, ⟨h6, hA⟩⟩ := hC
  have hF : Frm h h 313 8 := Frm.rf
  refine wp_aload_n d240_0 rfl ?_
  refine wp_iload_n d240_1 rfl ?_
  refine wp_invvT (e := 94) (j2 := 232) (n := 1) d240_2 (by decide +kernel) (by decide +kernel) rfl rfl rfl (md_0 hR) (by decide +kernel) (Nat.le_of_ble_eq_true rfl) rfl rfl (Nat.le_of_ble_eq_true rfl) (by decide +kernel) (c_isGuard hR (n := nG) h4 (by omega) (nI g)) ?_
  refine wp_ifb_eq d240_5 (tgt := 16) (by decide) (fun hq9 => absurd (⟨nI_le (by omega) (by omega), nI_lt (by omega) (by omega)⟩ : nI 0 ≤ nI g ∧ nI g < nI nG) hq9) (fun _ => ?_)
  refine wp_aload_n d240_8 rfl ?_
  refine wp_iload_n d240_9 rfl ?_
  refine wp_invvT (e := 57) (j2 := 215) (n := 1) d240_10 (by decide +kernel) (by decide +kernel) rfl rfl rfl (md_0 hR) (by decide +kernel) (Nat.le_of_ble_eq_true rfl) rfl rfl (Nat.le_of_ble_eq_true rfl) (by decide +kernel) (c_isRoom hR (n := nR) h2 (by omega) (y)) ?_
  refine wp_ifb_ne d240_13 (tgt := 18) (by decide) (fun _ => ?_) (fun hq9 => absurd hy hq9)
  refine wp_iload_n d240_18 rfl ?_
  refine wp_iconst d240_19 (v := nI 0) (by decide) ?_
  refine wp_bipush d240_20 (v := nI 99) (by decide) ?_
  refine wp_invsT (e := 39) (j2 := 210) (n := 3) d240_22 (by decide +kernel) (by decide +kernel) rfl rfl rfl (Nat.le_of_ble_eq_true rfl) (Nat.le_of_ble_eq_true rfl) rfl rfl (Nat.le_of_ble_eq_true rfl) (by decide +kernel) (c_within (w) (nI 0) (nI 99)) ?_
  refine wp_ifb_ne d240_25 (tgt := 31) (by decide) (fun _ => ?_) (fun hq9 => absurd hw hq9)
  refine wp_aload_n d240_31 rfl ?_
  refine wp_iload_n d240_32 rfl ?_
  refine wp_iconst d240_33 (v := nI 5) (by decide) ?_
  refine wp_invvT (e := 81) (j2 := 227) (n := 2) d240_34 (by decide +kernel) (by decide +kernel) rfl rfl rfl (md_0 hR) (by decide +kernel) (Nat.le_of_ble_eq_true rfl) rfl rfl (Nat.le_of_ble_eq_true rfl) (by decide +kernel) (tells_eq (c_guardPart hR (r := g) (p := 5) (by omega) (by omega)) hm) ?_
  refine wp_bipush d240_37 (v := nI 12) (by decide) ?_
  refine wp_icmp_ne d240_39 (tgt := 45) (by decide) (fun _ => ?_) (fun hq9 => absurd hq9 (fun q => hf ((nI_eq (by omega) (by omega)).mp q)))
  refine wp_aload_n d240_45 rfl ?_
  refine wp_invvD (e := 50) (j2 := 212) (n := 0) d240_46 (by decide +kernel) (by decide +kernel) rfl rfl rfl (md_0 hR) (by decide +kernel) (Nat.le_of_ble_eq_true rfl) rfl rfl (Nat.le_of_ble_eq_true rfl) (by decide +kernel) (c_record hR hn hn4) hF ?_
  intro h hR hF
  refine wp_aload_n d240_49 rfl ?_
  refine wp_iload_n d240_50 rfl ?_
  refine wp_iload_n d240_51 rfl ?_
  refine wp_iload_n d240_52 rfl ?_
  refine wp_invvD (e := 110) (j2 := 241) (n := 3) d240_53 (by decide +kernel) (by decide +kernel) rfl rfl rfl (md_0 hR) (by decide +kernel) (Nat.le_of_ble_eq_true rfl) rfl rfl (Nat.le_of_ble_eq_true rfl) (by decide +kernel) (c_putOrder hR (g := g) (m := m) (by omega) hm (by omega) (y) (w)) hF ?_
  intro h hR hF
  refine wp_aload_n d240_56 rfl ?_
  refine wp_iload_n d240_57 rfl ?_
  refine wp_iconst d240_58 (v := nI 5) (by decide) ?_
  refine wp_invvT (e := 81) (j2 := 227) (n := 2) d240_59 (by decide +kernel) (by decide +kernel) rfl rfl rfl (md_0 hR) (by decide +kernel) (Nat.le_of_ble_eq_true rfl) rfl rfl (Nat.le_of_ble_eq_true rfl) (by decide +kernel) (tells_eq (c_guardPart hR (r := g) (p := 5) (by omega) (by omega)) upd_eq) ?_
  refine wp_iret d240_62 (by decide +kernel) ?_
  exact ⟨rfl, hR, hF⟩
theorem r_stop_1 {X : mX} {h : mH} {R : Nat → Nat → Int32} {σ : Nat → Int32} (hR : Ms h R σ) {mi nR nD nG nW nA n : Nat} (hC : Cn σ mi nR nD nG nW nA) (hn : R 0 5 = nI n) (hn4 : n ≤ 4) {x : Int32} (hx : ¬ (nI 0 ≤ x ∧ x < nI nG)) : Tells X 242 [.ref 313, .int (x)] h (-1) := by
  obtain ⟨⟨h0, hmi⟩, ⟨h2, hR1, hR12⟩, ⟨h3, hD⟩, ⟨h4, hG⟩, ⟨h5, hW⟩, ⟨h6, hA⟩⟩ := hC
  refine wp_aload_n d242_0 rfl ?_
  refine wp_iload_n d242_1 rfl ?_
  refine wp_invvT (e := 94) (j2 := 232) (n := 1) d242_2 (by decide +kernel) (by decide +kernel) rfl rfl rfl (md_0 hR) (by decide +kernel) (Nat.le_of_ble_eq_true rfl) rfl rfl (Nat.le_of_ble_eq_true rfl) (by decide +kernel) (c_isGuard hR (n := nG) h4 (by omega) (x)) ?_
  refine wp_ifb_ne d242_5 (tgt := 10) (by decide) (fun hq9 => absurd hq9 hx) (fun _ => ?_)
  refine wp_iconst d242_8 (v := (-1 : Int32)) (by decide) ?_
  refine wp_iret d242_9 (by decide +kernel) ?_
  exact ⟨rfl, rfl⟩
theorem r_stop_2 {X : mX} {h : mH} {R : Nat → Nat → Int32} {σ : Nat → Int32} (hR : Ms h R σ) {mi nR nD nG nW nA n : Nat} (hC : Cn σ mi nR nD nG nW nA) (hn : R 0 5 = nI n) (hn4 : n ≤ 4) {g : Nat} (hg : g < nG) (q5 : σ (192 + 10 * g + 5) = 0) (q3 : σ (192 + 10 * g + 3) = 0) : Tells X 242 [.ref 313, .int (nI g)] h (-5) := by
  obtain ⟨⟨h0, hmi⟩, ⟨h2, hR1, hR12⟩, ⟨h3, hD⟩, ⟨h4, hG⟩, ⟨h5, hW⟩, ⟨h6, hA⟩⟩ := hC
  refine wp_aload_n d242_0 rfl ?_
  refine wp_iload_n d242_1 rfl ?_
  refine wp_invvT (e := 94) (j2 := 232) (n := 1) d242_2 (by decide +kernel) (by decide +kernel) rfl rfl rfl (md_0 hR) (by decide +kernel) (Nat.le_of_ble_eq_true rfl) rfl rfl (Nat.le_of_ble_eq_true rfl) (by decide +kernel) (c_isGuard hR (n := nG) h4 (by omega) (nI g)) ?_
  refine wp_ifb_ne d242_5 (tgt := 10) (by decide) (fun _ => ?_) (fun hq9 => absurd (⟨nI_le (by omega) (by omega), nI_lt (by omega) (by omega)⟩ : nI 0 ≤ nI g ∧ nI g < nI nG) hq9)
  refine wp_aload_n d242_10 rfl ?_
  refine wp_iload_n d242_11 rfl ?_
  refine wp_iconst d242_12 (v := nI 5) (by decide) ?_
  refine wp_invvT (e := 81) (j2 := 227) (n := 2) d242_13 (by decide +kernel) (by decide +kernel) rfl rfl rfl (md_0 hR) (by decide +kernel) (Nat.le_of_ble_eq_true rfl) rfl rfl (Nat.le_of_ble_eq_true rfl) (by decide +kernel) (c_guardPart hR (r := g) (p := 5) (by omega) (by omega)) ?_
  refine wp_istore_n d242_16 (Nat.le_of_ble_eq_true rfl) rfl ?_
  refine wp_iload_n d242_17 rfl ?_
  refine wp_if_ne d242_18 (tgt := 33) (by decide) (fun hq9 => absurd q5 hq9) (fun _ => ?_)
  refine wp_aload_n d242_21 rfl ?_
  refine wp_iload_n d242_22 rfl ?_
  refine wp_iconst d242_23 (v := nI 3) (by decide) ?_
  refine wp_invvT (e := 81) (j2 := 227) (n := 2) d242_24 (by decide +kernel) (by decide +kernel) rfl rfl rfl (md_0 hR) (by decide +kernel) (Nat.le_of_ble_eq_true rfl) rfl rfl (Nat.le_of_ble_eq_true rfl) (by decide +kernel) (c_guardPart hR (r := g) (p := 3) (by omega) (by omega)) ?_
  refine wp_if_ne d242_27 (tgt := 33) (by decide) (fun hq9 => absurd q3 hq9) (fun _ => ?_)
  refine wp_bipush d242_30 (v := (-5 : Int32)) (by decide) ?_
  refine wp_iret d242_32 (by decide +kernel) ?_
  exact ⟨rfl, rfl⟩
abbrev R_stop (σ : Nat → Int32) (g : Nat) : Nat → Int32 := G_set (G_set σ g 5 (nI 0)) g 3 (nI 0)
theorem r_stopa {X : mX} {h : mH} {R : Nat → Nat → Int32} {σ : Nat → Int32} (hR : Ms h R σ) {mi nR nD nG nW nA n : Nat} (hC : Cn σ mi nR nD nG nW nA) (hn : R 0 5 = nI n) (hn4 : n ≤ 4) {g : Nat} (hg : g < nG) (q5 : ¬ σ (192 + 10 * g + 5) = 0) : Does X 242 [.ref 313, .int (nI g)] h (F_rec R σ n) (R_stop σ g) (some (.int (σ (192 + 10 * g + 5)))) := by
  obtain ⟨⟨h0, hmi⟩, ⟨h2, hR1, hR12⟩, ⟨h3, hD⟩, ⟨h4, hG⟩, ⟨h5, hW⟩, ⟨h6, hA⟩⟩ := hC
  have hF : Frm h h 313 8 := Frm.rf
  refine wp_aload_n d242_0 rfl ?_
  refine wp_iload_n d242_1 rfl ?_
  refine wp_invvT (e := 94) (j2 := 232) (n := 1) d242_2 (by decide +kernel) (by decide +kernel) rfl rfl rfl (md_0 hR) (by decide +kernel) (Nat.le_of_ble_eq_true rfl) rfl rfl (Nat.le_of_ble_eq_true rfl) (by decide +kernel) (c_isGuard hR (n := nG) h4 (by omega) (nI g)) ?_
  refine wp_ifb_ne d242_5 (tgt := 10) (by decide) (fun _ => ?_) (fun hq9 => absurd (⟨nI_le (by omega) (by omega), nI_lt (by omega) (by omega)⟩ : nI 0 ≤ nI g ∧ nI g < nI nG) hq9)
  refine wp_aload_n d242_10 rfl ?_
  refine wp_iload_n d242_11 rfl ?_
  refine wp_iconst d242_12 (v := nI 5) (by decide) ?_
  refine wp_invvT (e := 81) (j2 := 227) (n := 2) d242_13 (by decide +kernel) (by decide +kernel) rfl rfl rfl (md_0 hR) (by decide +kernel) (Nat.le_of_ble_eq_true rfl) rfl rfl (Nat.le_of_ble_eq_true rfl) (by decide +kernel) (c_guardPart hR (r := g) (p := 5) (by omega) (by omega)) ?_
  refine wp_istore_n d242_16 (Nat.le_of_ble_eq_true rfl) rfl ?_
  refine wp_iload_n d242_17 rfl ?_
  refine wp_if_ne d242_18 (tgt := 33) (by decide) (fun _ => ?_) (fun hq9 => absurd hq9 q5)
  refine wp_aload_n d242_33 rfl ?_
  refine wp_invvD (e := 50) (j2 := 212) (n := 0) d242_34 (by decide +kernel) (by decide +kernel) rfl rfl rfl (md_0 hR) (by decide +kernel) (Nat.le_of_ble_eq_true rfl) rfl rfl (Nat.le_of_ble_eq_true rfl) (by decide +kernel) (c_record hR hn hn4) hF ?_
  intro h hR hF
  refine wp_aload_n d242_37 rfl ?_
  refine wp_iload_n d242_38 rfl ?_
  refine wp_iconst d242_39 (v := nI 5) (by decide) ?_
  refine wp_iconst d242_40 (v := nI 0) (by decide) ?_
  refine wp_invvD (e := 87) (j2 := 230) (n := 3) d242_41 (by decide +kernel) (by decide +kernel) rfl rfl rfl (md_0 hR) (by decide +kernel) (Nat.le_of_ble_eq_true rfl) rfl rfl (Nat.le_of_ble_eq_true rfl) (by decide +kernel) (c_setGuard hR (g := g) (p := 5) (by omega) (by omega) (nI 0)) hF ?_
  intro h hR hF
  refine wp_aload_n d242_44 rfl ?_
  refine wp_iload_n d242_45 rfl ?_
  refine wp_iconst d242_46 (v := nI 3) (by decide) ?_
  refine wp_iconst d242_47 (v := nI 0) (by decide) ?_
  refine wp_invvD (e := 87) (j2 := 230) (n := 3) d242_48 (by decide +kernel) (by decide +kernel) rfl rfl rfl (md_0 hR) (by decide +kernel) (Nat.le_of_ble_eq_true rfl) rfl rfl (Nat.le_of_ble_eq_true rfl) (by decide +kernel) (c_setGuard hR (g := g) (p := 3) (by omega) (by omega) (nI 0)) hF ?_
  intro h hR hF
  refine wp_iload_n d242_51 rfl ?_
  refine wp_iret d242_52 (by decide +kernel) ?_
  exact ⟨rfl, hR, hF⟩
theorem r_stopb {X : mX} {h : mH} {R : Nat → Nat → Int32} {σ : Nat → Int32} (hR : Ms h R σ) {mi nR nD nG nW nA n : Nat} (hC : Cn σ mi nR nD nG nW nA) (hn : R 0 5 = nI n) (hn4 : n ≤ 4) {g : Nat} (hg : g < nG) (q5 : σ (192 + 10 * g + 5) = 0) (q3 : ¬ σ (192 + 10 * g + 3) = 0) : Does X 242 [.ref 313, .int (nI g)] h (F_rec R σ n) (R_stop σ g) (some (.int (σ (192 + 10 * g + 5)))) := by
  obtain ⟨⟨h0, hmi⟩, ⟨h2, hR1, hR12⟩, ⟨h3, hD⟩, ⟨h4, hG⟩, ⟨h5, hW⟩, ⟨h6, hA⟩⟩ := hC
  have hF : Frm h h 313 8 := Frm.rf
  refine wp_aload_n d242_0 rfl ?_
  refine wp_iload_n d242_1 rfl ?_
  refine wp_invvT (e := 94) (j2 := 232) (n := 1) d242_2 (by decide +kernel) (by decide +kernel) rfl rfl rfl (md_0 hR) (by decide +kernel) (Nat.le_of_ble_eq_true rfl) rfl rfl (Nat.le_of_ble_eq_true rfl) (by decide +kernel) (c_isGuard hR (n := nG) h4 (by omega) (nI g)) ?_
  refine wp_ifb_ne d242_5 (tgt := 10) (by decide) (fun _ => ?_) (fun hq9 => absurd (⟨nI_le (by omega) (by omega), nI_lt (by omega) (by omega)⟩ : nI 0 ≤ nI g ∧ nI g < nI nG) hq9)
  refine wp_aload_n d242_10 rfl ?_
  refine wp_iload_n d242_11 rfl ?_
  refine wp_iconst d242_12 (v := nI 5) (by decide) ?_
  refine wp_invvT (e := 81) (j2 := 227) (n := 2) d242_13 (by decide +kernel) (by decide +kernel) rfl rfl rfl (md_0 hR) (by decide +kernel) (Nat.le_of_ble_eq_true rfl) rfl rfl (Nat.le_of_ble_eq_true rfl) (by decide +kernel) (c_guardPart hR (r := g) (p := 5) (by omega) (by omega)) ?_
  refine wp_istore_n d242_16 (Nat.le_of_ble_eq_true rfl) rfl ?_
  refine wp_iload_n d242_17 rfl ?_
  refine wp_if_ne d242_18 (tgt := 33) (by decide) (fun hq9 => absurd q5 hq9) (fun _ => ?_)
  refine wp_aload_n d242_21 rfl ?_
  refine wp_iload_n d242_22 rfl ?_
  refine wp_iconst d242_23 (v := nI 3) (by decide) ?_
  refine wp_invvT (e := 81) (j2 := 227) (n := 2) d242_24 (by decide +kernel) (by decide +kernel) rfl rfl rfl (md_0 hR) (by decide +kernel) (Nat.le_of_ble_eq_true rfl) rfl rfl (Nat.le_of_ble_eq_true rfl) (by decide +kernel) (c_guardPart hR (r := g) (p := 3) (by omega) (by omega)) ?_
  refine wp_if_ne d242_27 (tgt := 33) (by decide) (fun _ => ?_) (fun hq9 => absurd hq9 q3)
  refine wp_aload_n d242_33 rfl ?_
  refine wp_invvD (e := 50) (j2 := 212) (n := 0) d242_34 (by decide +kernel) (by decide +kernel) rfl rfl rfl (md_0 hR) (by decide +kernel) (Nat.le_of_ble_eq_true rfl) rfl rfl (Nat.le_of_ble_eq_true rfl) (by decide +kernel) (c_record hR hn hn4) hF ?_
  intro h hR hF
  refine wp_aload_n d242_37 rfl ?_
  refine wp_iload_n d242_38 rfl ?_
  refine wp_iconst d242_39 (v := nI 5) (by decide) ?_
  refine wp_iconst d242_40 (v := nI 0) (by decide) ?_
  refine wp_invvD (e := 87) (j2 := 230) (n := 3) d242_41 (by decide +kernel) (by decide +kernel) rfl rfl rfl (md_0 hR) (by decide +kernel) (Nat.le_of_ble_eq_true rfl) rfl rfl (Nat.le_of_ble_eq_true rfl) (by decide +kernel) (c_setGuard hR (g := g) (p := 5) (by omega) (by omega) (nI 0)) hF ?_
  intro h hR hF
  refine wp_aload_n d242_44 rfl ?_
  refine wp_iload_n d242_45 rfl ?_
  refine wp_iconst d242_46 (v := nI 3) (by decide) ?_
  refine wp_iconst d242_47 (v := nI 0) (by decide) ?_
  refine wp_invvD (e := 87) (j2 := 230) (n := 3) d242_48 (by decide +kernel) (by decide +kernel) rfl rfl rfl (md_0 hR) (by decide +kernel) (Nat.le_of_ble_eq_true rfl) rfl rfl (Nat.le_of_ble_eq_true rfl) (by decide +kernel) (c_setGuard hR (g := g) (p := 3) (by omega) (by omega) (nI 0)) hF ?_
  intro h hR hF
  refine wp_iload_n d242_51 rfl ?_
  refine wp_iret d242_52 (by decide +kernel) ?_
  exact ⟨rfl, hR, hF⟩
theorem r_addWork_1a {X : mX} {h : mH} {R : Nat → Nat → Int32} {σ : Nat → Int32} (hR : Ms h R σ) {mi nR nD nG nW nA n : Nat} (hC : Cn σ mi nR nD nG nW nA) (hn : R 0 5 = nI n) (hn4 : n ≤ 4) {kd x lm : Int32} (hx : ¬ (nI 0 ≤ x ∧ x < nI nR)) : Tells X 243 [.ref 313, .int (kd), .int (x), .int (lm)] h (-1) := by
  obtain ⟨⟨h0, hmi⟩, ⟨h2, hR1, hR12⟩, ⟨h3, hD⟩, ⟨h4, hG⟩, ⟨h5, hW⟩, ⟨h6, hA⟩⟩ := hC
  refine wp_aload_n d243_0 rfl ?_
  refine wp_iload_n d243_1 rfl ?_
  refine wp_invvT (e := 57) (j2 := 215) (n := 1) d243_2 (by decide +kernel) (by decide +kernel) rfl rfl rfl (md_0 hR) (by decide +kernel) (Nat.le_of_ble_eq_true rfl) rfl rfl (Nat.le_of_ble_eq_true rfl) (by decide +kernel) (c_isRoom hR (n := nR) h2 (by omega) (x)) ?_
  refine wp_ifb_eq d243_5 (tgt := 12) (by decide) (fun _ => ?_) (fun hq9 => absurd hq9 hx)
  refine wp_iconst d243_12 (v := (-1 : Int32)) (by decide) ?_
  refine wp_iret d243_13 (by decide +kernel) ?_
  exact ⟨rfl, rfl⟩
theorem r_addWork_1b {X : mX} {h : mH} {R : Nat → Nat → Int32} {σ : Nat → Int32} (hR : Ms h R σ) {mi nR nD nG nW nA n : Nat} (hC : Cn σ mi nR nD nG nW nA) (hn : R 0 5 = nI n) (hn4 : n ≤ 4) {kd x lm : Int32} (hx : nI 0 ≤ x ∧ x < nI nR) (hz : x = 0) : Tells X 243 [.ref 313, .int (kd), .int (x), .int (lm)] h (-1) := by
  obtain ⟨⟨h0, hmi⟩, ⟨h2, hR1, hR12⟩, ⟨h3, hD⟩, ⟨h4, hG⟩, ⟨h5, hW⟩, ⟨h6, hA⟩⟩ := hC
  refine wp_aload_n d243_0 rfl ?_
  refine wp_iload_n d243_1 rfl ?_
  refine wp_invvT (e := 57) (j2 := 215) (n := 1) d243_2 (by decide +kernel) (by decide +kernel) rfl rfl rfl (md_0 hR) (by decide +kernel) (Nat.le_of_ble_eq_true rfl) rfl rfl (Nat.le_of_ble_eq_true rfl) (by decide +kernel) (c_isRoom hR (n := nR) h2 (by omega) (x)) ?_
  refine wp_ifb_eq d243_5 (tgt := 12) (by decide) (fun hq9 => absurd hx hq9) (fun _ => ?_)
  refine wp_iload_n d243_8 rfl ?_
  refine wp_if_ne d243_9 (tgt := 14) (by decide) (fun hq9 => absurd hz hq9) (fun _ => ?_)
  refine wp_iconst d243_12 (v := (-1 : Int32)) (by decide) ?_
  refine wp_iret d243_13 (by decide +kernel) ?_
  exact ⟨rfl, rfl⟩
theorem r_addWork_2a {X : mX} {h : mH} {R : Nat → Nat → Int32} {σ : Nat → Int32} (hR : Ms h R σ) {mi nR nD nG nW nA n : Nat} (hC : Cn σ mi nR nD nG nW nA) (hn : R 0 5 = nI n) (hn4 : n ≤ 4) {kd x lm : Int32} (hx : nI 0 ≤ x ∧ x < nI nR) (hz : ¬ x = 0) (hk : ¬ (nI 0 ≤ kd ∧ kd ≤ nI 2)) : Tells X 243 [.ref 313, .int (kd), .int (x), .int (lm)] h (-2) := by
  obtain ⟨⟨h0, hmi⟩, ⟨h2, hR1, hR12⟩, ⟨h3, hD⟩, ⟨h4, hG⟩, ⟨h5, hW⟩, ⟨h6, hA⟩⟩ := hC
  refine wp_aload_n d243_0 rfl ?_
  refine wp_iload_n d243_1 rfl ?_
  refine wp_invvT (e := 57) (j2 := 215) (n := 1) d243_2 (by decide +kernel) (by decide +kernel) rfl rfl rfl (md_0 hR) (by decide +kernel) (Nat.le_of_ble_eq_true rfl) rfl rfl (Nat.le_of_ble_eq_true rfl) (by decide +kernel) (c_isRoom hR (n := nR) h2 (by omega) (x)) ?_
  refine wp_ifb_eq d243_5 (tgt := 12) (by decide) (fun hq9 => absurd hx hq9) (fun _ => ?_)
  refine wp_iload_n d243_8 rfl ?_
  refine wp_if_ne d243_9 (tgt := 14) (by decide) (fun _ => ?_) (fun hq9 => absurd hq9 hz)
  refine wp_iload_n d243_14 rfl ?_
  refine wp_iconst d243_15 (v := nI 0) (by decide) ?_
  refine wp_iconst d243_16 (v := nI 2) (by decide) ?_
  refine wp_invsT (e := 39) (j2 := 210) (n := 3) d243_17 (by decide +kernel) (by decide +kernel) rfl rfl rfl (Nat.le_of_ble_eq_true rfl) (Nat.le_of_ble_eq_true rfl) rfl rfl (Nat.le_of_ble_eq_true rfl) (by decide +kernel) (c_within (kd) (nI 0) (nI 2)) ?_
  refine wp_ifb_eq d243_20 (tgt := 33) (by decide) (fun _ => ?_) (fun hq9 => absurd hq9 hk)
  refine wp_bipush d243_33 (v := (-2 : Int32)) (by decide) ?_
  refine wp_iret d243_35 (by decide +kernel) ?_
  exact ⟨rfl, rfl⟩
theorem r_addWork_2b {X : mX} {h : mH} {R : Nat → Nat → Int32} {σ : Nat → Int32} (hR : Ms h R σ) {mi nR nD nG nW nA n : Nat} (hC : Cn σ mi nR nD nG nW nA) (hn : R 0 5 = nI n) (hn4 : n ≤ 4) {kd x lm : Int32} (hx : nI 0 ≤ x ∧ x < nI nR) (hz : ¬ x = 0) (hk : nI 0 ≤ kd ∧ kd ≤ nI 2) (hl : ¬ (nI 0 ≤ lm ∧ lm ≤ nI 99)) : Tells X 243 [.ref 313, .int (kd), .int (x), .int (lm)] h (-2) := by
  obtain ⟨⟨h0, hmi⟩, ⟨h2, hR1, hR12⟩, ⟨h3, hD⟩, ⟨h4, hG⟩, ⟨h5, hW⟩, ⟨h6, hA⟩⟩ := hC
  refine wp_aload_n d243_0 rfl ?_
  refine wp_iload_n d243_1 rfl ?_
  refine wp_invvT (e := 57) (j2 := 215) (n := 1) d243_2 (by decide +kernel) (by decide +kernel) rfl rfl rfl (md_0 hR) (by decide +kernel) (Nat.le_of_ble_eq_true rfl) rfl rfl (Nat.le_of_ble_eq_true rfl) (by decide +kernel) (c_isRoom hR (n := nR) h2 (by omega) (x)) ?_
  refine wp_ifb_eq d243_5 (tgt := 12) (by decide) (fun hq9 => absurd hx hq9) (fun _ => ?_)
  refine wp_iload_n d243_8 rfl ?_
  refine wp_if_ne d243_9 (tgt := 14) (by decide) (fun _ => ?_) (fun hq9 => absurd hq9 hz)
  refine wp_iload_n d243_14 rfl ?_
  refine wp_iconst d243_15 (v := nI 0) (by decide) ?_
  refine wp_iconst d243_16 (v := nI 2) (by decide) ?_
  refine wp_invsT (e := 39) (j2 := 210) (n := 3) d243_17 (by decide +kernel) (by decide +kernel) rfl rfl rfl (Nat.le_of_ble_eq_true rfl) (Nat.le_of_ble_eq_true rfl) rfl rfl (Nat.le_of_ble_eq_true rfl) (by decide +kernel) (c_within (kd) (nI 0) (nI 2)) ?_
  refine wp_ifb_eq d243_20 (tgt := 33) (by decide) (fun hq9 => absurd hk hq9) (fun _ => ?_)
  refine wp_iload_n d243_23 rfl ?_
  refine wp_iconst d243_24 (v := nI 0) (by decide) ?_
  refine wp_bipush d243_25 (v := nI 99) (by decide) ?_
  refine wp_invsT (e := 39) (j2 := 210) (n := 3) d243_27 (by decide +kernel) (by decide +kernel) rfl rfl rfl (Nat.le_of_ble_eq_true rfl) (Nat.le_of_ble_eq_true rfl) rfl rfl (Nat.le_of_ble_eq_true rfl) (by decide +kernel) (c_within (lm) (nI 0) (nI 99)) ?_
  refine wp_ifb_ne d243_30 (tgt := 36) (by decide) (fun hq9 => absurd hq9 hl) (fun _ => ?_)
  refine wp_bipush d243_33 (v := (-2 : Int32)) (by decide) ?_
  refine wp_iret d243_35 (by decide +kernel) ?_
  exact ⟨rfl, rfl⟩
theorem r_addWork_3 {X : mX} {h : mH} {R : Nat → Nat → Int32} {σ : Nat → Int32} (hR : Ms h R σ) {mi nR nD nG nW nA n : Nat} (hC : Cn σ mi nR nD nG nW nA) (hn : R 0 5 = nI n) (hn4 : n ≤ 4) {kd x lm : Int32} (hx : nI 0 ≤ x ∧ x < nI nR) (hz : ¬ x = 0) (hk : nI 0 ≤ kd ∧ kd ≤ nI 2) (hl : nI 0 ≤ lm ∧ lm ≤ nI 99) (hf : nW = 10) : Tells X 243 [.ref 313, .int (kd), .int (x), .int (lm)] h (-3) := by
  obtain ⟨⟨h0, hmi⟩, ⟨h2, hR1, hR12⟩, ⟨h3, hD⟩, ⟨h4, hG⟩, ⟨h5, hW⟩, ⟨h6, hA⟩⟩ := hC
  refine wp_aload_n d243_0 rfl ?_
  refine wp_iload_n d243_1 rfl ?_
  refine wp_invvT (e := 57) (j2 := 215) (n := 1) d243_2 (by decide +kernel) (by decide +kernel) rfl rfl rfl (md_0 hR) (by decide +kernel) (Nat.le_of_ble_eq_true rfl) rfl rfl (Nat.le_of_ble_eq_true rfl) (by decide +kernel) (c_isRoom hR (n := nR) h2 (by omega) (x)) ?_
  refine wp_ifb_eq d243_5 (tgt := 12) (by decide) (fun hq9 => absurd hx hq9) (fun _ => ?_)
  refine wp_iload_n d243_8 rfl ?_
  refine wp_if_ne d243_9 (tgt := 14) (by decide) (fun _ => ?_) (fun hq9 => absurd hq9 hz)
  refine wp_iload_n d243_14 rfl ?_
  refine wp_iconst d243_15 (v := nI 0) (by decide) ?_
  refine wp_iconst d243_16 (v := nI 2) (by decide) ?_
  refine wp_invsT (e := 39) (j2 := 210) (n := 3) d243_17 (by decide +kernel) (by decide +kernel) rfl rfl rfl (Nat.le_of_ble_eq_true rfl) (Nat.le_of_ble_eq_true rfl) rfl rfl (Nat.le_of_ble_eq_true rfl) (by decide +kernel) (c_within (kd) (nI 0) (nI 2)) ?_
  refine wp_ifb_eq d243_20 (tgt := 33) (by decide) (fun hq9 => absurd hk hq9) (fun _ => ?_)
  refine wp_iload_n d243_23 rfl ?_
  refine wp_iconst d243_24 (v := nI 0) (by decide) ?_
  refine wp_bipush d243_25 (v := nI 99) (by decide) ?_
  refine wp_invsT (e := 39) (j2 := 210) (n := 3) d243_27 (by decide +kernel) (by decide +kernel) rfl rfl rfl (Nat.le_of_ble_eq_true rfl) (Nat.le_of_ble_eq_true rfl) rfl rfl (Nat.le_of_ble_eq_true rfl) (by decide +kernel) (c_within (lm) (nI 0) (nI 99)) ?_
  refine wp_ifb_ne d243_30 (tgt := 36) (by decide) (fun _ => ?_) (fun hq9 => absurd hl hq9)
  refine wp_aload_n d243_36 rfl ?_
  refine wp_getf (e := 7) (ci := 12) (k := 0) (nest := false) d243_37 (by decide +kernel) (md_0 hR) rfl ?_
  refine wp_iconst d243_40 (v := nI 5) (by decide) ?_
  refine wp_iald d243_41 (md_1 hR) (nI_in (by omega) (by decide)) (v := nI nW) ((congrArg σ (nI_nat (by omega))).trans h5) ?_
  refine wp_bipush d243_42 (v := nI 10) (by decide) ?_
  refine wp_icmp_ne d243_44 (tgt := 50) (by decide) (fun hq9 => absurd (by rw [hf] : nI nW = nI 10) hq9) (fun _ => ?_)
  refine wp_bipush d243_47 (v := (-3 : Int32)) (by decide) ?_
  refine wp_iret d243_49 (by decide +kernel) ?_
  exact ⟨rfl, rfl⟩
def R_addWork (σ : Nat → Int32) (w : Nat) (kd x lm : Int32) : Nat → Int32 := upd (upd (upd (upd (upd (upd σ (328 + 5 * w + 0) kd) (328 + 5 * w + 1) x) (328 + 5 * w + 2) lm) (328 + 5 * w + 3) (nI 0)) (328 + 5 * w + 4) (nI 0)) 5 (nI (w + 1))
theorem r_addWork {X : mX} {h : mH} {R : Nat → Nat → Int32} {σ : Nat → Int32} (hR : Ms h R σ) {mi nR nD nG nW nA n : Nat} (hC : Cn σ mi nR nD nG nW nA) (hn : R 0 5 = nI n) (hn4 : n ≤ 4) {kd x lm : Int32} (hx : nI 0 ≤ x ∧ x < nI nR) (hz : ¬ x = 0) (hk : nI 0 ≤ kd ∧ kd ≤ nI 2) (hl : nI 0 ≤ lm ∧ lm ≤ nI 99) (hf : ¬ nW = 10) : Does X 243 [.ref 313, .int (kd), .int (x), .int (lm)] h (F_rec R σ n) (R_addWork σ nW kd x lm) (some (.int (nI nW))) := by
  obtain ⟨⟨h0, hmi⟩, ⟨h2, hR1, hR12⟩, ⟨h3, hD⟩, ⟨h4, hG⟩, ⟨h5, hW⟩, ⟨h6, hA⟩⟩ := hC
  have hF : Frm h h 313 8 := Frm.rf
  refine wp_aload_n d243_0 rfl ?_
  refine wp_iload_n d243_1 rfl ?_
  refine wp_invvT (e := 57) (j2 := 215) (n := 1) d243_2 (by decide +kernel) (by decide +kernel) rfl rfl rfl (md_0 hR) (by decide +kernel) (Nat.le_of_ble_eq_true rfl) rfl rfl (Nat.le_of_ble_eq_true rfl) (by decide +kernel) (c_isRoom hR (n := nR) h2 (by omega) (x)) ?_
  refine wp_ifb_eq d243_5 (tgt := 12) (by decide) (fun hq9 => absurd hx hq9) (fun _ => ?_)
  refine wp_iload_n d243_8 rfl ?_
  refine wp_if_ne d243_9 (tgt := 14) (by decide) (fun _ => ?_) (fun hq9 => absurd hq9 hz)
  refine wp_iload_n d243_14 rfl ?_
  refine wp_iconst d243_15 (v := nI 0) (by decide) ?_
  refine wp_iconst d243_16 (v := nI 2) (by decide) ?_
  refine wp_invsT (e := 39) (j2 := 210) (n := 3) d243_17 (by decide +kernel) (by decide +kernel) rfl rfl rfl (Nat.le_of_ble_eq_true rfl) (Nat.le_of_ble_eq_true rfl) rfl rfl (Nat.le_of_ble_eq_true rfl) (by decide +kernel) (c_within (kd) (nI 0) (nI 2)) ?_
  refine wp_ifb_eq d243_20 (tgt := 33) (by decide) (fun hq9 => absurd hk hq9) (fun _ => ?_)
  refine wp_iload_n d243_23 rfl ?_
  refine wp_iconst d243_24 (v := nI 0) (by decide) ?_
  refine wp_bipush d243_25 (v := nI 99) (by decide) ?_
  refine wp_invsT (e := 39) (j2 := 210) (n := 3) d243_27 (by decide +kernel) (by decide +kernel) rfl rfl rfl (Nat.le_of_ble_eq_true rfl) (Nat.le_of_ble_eq_true rfl) rfl rfl (Nat.le_of_ble_eq_true rfl) (by decide +kernel) (c_within (lm) (nI 0) (nI 99)) ?_
  refine wp_ifb_ne d243_30 (tgt := 36) (by decide) (fun _ => ?_) (fun hq9 => absurd hl hq9)
  refine wp_aload_n d243_36 rfl ?_
  refine wp_getf (e := 7) (ci := 12) (k := 0) (nest := false) d243_37 (by decide +kernel) (md_0 hR) rfl ?_
  refine wp_iconst d243_40 (v := nI 5) (by decide) ?_
  refine wp_iald d243_41 (md_1 hR) (nI_in (by omega) (by decide)) (v := nI nW) ((congrArg σ (nI_nat (by omega))).trans h5) ?_
  refine wp_bipush d243_42 (v := nI 10) (by decide) ?_
  refine wp_icmp_ne d243_44 (tgt := 50) (by decide) (fun _ => ?_) (fun hq9 => absurd hq9 (fun q => hf ((nI_eq (by omega) (by omega)).mp q)))
  refine wp_aload_n d243_50 rfl ?_
  refine wp_invvD (e := 50) (j2 := 212) (n := 0) d243_51 (by decide +kernel) (by decide +kernel) rfl rfl rfl (md_0 hR) (by decide +kernel) (Nat.le_of_ble_eq_true rfl) rfl rfl (Nat.le_of_ble_eq_true rfl) (by decide +kernel) (c_record hR hn hn4) hF ?_
  intro h hR hF
  refine wp_aload_n d243_54 rfl ?_
  refine wp_getf (e := 7) (ci := 12) (k := 0) (nest := false) d243_55 (by decide +kernel) (md_0 hR) rfl ?_
  refine wp_iconst d243_58 (v := nI 5) (by decide) ?_
  refine wp_iald d243_59 (md_1 hR) (nI_in (by omega) (by decide)) (v := nI nW) ((congrArg σ (nI_nat (by omega))).trans h5) ?_
  refine wp_istore d243_60 (Nat.le_of_ble_eq_true rfl) rfl ?_
  refine wp_aload_n d243_62 rfl ?_
  refine wp_getf (e := 7) (ci := 12) (k := 0) (nest := false) d243_63 (by decide +kernel) (md_0 hR) rfl ?_
  refine wp_sipush d243_66 (v := nI 328) (by decide) ?_
  refine wp_iconst d243_69 (v := nI 5) (by decide) ?_
  refine wp_iload d243_70 rfl ?_
  refine wp_imulv d243_72 (v := nI (5 * nW)) (nI_mul _ _) ?_
  refine wp_iaddv d243_73 (v := nI (328 + 5 * nW)) (nI_add _ _) ?_
  refine wp_iconst d243_74 (v := nI 0) (by decide) ?_
  refine wp_iaddv d243_75 (v := nI (328 + 5 * nW + 0)) (nI_add _ _) ?_
  refine wp_iload_n d243_76 rfl ?_
  refine wp_stS d243_77 hR hF (k := 328 + 5 * nW + 0) (by omega) (fun h hR hF => ?_)
  refine wp_aload_n d243_78 rfl ?_
  refine wp_getf (e := 7) (ci := 12) (k := 0) (nest := false) d243_79 (by decide +kernel) (md_0 hR) rfl ?_
  refine wp_sipush d243_82 (v := nI 328) (by decide) ?_
  refine wp_iconst d243_85 (v := nI 5) (by decide) ?_
  refine wp_iload d243_86 rfl ?_
  refine wp_imulv d243_88 (v := nI (5 * nW)) (nI_mul _ _) ?_
  refine wp_iaddv d243_89 (v := nI (328 + 5 * nW)) (nI_add _ _) ?_
  refine wp_iconst d243_90 (v := nI 1) (by decide) ?_
  refine wp_iaddv d243_91 (v := nI (328 + 5 * nW + 1)) (nI_add _ _) ?_
  refine wp_iload_n d243_92 rfl ?_
  refine wp_stS d243_93 hR hF (k := 328 + 5 * nW + 1) (by omega) (fun h hR hF => ?_)
  refine wp_aload_n d243_94 rfl ?_
  refine wp_getf (e := 7) (ci := 12) (k := 0) (nest := false) d243_95 (by decide +kernel) (md_0 hR) rfl ?_
  refine wp_sipush d243_98 (v := nI 328) (by decide) ?_
  refine wp_iconst d243_101 (v := nI 5) (by decide) ?_
  refine wp_iload d243_102 rfl ?_
  refine wp_imulv d243_104 (v := nI (5 * nW)) (nI_mul _ _) ?_
  refine wp_iaddv d243_105 (v := nI (328 + 5 * nW)) (nI_add _ _) ?_
  refine wp_iconst d243_106 (v := nI 2) (by decide) ?_
  refine wp_iaddv d243_107 (v := nI (328 + 5 * nW + 2)) (nI_add _ _) ?_
  refine wp_iload_n d243_108 rfl ?_
  refine wp_stS d243_109 hR hF (k := 328 + 5 * nW + 2) (by omega) (fun h hR hF => ?_)
  refine wp_aload_n d243_110 rfl ?_
  refine wp_getf (e := 7) (ci := 12) (k := 0) (nest := false) d243_111 (by decide +kernel) (md_0 hR) rfl ?_
  refine wp_sipush d243_114 (v := nI 328) (by decide) ?_
  refine wp_iconst d243_117 (v := nI 5) (by decide) ?_
  refine wp_iload d243_118 rfl ?_
  refine wp_imulv d243_120 (v := nI (5 * nW)) (nI_mul _ _) ?_
  refine wp_iaddv d243_121 (v := nI (328 + 5 * nW)) (nI_add _ _) ?_
  refine wp_iconst d243_122 (v := nI 3) (by decide) ?_
  refine wp_iaddv d243_123 (v := nI (328 + 5 * nW + 3)) (nI_add _ _) ?_
  refine wp_iconst d243_124 (v := nI 0) (by decide) ?_
  refine wp_stS d243_125 hR hF (k := 328 + 5 * nW + 3) (by omega) (fun h hR hF => ?_)
  refine wp_aload_n d243_126 rfl ?_
  refine wp_getf (e := 7) (ci := 12) (k := 0) (nest := false) d243_127 (by decide +kernel) (md_0 hR) rfl ?_
  refine wp_sipush d243_130 (v := nI 328) (by decide) ?_
  refine wp_iconst d243_133 (v := nI 5) (by decide) ?_
  refine wp_iload d243_134 rfl ?_
  refine wp_imulv d243_136 (v := nI (5 * nW)) (nI_mul _ _) ?_
  refine wp_iaddv d243_137 (v := nI (328 + 5 * nW)) (nI_add _ _) ?_
  refine wp_iconst d243_138 (v := nI 4) (by decide) ?_
  refine wp_iaddv d243_139 (v := nI (328 + 5 * nW + 4)) (nI_add _ _) ?_
  refine wp_iconst d243_140 (v := nI 0) (by decide) ?_
  refine wp_stS d243_141 hR hF (k := 328 + 5 * nW + 4) (by omega) (fun h hR hF => ?_)
  refine wp_aload_n d243_142 rfl ?_
  refine wp_getf (e := 7) (ci := 12) (k := 0) (nest := false) d243_143 (by decide +kernel) (md_0 hR) rfl ?_
  refine wp_iconst d243_146 (v := nI 5) (by decide) ?_
  refine wp_dup2 d243_147 rfl rfl ?_
  refine wp_iald d243_148 (md_1 hR) (nI_in (by omega) (by decide)) (v := nI nW) ((congrArg ((upd (upd (upd (upd (upd σ (328 + 5 * nW + 0) (kd)) (328 + 5 * nW + 1) (x)) (328 + 5 * nW + 2) (lm)) (328 + 5 * nW + 3) (nI 0)) (328 + 5 * nW + 4) (nI 0))) (nI_nat (by omega))).trans ((upd_ne (by omega)).trans ((upd_ne (by omega)).trans ((upd_ne (by omega)).trans ((upd_ne (by omega)).trans ((upd_ne (by omega)).trans h5)))))) ?_
  refine wp_iconst d243_149 (v := nI 1) (by decide) ?_
  refine wp_iaddv d243_150 (v := nI (nW + 1)) (nI_add _ _) ?_
  refine wp_stS d243_151 hR hF (k := 5) (by omega) (fun h hR hF => ?_)
  refine wp_iload d243_152 rfl ?_
  refine wp_iret d243_154 (by decide +kernel) ?_
  exact ⟨rfl, hR, hF⟩
theorem r_moveWork_1a {X : mX} {h : mH} {R : Nat → Nat → Int32} {σ : Nat → Int32} (hR : Ms h R σ) {mi nR nD nG nW nA n : Nat} (hC : Cn σ mi nR nD nG nW nA) (hn : R 0 5 = nI n) (hn4 : n ≤ 4) {x y : Int32} (hx : ¬ (nI 0 ≤ x ∧ x < nI nW)) : Tells X 244 [.ref 313, .int (x), .int (y)] h (-1) := by
  obtain ⟨⟨h0, hmi⟩, ⟨h2, hR1, hR12⟩, ⟨h3, hD⟩, ⟨h4, hG⟩, ⟨h5, hW⟩, ⟨h6, hA⟩⟩ := hC
  refine wp_aload_n d244_0 rfl ?_
  refine wp_iload_n d244_1 rfl ?_
  refine wp_invvT (e := 113) (j2 := 245) (n := 1) d244_2 (by decide +kernel) (by decide +kernel) rfl rfl rfl (md_0 hR) (by decide +kernel) (Nat.le_of_ble_eq_true rfl) rfl rfl (Nat.le_of_ble_eq_true rfl) (by decide +kernel) (c_isWork hR (n := nW) h5 (by omega) (x)) ?_
  refine wp_ifb_eq d244_5 (tgt := 20) (by decide) (fun _ => ?_) (fun hq9 => absurd hq9 hx)
  refine wp_iconst d244_20 (v := (-1 : Int32)) (by decide) ?_
  refine wp_iret d244_21 (by decide +kernel) ?_
  exact ⟨rfl, rfl⟩
theorem r_moveWork_1b {X : mX} {h : mH} {R : Nat → Nat → Int32} {σ : Nat → Int32} (hR : Ms h R σ) {mi nR nD nG nW nA n : Nat} (hC : Cn σ mi nR nD nG nW nA) (hn : R 0 5 = nI n) (hn4 : n ≤ 4) {x y : Int32} (hx : nI 0 ≤ x ∧ x < nI nW) (hy : ¬ (nI 0 ≤ y ∧ y < nI nR)) : Tells X 244 [.ref 313, .int (x), .int (y)] h (-1) := by
  obtain ⟨⟨h0, hmi⟩, ⟨h2, hR1, hR12⟩, ⟨h3, hD⟩, ⟨h4, hG⟩, ⟨h5, hW⟩, ⟨h6, hA⟩⟩ := hC
  refine wp_aload_n d244_0 rfl ?_
  refine wp_iload_n d244_1 rfl ?_
  refine wp_invvT (e := 113) (j2 := 245) (n := 1) d244_2 (by decide +kernel) (by decide +kernel) rfl rfl rfl (md_0 hR) (by decide +kernel) (Nat.le_of_ble_eq_true rfl) rfl rfl (Nat.le_of_ble_eq_true rfl) (by decide +kernel) (c_isWork hR (n := nW) h5 (by omega) (x)) ?_
  refine wp_ifb_eq d244_5 (tgt := 20) (by decide) (fun hq9 => absurd hx hq9) (fun _ => ?_)
  refine wp_aload_n d244_8 rfl ?_
  refine wp_iload_n d244_9 rfl ?_
  refine wp_invvT (e := 57) (j2 := 215) (n := 1) d244_10 (by decide +kernel) (by decide +kernel) rfl rfl rfl (md_0 hR) (by decide +kernel) (Nat.le_of_ble_eq_true rfl) rfl rfl (Nat.le_of_ble_eq_true rfl) (by decide +kernel) (c_isRoom hR (n := nR) h2 (by omega) (y)) ?_
  refine wp_ifb_eq d244_13 (tgt := 20) (by decide) (fun _ => ?_) (fun hq9 => absurd hq9 hy)
  refine wp_iconst d244_20 (v := (-1 : Int32)) (by decide) ?_
  refine wp_iret d244_21 (by decide +kernel) ?_
  exact ⟨rfl, rfl⟩
theorem r_moveWork_1c {X : mX} {h : mH} {R : Nat → Nat → Int32} {σ : Nat → Int32} (hR : Ms h R σ) {mi nR nD nG nW nA n : Nat} (hC : Cn σ mi nR nD nG nW nA) (hn : R 0 5 = nI n) (hn4 : n ≤ 4) {x y : Int32} (hx : nI 0 ≤ x ∧ x < nI nW) (hy : nI 0 ≤ y ∧ y < nI nR) (hz : y = 0) : Tells X 244 [.ref 313, .int (x), .int (y)] h (-1) := by
  obtain ⟨⟨h0, hmi⟩, ⟨h2, hR1, hR12⟩, ⟨h3, hD⟩, ⟨h4, hG⟩, ⟨h5, hW⟩, ⟨h6, hA⟩⟩ := hC
  refine wp_aload_n d244_0 rfl ?_
  refine wp_iload_n d244_1 rfl ?_
  refine wp_invvT (e := 113) (j2 := 245) (n := 1) d244_2 (by decide +kernel) (by decide +kernel) rfl rfl rfl (md_0 hR) (by decide +kernel) (Nat.le_of_ble_eq_true rfl) rfl rfl (Nat.le_of_ble_eq_true rfl) (by decide +kernel) (c_isWork hR (n := nW) h5 (by omega) (x)) ?_
  refine wp_ifb_eq d244_5 (tgt := 20) (by decide) (fun hq9 => absurd hx hq9) (fun _ => ?_)
  refine wp_aload_n d244_8 rfl ?_
  refine wp_iload_n d244_9 rfl ?_
  refine wp_invvT (e := 57) (j2 := 215) (n := 1) d244_10 (by decide +kernel) (by decide +kernel) rfl rfl rfl (md_0 hR) (by decide +kernel) (Nat.le_of_ble_eq_true rfl) rfl rfl (Nat.le_of_ble_eq_true rfl) (by decide +kernel) (c_isRoom hR (n := nR) h2 (by omega) (y)) ?_
  refine wp_ifb_eq d244_13 (tgt := 20) (by decide) (fun hq9 => absurd hy hq9) (fun _ => ?_)
  refine wp_iload_n d244_16 rfl ?_
  refine wp_if_ne d244_17 (tgt := 22) (by decide) (fun hq9 => absurd hz hq9) (fun _ => ?_)
  refine wp_iconst d244_20 (v := (-1 : Int32)) (by decide) ?_
  refine wp_iret d244_21 (by decide +kernel) ?_
  exact ⟨rfl, rfl⟩
theorem r_moveWork_2a {X : mX} {h : mH} {R : Nat → Nat → Int32} {σ : Nat → Int32} (hR : Ms h R σ) {mi nR nD nG nW nA n : Nat} (hC : Cn σ mi nR nD nG nW nA) (hn : R 0 5 = nI n) (hn4 : n ≤ 4) {w : Nat} {y : Int32} (hw : w < nW) (hy : nI 0 ≤ y ∧ y < nI nR) (hz : ¬ y = 0) (hs : σ (328 + 5 * w + 3) = nI 2) : Tells X 244 [.ref 313, .int (nI w), .int (y)] h (-4) := by
  obtain ⟨⟨h0, hmi⟩, ⟨h2, hR1, hR12⟩, ⟨h3, hD⟩, ⟨h4, hG⟩, ⟨h5, hW⟩, ⟨h6, hA⟩⟩ := hC
  refine wp_aload_n d244_0 rfl ?_
  refine wp_iload_n d244_1 rfl ?_
  refine wp_invvT (e := 113) (j2 := 245) (n := 1) d244_2 (by decide +kernel) (by decide +kernel) rfl rfl rfl (md_0 hR) (by decide +kernel) (Nat.le_of_ble_eq_true rfl) rfl rfl (Nat.le_of_ble_eq_true rfl) (by decide +kernel) (c_isWork hR (n := nW) h5 (by omega) (nI w)) ?_
  refine wp_ifb_eq d244_5 (tgt := 20) (by decide) (fun hq9 => absurd (⟨nI_le (by omega) (by omega), nI_lt (by omega) (by omega)⟩ : nI 0 ≤ nI w ∧ nI w < nI nW) hq9) (fun _ => ?_)
  refine wp_aload_n d244_8 rfl ?_
  refine wp_iload_n d244_9 rfl ?_
  refine wp_invvT (e := 57) (j2 := 215) (n := 1) d244_10 (by decide +kernel) (by decide +kernel) rfl rfl rfl (md_0 hR) (by decide +kernel) (Nat.le_of_ble_eq_true rfl) rfl rfl (Nat.le_of_ble_eq_true rfl) (by decide +kernel) (c_isRoom hR (n := nR) h2 (by omega) (y)) ?_
  refine wp_ifb_eq d244_13 (tgt := 20) (by decide) (fun hq9 => absurd hy hq9) (fun _ => ?_)
  refine wp_iload_n d244_16 rfl ?_
  refine wp_if_ne d244_17 (tgt := 22) (by decide) (fun _ => ?_) (fun hq9 => absurd hq9 hz)
  refine wp_aload_n d244_22 rfl ?_
  refine wp_iload_n d244_23 rfl ?_
  refine wp_iconst d244_24 (v := nI 1) (by decide) ?_
  refine wp_invvT (e := 116) (j2 := 246) (n := 2) d244_25 (by decide +kernel) (by decide +kernel) rfl rfl rfl (md_0 hR) (by decide +kernel) (Nat.le_of_ble_eq_true rfl) rfl rfl (Nat.le_of_ble_eq_true rfl) (by decide +kernel) (c_workPart hR (r := w) (p := 1) (by omega) (by omega)) ?_
  refine wp_istore_n d244_28 (Nat.le_of_ble_eq_true rfl) rfl ?_
  refine wp_aload_n d244_29 rfl ?_
  refine wp_iload_n d244_30 rfl ?_
  refine wp_iload_n d244_31 rfl ?_
  refine wp_invvT (e := 60) (j2 := 216) (n := 2) d244_32 (by decide +kernel) (by decide +kernel) rfl rfl rfl (md_0 hR) (by decide +kernel) (Nat.le_of_ble_eq_true rfl) rfl rfl (Nat.le_of_ble_eq_true rfl) (by decide +kernel) (c_doorBetween hR h3 hD (σ (328 + 5 * w + 1)) (y)) ?_
  refine wp_istore d244_35 (Nat.le_of_ble_eq_true rfl) rfl ?_
  refine wp_aload_n d244_37 rfl ?_
  refine wp_iload_n d244_38 rfl ?_
  refine wp_iconst d244_39 (v := nI 3) (by decide) ?_
  refine wp_invvT (e := 116) (j2 := 246) (n := 2) d244_40 (by decide +kernel) (by decide +kernel) rfl rfl rfl (md_0 hR) (by decide +kernel) (Nat.le_of_ble_eq_true rfl) rfl rfl (Nat.le_of_ble_eq_true rfl) (by decide +kernel) (c_workPart hR (r := w) (p := 3) (by omega) (by omega)) ?_
  refine wp_iconst d244_43 (v := nI 2) (by decide) ?_
  refine wp_icmp_eq d244_44 (tgt := 62) (by decide) (fun _ => ?_) (fun hq9 => absurd hs hq9)
  refine wp_bipush d244_62 (v := (-4 : Int32)) (by decide) ?_
  refine wp_iret d244_64 (by decide +kernel) ?_
  exact ⟨rfl, rfl⟩
theorem r_moveWork_2b {X : mX} {h : mH} {R : Nat → Nat → Int32} {σ : Nat → Int32} (hR : Ms h R σ) {mi nR nD nG nW nA n : Nat} (hC : Cn σ mi nR nD nG nW nA) (hn : R 0 5 = nI n) (hn4 : n ≤ 4) {w : Nat} {y : Int32} (hw : w < nW) (hy : nI 0 ≤ y ∧ y < nI nR) (hz : ¬ y = 0) (hs : ¬ σ (328 + 5 * w + 3) = nI 2) (hgi : F_gi σ (σ (328 + 5 * w + 1)) nG = 0) : Tells X 244 [.ref 313, .int (nI w), .int (y)] h (-4) := by
  obtain ⟨⟨h0, hmi⟩, ⟨h2, hR1, hR12⟩, ⟨h3, hD⟩, ⟨h4, hG⟩, ⟨h5, hW⟩, ⟨h6, hA⟩⟩ := hC
  refine wp_aload_n d244_0 rfl ?_
  refine wp_iload_n d244_1 rfl ?_
  refine wp_invvT (e := 113) (j2 := 245) (n := 1) d244_2 (by decide +kernel) (by decide +kernel) rfl rfl rfl (md_0 hR) (by decide +kernel) (Nat.le_of_ble_eq_true rfl) rfl rfl (Nat.le_of_ble_eq_true rfl) (by decide +kernel) (c_isWork hR (n := nW) h5 (by omega) (nI w)) ?_
  refine wp_ifb_eq d244_5 (tgt := 20) (by decide) (fun hq9 => absurd (⟨nI_le (by omega) (by omega), nI_lt (by omega) (by omega)⟩ : nI 0 ≤ nI w ∧ nI w < nI nW) hq9) (fun _ => ?_)
  refine wp_aload_n d244_8 rfl ?_
  refine wp_iload_n d244_9 rfl ?_
  refine wp_invvT (e := 57) (j2 := 215) (n := 1) d244_10 (by decide +kernel) (by decide +kernel) rfl rfl rfl (md_0 hR) (by decide +kernel) (Nat.le_of_ble_eq_true rfl) rfl rfl (Nat.le_of_ble_eq_true rfl) (by decide +kernel) (c_isRoom hR (n := nR) h2 (by omega) (y)) ?_
  refine wp_ifb_eq d244_13 (tgt := 20) (by decide) (fun hq9 => absurd hy hq9) (fun _ => ?_)
  refine wp_iload_n d244_16 rfl ?_
  refine wp_if_ne d244_17 (tgt := 22) (by decide) (fun _ => ?_) (fun hq9 => absurd hq9 hz)
  refine wp_aload_n d244_22 rfl ?_
  refine wp_iload_n d244_23 rfl ?_
  refine wp_iconst d244_24 (v := nI 1) (by decide) ?_
  refine wp_invvT (e := 116) (j2 := 246) (n := 2) d244_25 (by decide +kernel) (by decide +kernel) rfl rfl rfl (md_0 hR) (by decide +kernel) (Nat.le_of_ble_eq_true rfl) rfl rfl (Nat.le_of_ble_eq_true rfl) (by decide +kernel) (c_workPart hR (r := w) (p := 1) (by omega) (by omega)) ?_
  refine wp_istore_n d244_28 (Nat.le_of_ble_eq_true rfl) rfl ?_
  refine wp_aload_n d244_29 rfl ?_
  refine wp_iload_n d244_30 rfl ?_
  refine wp_iload_n d244_31 rfl ?_
  refine wp_invvT (e := 60) (j2 := 216) (n := 2) d244_32 (by decide +kernel) (by decide +kernel) rfl rfl rfl (md_0 hR) (by decide +kernel) (Nat.le_of_ble_eq_true rfl) rfl rfl (Nat.le_of_ble_eq_true rfl) (by decide +kernel) (c_doorBetween hR h3 hD (σ (328 + 5 * w + 1)) (y)) ?_
  refine wp_istore d244_35 (Nat.le_of_ble_eq_true rfl) rfl ?_
  refine wp_aload_n d244_37 rfl ?_
  refine wp_iload_n d244_38 rfl ?_
  refine wp_iconst d244_39 (v := nI 3) (by decide) ?_
  refine wp_invvT (e := 116) (j2 := 246) (n := 2) d244_40 (by decide +kernel) (by decide +kernel) rfl rfl rfl (md_0 hR) (by decide +kernel) (Nat.le_of_ble_eq_true rfl) rfl rfl (Nat.le_of_ble_eq_true rfl) (by decide +kernel) (c_workPart hR (r := w) (p := 3) (by omega) (by omega)) ?_
  refine wp_iconst d244_43 (v := nI 2) (by decide) ?_
  refine wp_icmp_eq d244_44 (tgt := 62) (by decide) (fun hq9 => absurd hq9 hs) (fun _ => ?_)
  refine wp_aload_n d244_47 rfl ?_
  refine wp_iload_n d244_48 rfl ?_
  refine wp_invvT (e := 119) (j2 := 247) (n := 1) d244_49 (by decide +kernel) (by decide +kernel) rfl rfl rfl (md_0 hR) (by decide +kernel) (Nat.le_of_ble_eq_true rfl) rfl rfl (Nat.le_of_ble_eq_true rfl) (by decide +kernel) (c_guardsIn hR h4 hG (σ (328 + 5 * w + 1))) ?_
  refine wp_if_eq d244_52 (tgt := 62) (by decide) (fun _ => ?_) (fun hq9 => absurd (by rw [hgi]; rfl : nI (F_gi σ (σ (328 + 5 * w + 1)) nG) = 0) hq9)
  refine wp_bipush d244_62 (v := (-4 : Int32)) (by decide) ?_
  refine wp_iret d244_64 (by decide +kernel) ?_
  exact ⟨rfl, rfl⟩
theorem r_moveWork_2c {X : mX} {h : mH} {R : Nat → Nat → Int32} {σ : Nat → Int32} (hR : Ms h R σ) {mi nR nD nG nW nA n : Nat} (hC : Cn σ mi nR nD nG nW nA) (hn : R 0 5 = nI n) (hn4 : n ≤ 4) {w : Nat} {y : Int32} (hw : w < nW) (hy : nI 0 ≤ y ∧ y < nI nR) (hz : ¬ y = 0) (hs : ¬ σ (328 + 5 * w + 3) = nI 2) (hgi : 0 < F_gi σ (σ (328 + 5 * w + 1)) nG) (hd : F_db σ (σ (328 + 5 * w + 1)) y nD = -5) : Tells X 244 [.ref 313, .int (nI w), .int (y)] h (-4) := by
  obtain ⟨⟨h0, hmi⟩, ⟨h2, hR1, hR12⟩, ⟨h3, hD⟩, ⟨h4, hG⟩, ⟨h5, hW⟩, ⟨h6, hA⟩⟩ := hC
  refine wp_aload_n d244_0 rfl ?_
  refine wp_iload_n d244_1 rfl ?_
  refine wp_invvT (e := 113) (j2 := 245) (n := 1) d244_2 (by decide +kernel) (by decide +kernel) rfl rfl rfl (md_0 hR) (by decide +kernel) (Nat.le_of_ble_eq_true rfl) rfl rfl (Nat.le_of_ble_eq_true rfl) (by decide +kernel) (c_isWork hR (n := nW) h5 (by omega) (nI w)) ?_
  refine wp_ifb_eq d244_5 (tgt := 20) (by decide) (fun hq9 => absurd (⟨nI_le (by omega) (by omega), nI_lt (by omega) (by omega)⟩ : nI 0 ≤ nI w ∧ nI w < nI nW) hq9) (fun _ => ?_)
  refine wp_aload_n d244_8 rfl ?_
  refine wp_iload_n d244_9 rfl ?_
  refine wp_invvT (e := 57) (j2 := 215) (n := 1) d244_10 (by decide +kernel) (by decide +kernel) rfl rfl rfl (md_0 hR) (by decide +kernel) (Nat.le_of_ble_eq_true rfl) rfl rfl (Nat.le_of_ble_eq_true rfl) (by decide +kernel) (c_isRoom hR (n := nR) h2 (by omega) (y)) ?_
  refine wp_ifb_eq d244_13 (tgt := 20) (by decide) (fun hq9 => absurd hy hq9) (fun _ => ?_)
  refine wp_iload_n d244_16 rfl ?_
  refine wp_if_ne d244_17 (tgt := 22) (by decide) (fun _ => ?_) (fun hq9 => absurd hq9 hz)
  refine wp_aload_n d244_22 rfl ?_
  refine wp_iload_n d244_23 rfl ?_
  refine wp_iconst d244_24 (v := nI 1) (by decide) ?_
  refine wp_invvT (e := 116) (j2 := 246) (n := 2) d244_25 (by decide +kernel) (by decide +kernel) rfl rfl rfl (md_0 hR) (by decide +kernel) (Nat.le_of_ble_eq_true rfl) rfl rfl (Nat.le_of_ble_eq_true rfl) (by decide +kernel) (c_workPart hR (r := w) (p := 1) (by omega) (by omega)) ?_
  refine wp_istore_n d244_28 (Nat.le_of_ble_eq_true rfl) rfl ?_
  refine wp_aload_n d244_29 rfl ?_
  refine wp_iload_n d244_30 rfl ?_
  refine wp_iload_n d244_31 rfl ?_
  refine wp_invvT (e := 60) (j2 := 216) (n := 2) d244_32 (by decide +kernel) (by decide +kernel) rfl rfl rfl (md_0 hR) (by decide +kernel) (Nat.le_of_ble_eq_true rfl) rfl rfl (Nat.le_of_ble_eq_true rfl) (by decide +kernel) (c_doorBetween hR h3 hD (σ (328 + 5 * w + 1)) (y)) ?_
  refine wp_istore d244_35 (Nat.le_of_ble_eq_true rfl) rfl ?_
  refine wp_aload_n d244_37 rfl ?_
  refine wp_iload_n d244_38 rfl ?_
  refine wp_iconst d244_39 (v := nI 3) (by decide) ?_
  refine wp_invvT (e := 116) (j2 := 246) (n := 2) d244_40 (by decide +kernel) (by decide +kernel) rfl rfl rfl (md_0 hR) (by decide +kernel) (Nat.le_of_ble_eq_true rfl) rfl rfl (Nat.le_of_ble_eq_true rfl) (by decide +kernel) (c_workPart hR (r := w) (p := 3) (by omega) (by omega)) ?_
  refine wp_iconst d244_43 (v := nI 2) (by decide) ?_
  refine wp_icmp_eq d244_44 (tgt := 62) (by decide) (fun hq9 => absurd hq9 hs) (fun _ => ?_)
  refine wp_aload_n d244_47 rfl ?_
  refine wp_iload_n d244_48 rfl ?_
  refine wp_invvT (e := 119) (j2 := 247) (n := 1) d244_49 (by decide +kernel) (by decide +kernel) rfl rfl rfl (md_0 hR) (by decide +kernel) (Nat.le_of_ble_eq_true rfl) rfl rfl (Nat.le_of_ble_eq_true rfl) (by decide +kernel) (c_guardsIn hR h4 hG (σ (328 + 5 * w + 1))) ?_
  refine wp_if_eq d244_52 (tgt := 62) (by decide) (fun hq9 => absurd hq9 (nI_ne0 hgi (by have := F_gi_le σ (σ (328 + 5 * w + 1)) nG; omega))) (fun _ => ?_)
  refine wp_iload d244_55 rfl ?_
  refine wp_bipush d244_57 (v := (-5 : Int32)) (by decide) ?_
  refine wp_icmp_ne d244_59 (tgt := 65) (by decide) (fun hq9 => absurd hd hq9) (fun _ => ?_)
  refine wp_bipush d244_62 (v := (-4 : Int32)) (by decide) ?_
  refine wp_iret d244_64 (by decide +kernel) ?_
  exact ⟨rfl, rfl⟩
theorem r_moveWork {X : mX} {h : mH} {R : Nat → Nat → Int32} {σ : Nat → Int32} (hR : Ms h R σ) {mi nR nD nG nW nA n : Nat} (hC : Cn σ mi nR nD nG nW nA) (hn : R 0 5 = nI n) (hn4 : n ≤ 4) {w : Nat} {y : Int32} (hw : w < nW) (hy : nI 0 ≤ y ∧ y < nI nR) (hz : ¬ y = 0) (hs : ¬ σ (328 + 5 * w + 3) = nI 2) (hgi : 0 < F_gi σ (σ (328 + 5 * w + 1)) nG) {d : Nat} (hdn : d < nD) (hdd : F_db σ (σ (328 + 5 * w + 1)) y nD = nI d) : Does X 244 [.ref 313, .int (nI w), .int (y)] h (F_rec R σ n) (upd σ (328 + 5 * w + 1) y) (some (.int (σ (92 + 5 * d + 2)))) := by
  obtain ⟨⟨h0, hmi⟩, ⟨h2, hR1, hR12⟩, ⟨h3, hD⟩, ⟨h4, hG⟩, ⟨h5, hW⟩, ⟨h6, hA⟩⟩ := hC
  have hF : Frm h h 313 8 := Frm.rf
  refine wp_aload_n d244_0 rfl ?_
  refine wp_iload_n d244_1 rfl ?_
  refine wp_invvT (e := 113) (j2 := 245) (n := 1) d244_2 (by decide +kernel) (by decide +kernel) rfl rfl rfl (md_0 hR) (by decide +kernel) (Nat.le_of_ble_eq_true rfl) rfl rfl (Nat.le_of_ble_eq_true rfl) (by decide +kernel) (c_isWork hR (n := nW) h5 (by omega) (nI w)) ?_
  refine wp_ifb_eq d244_5 (tgt := 20) (by decide) (fun hq9 => absurd (⟨nI_le (by omega) (by omega), nI_lt (by omega) (by omega)⟩ : nI 0 ≤ nI w ∧ nI w < nI nW) hq9) (fun _ => ?_)
  refine wp_aload_n d244_8 rfl ?_
  refine wp_iload_n d244_9 rfl ?_
  refine wp_invvT (e := 57) (j2 := 215) (n := 1) d244_10 (by decide +kernel) (by decide +kernel) rfl rfl rfl (md_0 hR) (by decide +kernel) (Nat.le_of_ble_eq_true rfl) rfl rfl (Nat.le_of_ble_eq_true rfl) (by decide +kernel) (c_isRoom hR (n := nR) h2 (by omega) (y)) ?_
  refine wp_ifb_eq d244_13 (tgt := 20) (by decide) (fun hq9 => absurd hy hq9) (fun _ => ?_)
  refine wp_iload_n d244_16 rfl ?_
  refine wp_if_ne d244_17 (tgt := 22) (by decide) (fun _ => ?_) (fun hq9 => absurd hq9 hz)
  refine wp_aload_n d244_22 rfl ?_
  refine wp_iload_n d244_23 rfl ?_
  refine wp_iconst d244_24 (v := nI 1) (by decide) ?_
  refine wp_invvT (e := 116) (j2 := 246) (n := 2) d244_25 (by decide +kernel) (by decide +kernel) rfl rfl rfl (md_0 hR) (by decide +kernel) (Nat.le_of_ble_eq_true rfl) rfl rfl (Nat.le_of_ble_eq_true rfl) (by decide +kernel) (c_workPart hR (r := w) (p := 1) (by omega) (by omega)) ?_
  refine wp_istore_n d244_28 (Nat.le_of_ble_eq_true rfl) rfl ?_
  refine wp_aload_n d244_29 rfl ?_
  refine wp_iload_n d244_30 rfl ?_
  refine wp_iload_n d244_31 rfl ?_
  refine wp_invvT (e := 60) (j2 := 216) (n := 2) d244_32 (by decide +kernel) (by decide +kernel) rfl rfl rfl (md_0 hR) (by decide +kernel) (Nat.le_of_ble_eq_true rfl) rfl rfl (Nat.le_of_ble_eq_true rfl) (by decide +kernel) (tells_eq (c_doorBetween hR h3 hD (σ (328 + 5 * w + 1)) (y)) hdd) ?_
  refine wp_istore d244_35 (Nat.le_of_ble_eq_true rfl) rfl ?_
  refine wp_aload_n d244_37 rfl ?_
  refine wp_iload_n d244_38 rfl ?_
  refine wp_iconst d244_39 (v := nI 3) (by decide) ?_
  refine wp_invvT (e := 116) (j2 := 246) (n := 2) d244_40 (by decide +kernel) (by decide +kernel) rfl rfl rfl (md_0 hR) (by decide +kernel) (Nat.le_of_ble_eq_true rfl) rfl rfl (Nat.le_of_ble_eq_true rfl) (by decide +kernel) (c_workPart hR (r := w) (p := 3) (by omega) (by omega)) ?_
  refine wp_iconst d244_43 (v := nI 2) (by decide) ?_
  refine wp_icmp_eq d244_44 (tgt := 62) (by decide) (fun hq9 => absurd hq9 hs) (fun _ => ?_)
  refine wp_aload_n d244_47 rfl ?_
  refine wp_iload_n d244_48 rfl ?_
  refine wp_invvT (e := 119) (j2 := 247) (n := 1) d244_49 (by decide +kernel) (by decide +kernel) rfl rfl rfl (md_0 hR) (by decide +kernel) (Nat.le_of_ble_eq_true rfl) rfl rfl (Nat.le_of_ble_eq_true rfl) (by decide +kernel) (c_guardsIn hR h4 hG (σ (328 + 5 * w + 1))) ?_
  refine wp_if_eq d244_52 (tgt := 62) (by decide) (fun hq9 => absurd hq9 (nI_ne0 hgi (by have := F_gi_le σ (σ (328 + 5 * w + 1)) nG; omega))) (fun _ => ?_)
  refine wp_iload d244_55 rfl ?_
  refine wp_bipush d244_57 (v := (-5 : Int32)) (by decide) ?_
  refine wp_icmp_ne d244_59 (tgt := 65) (by decide) (fun _ => ?_) (fun hq9 => absurd hq9 (nI_ne5 (by omega)))
  refine wp_aload_n d244_65 rfl ?_
  refine wp_invvD (e := 50) (j2 := 212) (n := 0) d244_66 (by decide +kernel) (by decide +kernel) rfl rfl rfl (md_0 hR) (by decide +kernel) (Nat.le_of_ble_eq_true rfl) rfl rfl (Nat.le_of_ble_eq_true rfl) (by decide +kernel) (c_record hR hn hn4) hF ?_
  intro h hR hF
  refine wp_aload_n d244_69 rfl ?_
  refine wp_getf (e := 7) (ci := 12) (k := 0) (nest := false) d244_70 (by decide +kernel) (md_0 hR) rfl ?_
  refine wp_sipush d244_73 (v := nI 328) (by decide) ?_
  refine wp_iconst d244_76 (v := nI 5) (by decide) ?_
  refine wp_iload_n d244_77 rfl ?_
  refine wp_imulv d244_78 (v := nI (5 * w)) (nI_mul _ _) ?_
  refine wp_iaddv d244_79 (v := nI (328 + 5 * w)) (nI_add _ _) ?_
  refine wp_iconst d244_80 (v := nI 1) (by decide) ?_
  refine wp_iaddv d244_81 (v := nI (328 + 5 * w + 1)) (nI_add _ _) ?_
  refine wp_iload_n d244_82 rfl ?_
  refine wp_stS d244_83 hR hF (k := 328 + 5 * w + 1) (by omega) (fun h hR hF => ?_)
  refine wp_aload_n d244_84 rfl ?_
  refine wp_iload d244_85 rfl ?_
  refine wp_iconst d244_87 (v := nI 2) (by decide) ?_
  refine wp_invvT (e := 53) (j2 := 217) (n := 2) d244_88 (by decide +kernel) (by decide +kernel) rfl rfl rfl (md_0 hR) (by decide +kernel) (Nat.le_of_ble_eq_true rfl) rfl rfl (Nat.le_of_ble_eq_true rfl) (by decide +kernel) (tells_eq (c_doorPart hR (r := d) (p := 2) (by omega) (by omega)) ((upd_ne (by omega)).trans rfl)) ?_
  refine wp_iret d244_91 (by decide +kernel) ?_
  exact ⟨rfl, hR, hF⟩
theorem r_takeAway_1 {X : mX} {h : mH} {R : Nat → Nat → Int32} {σ : Nat → Int32} (hR : Ms h R σ) {mi nR nD nG nW nA n : Nat} (hC : Cn σ mi nR nD nG nW nA) (hn : R 0 5 = nI n) (hn4 : n ≤ 4) {x : Int32} (hx : ¬ (nI 0 ≤ x ∧ x < nI nW)) : Tells X 248 [.ref 313, .int (x)] h (-1) := by
  obtain ⟨⟨h0, hmi⟩, ⟨h2, hR1, hR12⟩, ⟨h3, hD⟩, ⟨h4, hG⟩, ⟨h5, hW⟩, ⟨h6, hA⟩⟩ := hC
  refine wp_aload_n d248_0 rfl ?_
  refine wp_iload_n d248_1 rfl ?_
  refine wp_invvT (e := 113) (j2 := 245) (n := 1) d248_2 (by decide +kernel) (by decide +kernel) rfl rfl rfl (md_0 hR) (by decide +kernel) (Nat.le_of_ble_eq_true rfl) rfl rfl (Nat.le_of_ble_eq_true rfl) (by decide +kernel) (c_isWork hR (n := nW) h5 (by omega) (x)) ?_
  refine wp_ifb_ne d248_5 (tgt := 12) (by decide) (fun hq9 => absurd hq9 hx) (fun _ => ?_)
  refine wp_iconst d248_8 (v := (-1 : Int32)) (by decide) ?_
  refine wp_goto d248_9 (tgt := 28) (by decide) ?_
  refine wp_istore_n d248_28 (Nat.le_of_ble_eq_true rfl) rfl ?_
  refine wp_iload_n d248_29 rfl ?_
  refine wp_if_ge d248_30 (tgt := 35) (by decide) (fun hz => absurd hz (by decide)) (fun _ => ?_)
  refine wp_iload_n d248_33 rfl ?_
  refine wp_iret d248_34 (by decide +kernel) ?_
  exact ⟨rfl, rfl⟩
theorem r_takeAway_2 {X : mX} {h : mH} {R : Nat → Nat → Int32} {σ : Nat → Int32} (hR : Ms h R σ) {mi nR nD nG nW nA n : Nat} (hC : Cn σ mi nR nD nG nW nA) (hn : R 0 5 = nI n) (hn4 : n ≤ 4) {w : Nat} (hw : w < nW) (hs : σ (328 + 5 * w + 3) = nI 2) : Tells X 248 [.ref 313, .int (nI w)] h (-5) := by
  obtain ⟨⟨h0, hmi⟩, ⟨h2, hR1, hR12⟩, ⟨h3, hD⟩, ⟨h4, hG⟩, ⟨h5, hW⟩, ⟨h6, hA⟩⟩ := hC
  refine wp_aload_n d248_0 rfl ?_
  refine wp_iload_n d248_1 rfl ?_
  refine wp_invvT (e := 113) (j2 := 245) (n := 1) d248_2 (by decide +kernel) (by decide +kernel) rfl rfl rfl (md_0 hR) (by decide +kernel) (Nat.le_of_ble_eq_true rfl) rfl rfl (Nat.le_of_ble_eq_true rfl) (by decide +kernel) (c_isWork hR (n := nW) h5 (by omega) (nI w)) ?_
  refine wp_ifb_ne d248_5 (tgt := 12) (by decide) (fun _ => ?_) (fun hq9 => absurd (⟨nI_le (by omega) (by omega), nI_lt (by omega) (by omega)⟩ : nI 0 ≤ nI w ∧ nI w < nI nW) hq9)
  refine wp_aload_n d248_12 rfl ?_
  refine wp_iload_n d248_13 rfl ?_
  refine wp_iconst d248_14 (v := nI 3) (by decide) ?_
  refine wp_invvT (e := 116) (j2 := 246) (n := 2) d248_15 (by decide +kernel) (by decide +kernel) rfl rfl rfl (md_0 hR) (by decide +kernel) (Nat.le_of_ble_eq_true rfl) rfl rfl (Nat.le_of_ble_eq_true rfl) (by decide +kernel) (c_workPart hR (r := w) (p := 3) (by omega) (by omega)) ?_
  refine wp_iconst d248_18 (v := nI 2) (by decide) ?_
  refine wp_icmp_ne d248_19 (tgt := 27) (by decide) (fun hq9 => absurd hs hq9) (fun _ => ?_)
  refine wp_bipush d248_22 (v := (-5 : Int32)) (by decide) ?_
  refine wp_goto d248_24 (tgt := 28) (by decide) ?_
  refine wp_istore_n d248_28 (Nat.le_of_ble_eq_true rfl) rfl ?_
  refine wp_iload_n d248_29 rfl ?_
  refine wp_if_ge d248_30 (tgt := 35) (by decide) (fun hz => absurd hz (by decide)) (fun _ => ?_)
  refine wp_iload_n d248_33 rfl ?_
  refine wp_iret d248_34 (by decide +kernel) ?_
  exact ⟨rfl, rfl⟩
theorem r_takeAway {X : mX} {h : mH} {R : Nat → Nat → Int32} {σ : Nat → Int32} (hR : Ms h R σ) {mi nR nD nG nW nA n : Nat} (hC : Cn σ mi nR nD nG nW nA) (hn : R 0 5 = nI n) (hn4 : n ≤ 4) {w : Nat} (hw : w < nW) (hs : ¬ σ (328 + 5 * w + 3) = nI 2) : Does X 248 [.ref 313, .int (nI w)] h (F_rec R σ n) (upd σ (328 + 5 * w + 3) (nI 2)) (some (.int (σ (328 + 5 * w + 3)))) := by
  obtain ⟨⟨h0, hmi⟩, ⟨h2, hR1, hR12⟩, ⟨h3, hD⟩, ⟨h4, hG⟩, ⟨h5, hW⟩, ⟨h6, hA⟩⟩ := hC
  have hF : Frm h h 313 8 := Frm.rf
  refine wp_aload_n d248_0 rfl ?_
  refine wp_iload_n d248_1 rfl ?_
  refine wp_invvT (e := 113) (j2 := 245) (n := 1) d248_2 (by decide +kernel) (by decide +kernel) rfl rfl rfl (md_0 hR) (by decide +kernel) (Nat.le_of_ble_eq_true rfl) rfl rfl (Nat.le_of_ble_eq_true rfl) (by decide +kernel) (c_isWork hR (n := nW) h5 (by omega) (nI w)) ?_
  refine wp_ifb_ne d248_5 (tgt := 12) (by decide) (fun _ => ?_) (fun hq9 => absurd (⟨nI_le (by omega) (by omega), nI_lt (by omega) (by omega)⟩ : nI 0 ≤ nI w ∧ nI w < nI nW) hq9)
  refine wp_aload_n d248_12 rfl ?_
  refine wp_iload_n d248_13 rfl ?_
  refine wp_iconst d248_14 (v := nI 3) (by decide) ?_
  refine wp_invvT (e := 116) (j2 := 246) (n := 2) d248_15 (by decide +kernel) (by decide +kernel) rfl rfl rfl (md_0 hR) (by decide +kernel) (Nat.le_of_ble_eq_true rfl) rfl rfl (Nat.le_of_ble_eq_true rfl) (by decide +kernel) (c_workPart hR (r := w) (p := 3) (by omega) (by omega)) ?_
  refine wp_iconst d248_18 (v := nI 2) (by decide) ?_
  refine wp_icmp_ne d248_19 (tgt := 27) (by decide) (fun _ => ?_) (fun hq9 => absurd hq9 hs)
  refine wp_iconst d248_27 (v := nI 0) (by decide) ?_
  refine wp_istore_n d248_28 (Nat.le_of_ble_eq_true rfl) rfl ?_
  refine wp_iload_n d248_29 rfl ?_
  refine wp_if_ge d248_30 (tgt := 35) (by decide) (fun _ => ?_) (fun hz => absurd hz (by decide))
  refine wp_aload_n d248_35 rfl ?_
  refine wp_invvD (e := 50) (j2 := 212) (n := 0) d248_36 (by decide +kernel) (by decide +kernel) rfl rfl rfl (md_0 hR) (by decide +kernel) (Nat.le_of_ble_eq_true rfl) rfl rfl (Nat.le_of_ble_eq_true rfl) (by decide +kernel) (c_record hR hn hn4) hF ?_
  intro h hR hF
  refine wp_aload_n d248_39 rfl ?_
  refine wp_iload_n d248_40 rfl ?_
  refine wp_iconst d248_41 (v := nI 3) (by decide) ?_
  refine wp_invvT (e := 116) (j2 := 246) (n := 2) d248_42 (by decide +kernel) (by decide +kernel) rfl rfl rfl (md_0 hR) (by decide +kernel) (Nat.le_of_ble_eq_true rfl) rfl rfl (Nat.le_of_ble_eq_true rfl) (by decide +kernel) (c_workPart hR (r := w) (p := 3) (by omega) (by omega)) ?_
  refine wp_istore_n d248_45 (Nat.le_of_ble_eq_true rfl) rfl ?_
  refine wp_aload_n d248_46 rfl ?_
  refine wp_getf (e := 7) (ci := 12) (k := 0) (nest := false) d248_47 (by decide +kernel) (md_0 hR) rfl ?_
  refine wp_sipush d248_50 (v := nI 328) (by decide) ?_
  refine wp_iconst d248_53 (v := nI 5) (by decide) ?_
  refine wp_iload_n d248_54 rfl ?_
  refine wp_imulv d248_55 (v := nI (5 * w)) (nI_mul _ _) ?_
  refine wp_iaddv d248_56 (v := nI (328 + 5 * w)) (nI_add _ _) ?_
  refine wp_iconst d248_57 (v := nI 3) (by decide) ?_
  refine wp_iaddv d248_58 (v := nI (328 + 5 * w + 3)) (nI_add _ _) ?_
  refine wp_iconst d248_59 (v := nI 2) (by decide) ?_
  refine wp_stS d248_60 hR hF (k := 328 + 5 * w + 3) (by omega) (fun h hR hF => ?_)
  refine wp_iload_n d248_61 rfl ?_
  refine wp_iret d248_62 (by decide +kernel) ?_
  exact ⟨rfl, hR, hF⟩
theorem r_clearAlarm_1a {X : mX} {h : mH} {R : Nat → Nat → Int32} {σ : Nat → Int32} (hR : Ms h R σ) {mi nR nD nG nW nA n : Nat} (hC : Cn σ mi nR nD nG nW nA) (hn : R 0 5 = nI n) (hn4 : n ≤ 4) {x y : Int32} (hx : ¬ (nI 0 ≤ x ∧ x < nI nA)) : Tells X 249 [.ref 313, .int (x), .int (y)] h (-1) := by
  obtain ⟨⟨h0, hmi⟩, ⟨h2, hR1, hR12⟩, ⟨h3, hD⟩, ⟨h4, hG⟩, ⟨h5, hW⟩, ⟨h6, hA⟩⟩ := hC
  refine wp_aload_n d249_0 rfl ?_
  refine wp_iload_n d249_1 rfl ?_
  refine wp_invvT (e := 122) (j2 := 250) (n := 1) d249_2 (by decide +kernel) (by decide +kernel) rfl rfl rfl (md_0 hR) (by decide +kernel) (Nat.le_of_ble_eq_true rfl) rfl rfl (Nat.le_of_ble_eq_true rfl) (by decide +kernel) (c_isAlarm hR (n := nA) h6 (by omega) (x)) ?_
  refine wp_ifb_eq d249_5 (tgt := 16) (by decide) (fun _ => ?_) (fun hq9 => absurd hq9 hx)
  refine wp_iconst d249_16 (v := (-1 : Int32)) (by decide) ?_
  refine wp_iret d249_17 (by decide +kernel) ?_
  exact ⟨rfl, rfl⟩
theorem r_clearAlarm_1b {X : mX} {h : mH} {R : Nat → Nat → Int32} {σ : Nat → Int32} (hR : Ms h R σ) {mi nR nD nG nW nA n : Nat} (hC : Cn σ mi nR nD nG nW nA) (hn : R 0 5 = nI n) (hn4 : n ≤ 4) {x y : Int32} (hx : nI 0 ≤ x ∧ x < nI nA) (hy : ¬ (nI 0 ≤ y ∧ y < nI nG)) : Tells X 249 [.ref 313, .int (x), .int (y)] h (-1) := by
  obtain ⟨⟨h0, hmi⟩, ⟨h2, hR1, hR12⟩, ⟨h3, hD⟩, ⟨h4, hG⟩, ⟨h5, hW⟩, ⟨h6, hA⟩⟩ := hC
  refine wp_aload_n d249_0 rfl ?_
  refine wp_iload_n d249_1 rfl ?_
  refine wp_invvT (e := 122) (j2 := 250) (n := 1) d249_2 (by decide +kernel) (by decide +kernel) rfl rfl rfl (md_0 hR) (by decide +kernel) (Nat.le_of_ble_eq_true rfl) rfl rfl (Nat.le_of_ble_eq_true rfl) (by decide +kernel) (c_isAlarm hR (n := nA) h6 (by omega) (x)) ?_
  refine wp_ifb_eq d249_5 (tgt := 16) (by decide) (fun hq9 => absurd hx hq9) (fun _ => ?_)
  refine wp_aload_n d249_8 rfl ?_
  refine wp_iload_n d249_9 rfl ?_
  refine wp_invvT (e := 94) (j2 := 232) (n := 1) d249_10 (by decide +kernel) (by decide +kernel) rfl rfl rfl (md_0 hR) (by decide +kernel) (Nat.le_of_ble_eq_true rfl) rfl rfl (Nat.le_of_ble_eq_true rfl) (by decide +kernel) (c_isGuard hR (n := nG) h4 (by omega) (y)) ?_
  refine wp_ifb_ne d249_13 (tgt := 18) (by decide) (fun hq9 => absurd hq9 hy) (fun _ => ?_)
  refine wp_iconst d249_16 (v := (-1 : Int32)) (by decide) ?_
  refine wp_iret d249_17 (by decide +kernel) ?_
  exact ⟨rfl, rfl⟩
theorem r_clearAlarm_2 {X : mX} {h : mH} {R : Nat → Nat → Int32} {σ : Nat → Int32} (hR : Ms h R σ) {mi nR nD nG nW nA n : Nat} (hC : Cn σ mi nR nD nG nW nA) (hn : R 0 5 = nI n) (hn4 : n ≤ 4) {a g : Nat} (ha : a < nA) (hg : g < nG) (he : ¬ σ (192 + 10 * g + 0) = σ (378 + 5 * a + 1)) : Tells X 249 [.ref 313, .int (nI a), .int (nI g)] h (-4) := by
  obtain ⟨⟨h0, hmi⟩, ⟨h2, hR1, hR12⟩, ⟨h3, hD⟩, ⟨h4, hG⟩, ⟨h5, hW⟩, ⟨h6, hA⟩⟩ := hC
  refine wp_aload_n d249_0 rfl ?_
  refine wp_iload_n d249_1 rfl ?_
  refine wp_invvT (e := 122) (j2 := 250) (n := 1) d249_2 (by decide +kernel) (by decide +kernel) rfl rfl rfl (md_0 hR) (by decide +kernel) (Nat.le_of_ble_eq_true rfl) rfl rfl (Nat.le_of_ble_eq_true rfl) (by decide +kernel) (c_isAlarm hR (n := nA) h6 (by omega) (nI a)) ?_
  refine wp_ifb_eq d249_5 (tgt := 16) (by decide) (fun hq9 => absurd (⟨nI_le (by omega) (by omega), nI_lt (by omega) (by omega)⟩ : nI 0 ≤ nI a ∧ nI a < nI nA) hq9) (fun _ => ?_)
  refine wp_aload_n d249_8 rfl ?_
  refine wp_iload_n d249_9 rfl ?_
  refine wp_invvT (e := 94) (j2 := 232) (n := 1) d249_10 (by decide +kernel) (by decide +kernel) rfl rfl rfl (md_0 hR) (by decide +kernel) (Nat.le_of_ble_eq_true rfl) rfl rfl (Nat.le_of_ble_eq_true rfl) (by decide +kernel) (c_isGuard hR (n := nG) h4 (by omega) (nI g)) ?_
  refine wp_ifb_ne d249_13 (tgt := 18) (by decide) (fun _ => ?_) (fun hq9 => absurd (⟨nI_le (by omega) (by omega), nI_lt (by omega) (by omega)⟩ : nI 0 ≤ nI g ∧ nI g < nI nG) hq9)
  refine wp_aload_n d249_18 rfl ?_
  refine wp_iload_n d249_19 rfl ?_
  refine wp_iconst d249_20 (v := nI 0) (by decide) ?_
  refine wp_invvT (e := 81) (j2 := 227) (n := 2) d249_21 (by decide +kernel) (by decide +kernel) rfl rfl rfl (md_0 hR) (by decide +kernel) (Nat.le_of_ble_eq_true rfl) rfl rfl (Nat.le_of_ble_eq_true rfl) (by decide +kernel) (c_guardPart hR (r := g) (p := 0) (by omega) (by omega)) ?_
  refine wp_aload_n d249_24 rfl ?_
  refine wp_iload_n d249_25 rfl ?_
  refine wp_iconst d249_26 (v := nI 1) (by decide) ?_
  refine wp_invvT (e := 125) (j2 := 251) (n := 2) d249_27 (by decide +kernel) (by decide +kernel) rfl rfl rfl (md_0 hR) (by decide +kernel) (Nat.le_of_ble_eq_true rfl) rfl rfl (Nat.le_of_ble_eq_true rfl) (by decide +kernel) (c_alarmPart hR (r := a) (p := 1) (by omega) (by omega)) ?_
  refine wp_icmp_eq d249_30 (tgt := 36) (by decide) (fun hq9 => absurd hq9 he) (fun _ => ?_)
  refine wp_bipush d249_33 (v := (-4 : Int32)) (by decide) ?_
  refine wp_iret d249_35 (by decide +kernel) ?_
  exact ⟨rfl, rfl⟩
theorem r_clearAlarm_3 {X : mX} {h : mH} {R : Nat → Nat → Int32} {σ : Nat → Int32} (hR : Ms h R σ) {mi nR nD nG nW nA n : Nat} (hC : Cn σ mi nR nD nG nW nA) (hn : R 0 5 = nI n) (hn4 : n ≤ 4) {a g : Nat} (ha : a < nA) (hg : g < nG) (he : σ (192 + 10 * g + 0) = σ (378 + 5 * a + 1)) (hc : ¬ σ (378 + 5 * a + 3) = -5) : Tells X 249 [.ref 313, .int (nI a), .int (nI g)] h (-5) := by
  obtain ⟨⟨h0, hmi⟩, ⟨h2, hR1, hR12⟩, ⟨h3, hD⟩, ⟨h4, hG⟩, ⟨h5, hW⟩, ⟨h6, hA⟩⟩ := hC
  refine wp_aload_n d249_0 rfl ?_
  refine wp_iload_n d249_1 rfl ?_
  refine wp_invvT (e := 122) (j2 := 250) (n := 1) d249_2 (by decide +kernel) (by decide +kernel) rfl rfl rfl (md_0 hR) (by decide +kernel) (Nat.le_of_ble_eq_true rfl) rfl rfl (Nat.le_of_ble_eq_true rfl) (by decide +kernel) (c_isAlarm hR (n := nA) h6 (by omega) (nI a)) ?_
  refine wp_ifb_eq d249_5 (tgt := 16) (by decide) (fun hq9 => absurd (⟨nI_le (by omega) (by omega), nI_lt (by omega) (by omega)⟩ : nI 0 ≤ nI a ∧ nI a < nI nA) hq9) (fun _ => ?_)
  refine wp_aload_n d249_8 rfl ?_
  refine wp_iload_n d249_9 rfl ?_
  refine wp_invvT (e := 94) (j2 := 232) (n := 1) d249_10 (by decide +kernel) (by decide +kernel) rfl rfl rfl (md_0 hR) (by decide +kernel) (Nat.le_of_ble_eq_true rfl) rfl rfl (Nat.le_of_ble_eq_true rfl) (by decide +kernel) (c_isGuard hR (n := nG) h4 (by omega) (nI g)) ?_
  refine wp_ifb_ne d249_13 (tgt := 18) (by decide) (fun _ => ?_) (fun hq9 => absurd (⟨nI_le (by omega) (by omega), nI_lt (by omega) (by omega)⟩ : nI 0 ≤ nI g ∧ nI g < nI nG) hq9)
  refine wp_aload_n d249_18 rfl ?_
  refine wp_iload_n d249_19 rfl ?_
  refine wp_iconst d249_20 (v := nI 0) (by decide) ?_
  refine wp_invvT (e := 81) (j2 := 227) (n := 2) d249_21 (by decide +kernel) (by decide +kernel) rfl rfl rfl (md_0 hR) (by decide +kernel) (Nat.le_of_ble_eq_true rfl) rfl rfl (Nat.le_of_ble_eq_true rfl) (by decide +kernel) (c_guardPart hR (r := g) (p := 0) (by omega) (by omega)) ?_
  refine wp_aload_n d249_24 rfl ?_
  refine wp_iload_n d249_25 rfl ?_
  refine wp_iconst d249_26 (v := nI 1) (by decide) ?_
  refine wp_invvT (e := 125) (j2 := 251) (n := 2) d249_27 (by decide +kernel) (by decide +kernel) rfl rfl rfl (md_0 hR) (by decide +kernel) (Nat.le_of_ble_eq_true rfl) rfl rfl (Nat.le_of_ble_eq_true rfl) (by decide +kernel) (c_alarmPart hR (r := a) (p := 1) (by omega) (by omega)) ?_
  refine wp_icmp_eq d249_30 (tgt := 36) (by decide) (fun _ => ?_) (fun hq9 => absurd he hq9)
  refine wp_aload_n d249_36 rfl ?_
  refine wp_iload_n d249_37 rfl ?_
  refine wp_iconst d249_38 (v := nI 3) (by decide) ?_
  refine wp_invvT (e := 125) (j2 := 251) (n := 2) d249_39 (by decide +kernel) (by decide +kernel) rfl rfl rfl (md_0 hR) (by decide +kernel) (Nat.le_of_ble_eq_true rfl) rfl rfl (Nat.le_of_ble_eq_true rfl) (by decide +kernel) (c_alarmPart hR (r := a) (p := 3) (by omega) (by omega)) ?_
  refine wp_bipush d249_42 (v := (-5 : Int32)) (by decide) ?_
  refine wp_icmp_eq d249_44 (tgt := 50) (by decide) (fun hq9 => absurd hq9 hc) (fun _ => ?_)
  refine wp_bipush d249_47 (v := (-5 : Int32)) (by decide) ?_
  refine wp_iret d249_49 (by decide +kernel) ?_
  exact ⟨rfl, rfl⟩
theorem r_clearAlarm {X : mX} {h : mH} {R : Nat → Nat → Int32} {σ : Nat → Int32} (hR : Ms h R σ) {mi nR nD nG nW nA n : Nat} (hC : Cn σ mi nR nD nG nW nA) (hn : R 0 5 = nI n) (hn4 : n ≤ 4) {a g : Nat} (ha : a < nA) (hg : g < nG) (he : σ (192 + 10 * g + 0) = σ (378 + 5 * a + 1)) (hc : σ (378 + 5 * a + 3) = -5) : Does X 249 [.ref 313, .int (nI a), .int (nI g)] h (F_rec R σ n) (upd (upd σ (378 + 5 * a + 3) (nI g)) (378 + 5 * a + 4) (nI mi)) (some (.int (nI mi - σ (378 + 5 * a + 2)))) := by
  obtain ⟨⟨h0, hmi⟩, ⟨h2, hR1, hR12⟩, ⟨h3, hD⟩, ⟨h4, hG⟩, ⟨h5, hW⟩, ⟨h6, hA⟩⟩ := hC
  have hF : Frm h h 313 8 := Frm.rf
  refine wp_aload_n d249_0 rfl ?_
  refine wp_iload_n d249_1 rfl ?_
  refine wp_invvT (e := 122) (j2 := 250) (n := 1) d249_2 (by decide +kernel) (by decide +kernel) rfl rfl rfl (md_0 hR) (by decide +kernel) (Nat.le_of_ble_eq_true rfl) rfl rfl (Nat.le_of_ble_eq_true rfl) (by decide +kernel) (c_isAlarm hR (n := nA) h6 (by omega) (nI a)) ?_
  refine wp_ifb_eq d249_5 (tgt := 16) (by decide) (fun hq9 => absurd (⟨nI_le (by omega) (by omega), nI_lt (by omega) (by omega)⟩ : nI 0 ≤ nI a ∧ nI a < nI nA) hq9) (fun _ => ?_)
  refine wp_aload_n d249_8 rfl ?_
  refine wp_iload_n d249_9 rfl ?_
  refine wp_invvT (e := 94) (j2 := 232) (n := 1) d249_10 (by decide +kernel) (by decide +kernel) rfl rfl rfl (md_0 hR) (by decide +kernel) (Nat.le_of_ble_eq_true rfl) rfl rfl (Nat.le_of_ble_eq_true rfl) (by decide +kernel) (c_isGuard hR (n := nG) h4 (by omega) (nI g)) ?_
  refine wp_ifb_ne d249_13 (tgt := 18) (by decide) (fun _ => ?_) (fun hq9 => absurd (⟨nI_le (by omega) (by omega), nI_lt (by omega) (by omega)⟩ : nI 0 ≤ nI g ∧ nI g < nI nG) hq9)
  refine wp_aload_n d249_18 rfl ?_
  refine wp_iload_n d249_19 rfl ?_
  refine wp_iconst d249_20 (v := nI 0) (by decide) ?_
  refine wp_invvT (e := 81) (j2 := 227) (n := 2) d249_21 (by decide +kernel) (by decide +kernel) rfl rfl rfl (md_0 hR) (by decide +kernel) (Nat.le_of_ble_eq_true rfl) rfl rfl (Nat.le_of_ble_eq_true rfl) (by decide +kernel) (c_guardPart hR (r := g) (p := 0) (by omega) (by omega)) ?_
  refine wp_aload_n d249_24 rfl ?_
  refine wp_iload_n d249_25 rfl ?_
  refine wp_iconst d249_26 (v := nI 1) (by decide) ?_
  refine wp_invvT (e := 125) (j2 := 251) (n := 2) d249_27 (by decide +kernel) (by decide +kernel) rfl rfl rfl (md_0 hR) (by decide +kernel) (Nat.le_of_ble_eq_true rfl) rfl rfl (Nat.le_of_ble_eq_true rfl) (by decide +kernel) (c_alarmPart hR (r := a) (p := 1) (by omega) (by omega)) ?_
  refine wp_icmp_eq d249_30 (tgt := 36) (by decide) (fun _ => ?_) (fun hq9 => absurd he hq9)
  refine wp_aload_n d249_36 rfl ?_
  refine wp_iload_n d249_37 rfl ?_
  refine wp_iconst d249_38 (v := nI 3) (by decide) ?_
  refine wp_invvT (e := 125) (j2 := 251) (n := 2) d249_39 (by decide +kernel) (by decide +kernel) rfl rfl rfl (md_0 hR) (by decide +kernel) (Nat.le_of_ble_eq_true rfl) rfl rfl (Nat.le_of_ble_eq_true rfl) (by decide +kernel) (c_alarmPart hR (r := a) (p := 3) (by omega) (by omega)) ?_
  refine wp_bipush d249_42 (v := (-5 : Int32)) (by decide) ?_
  refine wp_icmp_eq d249_44 (tgt := 50) (by decide) (fun _ => ?_) (fun hq9 => absurd hc hq9)
  refine wp_aload_n d249_50 rfl ?_
  refine wp_invvD (e := 50) (j2 := 212) (n := 0) d249_51 (by decide +kernel) (by decide +kernel) rfl rfl rfl (md_0 hR) (by decide +kernel) (Nat.le_of_ble_eq_true rfl) rfl rfl (Nat.le_of_ble_eq_true rfl) (by decide +kernel) (c_record hR hn hn4) hF ?_
  intro h hR hF
  refine wp_aload_n d249_54 rfl ?_
  refine wp_getf (e := 7) (ci := 12) (k := 0) (nest := false) d249_55 (by decide +kernel) (md_0 hR) rfl ?_
  refine wp_sipush d249_58 (v := nI 378) (by decide) ?_
  refine wp_iconst d249_61 (v := nI 5) (by decide) ?_
  refine wp_iload_n d249_62 rfl ?_
  refine wp_imulv d249_63 (v := nI (5 * a)) (nI_mul _ _) ?_
  refine wp_iaddv d249_64 (v := nI (378 + 5 * a)) (nI_add _ _) ?_
  refine wp_iconst d249_65 (v := nI 3) (by decide) ?_
  refine wp_iaddv d249_66 (v := nI (378 + 5 * a + 3)) (nI_add _ _) ?_
  refine wp_iload_n d249_67 rfl ?_
  refine wp_stS d249_68 hR hF (k := 378 + 5 * a + 3) (by omega) (fun h hR hF => ?_)
  refine wp_aload_n d249_69 rfl ?_
  refine wp_getf (e := 7) (ci := 12) (k := 0) (nest := false) d249_70 (by decide +kernel) (md_0 hR) rfl ?_
  refine wp_sipush d249_73 (v := nI 378) (by decide) ?_
  refine wp_iconst d249_76 (v := nI 5) (by decide) ?_
  refine wp_iload_n d249_77 rfl ?_
  refine wp_imulv d249_78 (v := nI (5 * a)) (nI_mul _ _) ?_
  refine wp_iaddv d249_79 (v := nI (378 + 5 * a)) (nI_add _ _) ?_
  refine wp_iconst d249_80 (v := nI 4) (by decide) ?_
  refine wp_iaddv d249_81 (v := nI (378 + 5 * a + 4)) (nI_add _ _) ?_
  refine wp_aload_n d249_82 rfl ?_
  refine wp_getf (e := 7) (ci := 12) (k := 0) (nest := false) d249_83 (by decide +kernel) (md_0 hR) rfl ?_
  refine wp_iconst d249_86 (v := nI 0) (by decide) ?_
  refine wp_iald d249_87 (md_1 hR) (nI_in (by omega) (by decide)) (v := nI mi) ((congrArg ((upd σ (378 + 5 * a + 3) (nI g))) (nI_nat (by omega))).trans ((upd_ne (by omega)).trans h0)) ?_
  refine wp_stS d249_88 hR hF (k := 378 + 5 * a + 4) (by omega) (fun h hR hF => ?_)
  refine wp_aload_n d249_89 rfl ?_
  refine wp_getf (e := 7) (ci := 12) (k := 0) (nest := false) d249_90 (by decide +kernel) (md_0 hR) rfl ?_
  refine wp_iconst d249_93 (v := nI 0) (by decide) ?_
  refine wp_iald d249_94 (md_1 hR) (nI_in (by omega) (by decide)) (v := nI mi) ((congrArg ((upd (upd σ (378 + 5 * a + 3) (nI g)) (378 + 5 * a + 4) (nI mi))) (nI_nat (by omega))).trans ((upd_ne (by omega)).trans ((upd_ne (by omega)).trans h0))) ?_
  refine wp_aload_n d249_95 rfl ?_
  refine wp_iload_n d249_96 rfl ?_
  refine wp_iconst d249_97 (v := nI 2) (by decide) ?_
  refine wp_invvT (e := 125) (j2 := 251) (n := 2) d249_98 (by decide +kernel) (by decide +kernel) rfl rfl rfl (md_0 hR) (by decide +kernel) (Nat.le_of_ble_eq_true rfl) rfl rfl (Nat.le_of_ble_eq_true rfl) (by decide +kernel) (tells_eq (c_alarmPart hR (r := a) (p := 2) (by omega) (by omega)) ((upd_ne (by omega)).trans ((upd_ne (by omega)).trans rfl))) ?_
  refine wp_isub d249_101 ?_
  refine wp_iret d249_102 (by decide +kernel) ?_
  exact ⟨rfl, hR, hF⟩
end
section
/-! The reference closes a zone. -/
theorem d226_0 : decode (m_code 226) 0 = .ok (.iload_n 1, 1) := by decide +kernel
theorem d226_1 : decode (m_code 226) 1 = .ok (.invokestatic 43, 3) := by decide +kernel
theorem d226_4 : decode (m_code 226) 4 = .ok (.ifCond .ne 5, 3) := by decide +kernel
theorem d226_7 : decode (m_code 226) 7 = .ok (.iconst (-1), 1) := by decide +kernel
theorem d226_8 : decode (m_code 226) 8 = .ok (.ireturn, 1) := by decide +kernel
theorem d226_9 : decode (m_code 226) 9 = .ok (.iconst 0, 1) := by decide +kernel
theorem d226_10 : decode (m_code 226) 10 = .ok (.istore_n 2, 1) := by decide +kernel
theorem d226_11 : decode (m_code 226) 11 = .ok (.iload_n 2, 1) := by decide +kernel
theorem d226_12 : decode (m_code 226) 12 = .ok (.aload_n 0, 1) := by decide +kernel
theorem d226_13 : decode (m_code 226) 13 = .ok (.getfield 7, 3) := by decide +kernel
theorem d226_16 : decode (m_code 226) 16 = .ok (.iconst 4, 1) := by decide +kernel
theorem d226_17 : decode (m_code 226) 17 = .ok (.iaload, 1) := by decide +kernel
theorem d226_18 : decode (m_code 226) 18 = .ok (.if_icmp .ge 40, 3) := by decide +kernel
theorem d226_21 : decode (m_code 226) 21 = .ok (.aload_n 0, 1) := by decide +kernel
theorem d226_22 : decode (m_code 226) 22 = .ok (.aload_n 0, 1) := by decide +kernel
theorem d226_23 : decode (m_code 226) 23 = .ok (.iload_n 2, 1) := by decide +kernel
theorem d226_24 : decode (m_code 226) 24 = .ok (.iconst 0, 1) := by decide +kernel
theorem d226_25 : decode (m_code 226) 25 = .ok (.invokevirtual 81, 3) := by decide +kernel
theorem d226_28 : decode (m_code 226) 28 = .ok (.iload_n 1, 1) := by decide +kernel
theorem d226_29 : decode (m_code 226) 29 = .ok (.invokevirtual 84, 3) := by decide +kernel
theorem d226_32 : decode (m_code 226) 32 = .ok (.ifCond .ne 17, 3) := by decide +kernel
theorem d226_35 : decode (m_code 226) 35 = .ok (.aload_n 0, 1) := by decide +kernel
theorem d226_36 : decode (m_code 226) 36 = .ok (.aload_n 0, 1) := by decide +kernel
theorem d226_37 : decode (m_code 226) 37 = .ok (.iload_n 2, 1) := by decide +kernel
theorem d226_38 : decode (m_code 226) 38 = .ok (.iconst 1, 1) := by decide +kernel
theorem d226_39 : decode (m_code 226) 39 = .ok (.invokevirtual 81, 3) := by decide +kernel
theorem d226_42 : decode (m_code 226) 42 = .ok (.iload_n 1, 1) := by decide +kernel
theorem d226_43 : decode (m_code 226) 43 = .ok (.invokevirtual 84, 3) := by decide +kernel
theorem d226_46 : decode (m_code 226) 46 = .ok (.ifCond .eq 6, 3) := by decide +kernel
theorem d226_49 : decode (m_code 226) 49 = .ok (.bipush (-4), 2) := by decide +kernel
theorem d226_51 : decode (m_code 226) 51 = .ok (.ireturn, 1) := by decide +kernel
theorem d226_52 : decode (m_code 226) 52 = .ok (.iinc 2 1, 3) := by decide +kernel
theorem d226_55 : decode (m_code 226) 55 = .ok (.goto (-44), 3) := by decide +kernel
theorem d226_58 : decode (m_code 226) 58 = .ok (.aload_n 0, 1) := by decide +kernel
theorem d226_59 : decode (m_code 226) 59 = .ok (.getfield 7, 3) := by decide +kernel
theorem d226_62 : decode (m_code 226) 62 = .ok (.bipush 8, 2) := by decide +kernel
theorem d226_64 : decode (m_code 226) 64 = .ok (.iload_n 1, 1) := by decide +kernel
theorem d226_65 : decode (m_code 226) 65 = .ok (.iadd, 1) := by decide +kernel
theorem d226_66 : decode (m_code 226) 66 = .ok (.iaload, 1) := by decide +kernel
theorem d226_67 : decode (m_code 226) 67 = .ok (.ifCond .ne 6, 3) := by decide +kernel
theorem d226_70 : decode (m_code 226) 70 = .ok (.bipush (-5), 2) := by decide +kernel
theorem d226_72 : decode (m_code 226) 72 = .ok (.ireturn, 1) := by decide +kernel
theorem d226_73 : decode (m_code 226) 73 = .ok (.aload_n 0, 1) := by decide +kernel
theorem d226_74 : decode (m_code 226) 74 = .ok (.invokevirtual 50, 3) := by decide +kernel
theorem d226_77 : decode (m_code 226) 77 = .ok (.aload_n 0, 1) := by decide +kernel
theorem d226_78 : decode (m_code 226) 78 = .ok (.getfield 7, 3) := by decide +kernel
theorem d226_81 : decode (m_code 226) 81 = .ok (.bipush 8, 2) := by decide +kernel
theorem d226_83 : decode (m_code 226) 83 = .ok (.iload_n 1, 1) := by decide +kernel
theorem d226_84 : decode (m_code 226) 84 = .ok (.iadd, 1) := by decide +kernel
theorem d226_85 : decode (m_code 226) 85 = .ok (.iconst 0, 1) := by decide +kernel
theorem d226_86 : decode (m_code 226) 86 = .ok (.iastore, 1) := by decide +kernel
theorem d226_87 : decode (m_code 226) 87 = .ok (.aload_n 0, 1) := by decide +kernel
theorem d226_88 : decode (m_code 226) 88 = .ok (.invokevirtual 77, 3) := by decide +kernel
theorem d226_91 : decode (m_code 226) 91 = .ok (.ireturn, 1) := by decide +kernel
theorem d228_0 : decode (m_code 228) 0 = .ok (.iload_n 1, 1) := by decide +kernel
theorem d228_1 : decode (m_code 228) 1 = .ok (.ifCond .lt 17, 3) := by decide +kernel
theorem d228_4 : decode (m_code 228) 4 = .ok (.aload_n 0, 1) := by decide +kernel
theorem d228_5 : decode (m_code 228) 5 = .ok (.iload_n 1, 1) := by decide +kernel
theorem d228_6 : decode (m_code 228) 6 = .ok (.iconst 0, 1) := by decide +kernel
theorem d228_7 : decode (m_code 228) 7 = .ok (.invokevirtual 63, 3) := by decide +kernel
theorem d228_10 : decode (m_code 228) 10 = .ok (.iload_n 2, 1) := by decide +kernel
theorem d228_11 : decode (m_code 228) 11 = .ok (.if_icmp .ne 7, 3) := by decide +kernel
theorem d228_14 : decode (m_code 228) 14 = .ok (.iconst 1, 1) := by decide +kernel
theorem d228_15 : decode (m_code 228) 15 = .ok (.goto 4, 3) := by decide +kernel
theorem d228_18 : decode (m_code 228) 18 = .ok (.iconst 0, 1) := by decide +kernel
theorem d228_19 : decode (m_code 228) 19 = .ok (.ireturn, 1) := by decide +kernel
/-- whether a room (perhaps none) is in a zone -/
abbrev F_iz (σ : Nat → Int32) (v w : Int32) : Prop := 0 ≤ v ∧ σ (20 + 6 * v.toNatClampNeg + 0) = w
theorem c_isInZone {X : mX} {h : mH} {R : Nat → Nat → Int32} {σ : Nat → Int32} (hR : Ms h R σ) {v w : Int32} (hv : v < 0 ∨ ∃ r, r < 12 ∧ v = nI r) : Tells X 228 [.ref 313, .int (v), .int (w)] h (m_b (F_iz σ v w)) := by
  refine wp_iload_n d228_0 rfl ?_
  refine wp_if_lt d228_1 (tgt := 18) (by decide) (fun hc1 => ?_) (fun hc1 => ?_)
  · refine wp_iconst d228_18 (v := nI 0) (by decide) ?_
    refine wp_zret d228_19 (by decide +kernel) (by decide) ?_
    exact ⟨congrArg (fun z => some (Value.int z)) (m_b_f (fun q => absurd hc1 (Int32.not_lt.mpr q.1))).symm, rfl⟩
  · obtain ⟨r, hr, hv2⟩ := hv.resolve_left hc1
    refine wp_aload_n d228_4 rfl ?_
    refine wp_iload_n d228_5 rfl ?_
    refine wp_iconst d228_6 (v := nI 0) (by decide) ?_
    refine wp_invvT (r := σ (20 + 6 * r + 0)) (e := 63) (j2 := 219) (n := 2) d228_7 (by decide +kernel) (by decide +kernel) rfl rfl rfl (md_0 hR) (by decide +kernel) (Nat.le_of_ble_eq_true rfl) rfl rfl (Nat.le_of_ble_eq_true rfl) (by decide +kernel) (show Tells X 219 [.ref 313, .int v, .int (nI 0)] h (σ (20 + 6 * r + 0)) from by rw [hv2]; exact c_roomPart hR (r := r) (p := 0) (by omega) (by omega)) ?_
    refine wp_iload_n d228_10 rfl ?_
    refine wp_icmp_ne d228_11 (tgt := 18) (by decide) (fun hc11 => ?_) (fun hc11 => ?_)
    · refine wp_iconst d228_18 (v := nI 0) (by decide) ?_
      refine wp_zret d228_19 (by decide +kernel) (by decide) ?_
      exact ⟨congrArg (fun z => some (Value.int z)) (m_b_f (fun q => hc11 (by have := q.2; rw [hv2, nI_nat (by omega)] at this; exact this))).symm, rfl⟩
    · refine wp_iconst d228_14 (v := nI 1) (by decide) ?_
      refine wp_goto d228_15 (tgt := 19) (by decide) ?_
      refine wp_zret d228_19 (by decide +kernel) (by decide) ?_
      exact ⟨congrArg (fun z => some (Value.int z)) (m_b_t ⟨Int32.not_lt.mp hc1, by rw [hv2, nI_nat (by omega)]; exact hc11⟩).symm, rfl⟩
theorem r_closeZone_1 {X : mX} {h : mH} {R : Nat → Nat → Int32} {σ : Nat → Int32} (hR : Ms h R σ) {mi nR nD nG nW nA n : Nat} (hC : Cn σ mi nR nD nG nW nA) (hn : R 0 5 = nI n) (hn4 : n ≤ 4) {x : Int32} (hx : ¬ (nI 0 ≤ x ∧ x ≤ nI 5)) : Tells X 226 [.ref 313, .int (x)] h (-1) := by
  obtain ⟨⟨h0, hmi⟩, ⟨h2, hR1, hR12⟩, ⟨h3, hD⟩, ⟨h4, hG⟩, ⟨h5, hW⟩, ⟨h6, hA⟩⟩ := hC
  refine wp_iload_n d226_0 rfl ?_
  refine wp_invsT (e := 43) (j2 := 209) (n := 1) d226_1 (by decide +kernel) (by decide +kernel) rfl rfl rfl (Nat.le_of_ble_eq_true rfl) (Nat.le_of_ble_eq_true rfl) rfl rfl (Nat.le_of_ble_eq_true rfl) (by decide +kernel) (c_isZone (x)) ?_
  refine wp_ifb_ne d226_4 (tgt := 9) (by decide) (fun hq9 => absurd hq9 hx) (fun _ => ?_)
  refine wp_iconst d226_7 (v := (-1 : Int32)) (by decide) ?_
  refine wp_iret d226_8 (by decide +kernel) ?_
  exact ⟨rfl, rfl⟩
/-- whether one of the first n guards stands in a room of the zone, or walks to one -/
abbrev F_cz (σ : Nat → Int32) (w : Int32) (g : Nat) : Prop := F_iz σ (σ (192 + 10 * g + 0)) w ∨ F_iz σ (σ (192 + 10 * g + 1)) w
theorem r_closeZone_l1 {X : mX} {h : mH} {R : Nat → Nat → Int32} {σ : Nat → Int32} (hR : Ms h R σ) {nG g0 z0 : Nat} (h4 : σ 4 = nI nG) (hG : nG ≤ 4) (hP : ∀ g, g < nG → (σ (192 + 10 * g + 0) < 0 ∨ ∃ r, r < 12 ∧ σ (192 + 10 * g + 0) = nI r) ∧ (σ (192 + 10 * g + 1) < 0 ∨ ∃ r, r < 12 ∧ σ (192 + 10 * g + 1) = nI r)) (hgn : g0 < nG) (hg0 : F_cz σ (nI z0) g0) : ∀ (d : Nat) (k : Nat), nG - k = d → k ≤ g0 → m_wp X 226 11 [some (.ref 313), some (.int (nI z0)), some (.int (nI k))] [] h (fun v h1 => v = some (.int (-4)) ∧ h1 = h) := by
  intro d
  induction d using Nat.strongRecOn with
  | ind d ih =>
    intro k hd hk
    refine wp_iload_n d226_11 rfl ?_
    refine wp_aload_n d226_12 rfl ?_
    refine wp_getf (e := 7) (ci := 12) (k := 0) (nest := false) d226_13 (by decide +kernel) (md_0 hR) rfl ?_
    refine wp_iconst d226_16 (v := nI 4) (by decide) ?_
    refine wp_iald d226_17 (md_1 hR) (nI_in (by omega) (by decide)) (v := nI nG) ((congrArg σ (nI_nat (by omega))).trans h4) ?_
    refine wp_icmp_ge d226_18 (tgt := 58) (by decide) (fun hc18 => ?_) (fun hc18 => ?_)
    · exfalso; have hc18 := (nI_leI (by omega) (by omega)).mp hc18; omega
    · refine wp_aload_n d226_21 rfl ?_
      refine wp_aload_n d226_22 rfl ?_
      refine wp_iload_n d226_23 rfl ?_
      refine wp_iconst d226_24 (v := nI 0) (by decide) ?_
      refine wp_invvT (e := 81) (j2 := 227) (n := 2) d226_25 (by decide +kernel) (by decide +kernel) rfl rfl rfl (md_0 hR) (by decide +kernel) (Nat.le_of_ble_eq_true rfl) rfl rfl (Nat.le_of_ble_eq_true rfl) (by decide +kernel) (c_guardPart hR (r := k) (p := 0) (by omega) (by omega)) ?_
      refine wp_iload_n d226_28 rfl ?_
      refine wp_invvT (e := 84) (j2 := 228) (n := 2) d226_29 (by decide +kernel) (by decide +kernel) rfl rfl rfl (md_0 hR) (by decide +kernel) (Nat.le_of_ble_eq_true rfl) rfl rfl (Nat.le_of_ble_eq_true rfl) (by decide +kernel) (c_isInZone hR (v := σ (192 + 10 * k + 0)) (w := nI z0) (hP _ (by omega)).1) ?_
      refine wp_ifb_ne d226_32 (tgt := 49) (by decide) (fun hc32 => ?_) (fun hc32 => ?_)
      · refine wp_bipush d226_49 (v := (-4 : Int32)) (by decide) ?_
        refine wp_iret d226_51 (by decide +kernel) ?_
        exact ⟨rfl, rfl⟩
      · refine wp_aload_n d226_35 rfl ?_
        refine wp_aload_n d226_36 rfl ?_
        refine wp_iload_n d226_37 rfl ?_
        refine wp_iconst d226_38 (v := nI 1) (by decide) ?_
        refine wp_invvT (e := 81) (j2 := 227) (n := 2) d226_39 (by decide +kernel) (by decide +kernel) rfl rfl rfl (md_0 hR) (by decide +kernel) (Nat.le_of_ble_eq_true rfl) rfl rfl (Nat.le_of_ble_eq_true rfl) (by decide +kernel) (c_guardPart hR (r := k) (p := 1) (by omega) (by omega)) ?_
        refine wp_iload_n d226_42 rfl ?_
        refine wp_invvT (e := 84) (j2 := 228) (n := 2) d226_43 (by decide +kernel) (by decide +kernel) rfl rfl rfl (md_0 hR) (by decide +kernel) (Nat.le_of_ble_eq_true rfl) rfl rfl (Nat.le_of_ble_eq_true rfl) (by decide +kernel) (c_isInZone hR (v := σ (192 + 10 * k + 1)) (w := nI z0) (hP _ (by omega)).2) ?_
        refine wp_ifb_eq d226_46 (tgt := 52) (by decide) (fun hc46 => ?_) (fun hc46 => ?_)
        · refine wp_iinc d226_52 rfl (v := nI (k + 1)) (nI_add _ 1) (Nat.le_of_ble_eq_true rfl) rfl ?_
          refine wp_goto d226_55 (tgt := 11) (by decide) ?_
          refine ih (nG - (k + 1)) (by omega) (k + 1) rfl ?_ 
          rcases Nat.lt_or_ge k g0 with z | z
          · omega
          · exact absurd (show F_cz σ (nI z0) k by rw [show k = g0 by omega]; exact hg0) (fun q => q.elim hc32 hc46)
        · refine wp_bipush d226_49 (v := (-4 : Int32)) (by decide) ?_
          refine wp_iret d226_51 (by decide +kernel) ?_
          exact ⟨rfl, rfl⟩
theorem r_closeZone_2 {X : mX} {h : mH} {R : Nat → Nat → Int32} {σ : Nat → Int32} (hR : Ms h R σ) {mi nR nD nG nW nA n : Nat} (hC : Cn σ mi nR nD nG nW nA) (hn : R 0 5 = nI n) (hn4 : n ≤ 4) {z g0 : Nat} (hz : z < 6) (hP : ∀ g, g < nG → (σ (192 + 10 * g + 0) < 0 ∨ ∃ r, r < 12 ∧ σ (192 + 10 * g + 0) = nI r) ∧ (σ (192 + 10 * g + 1) < 0 ∨ ∃ r, r < 12 ∧ σ (192 + 10 * g + 1) = nI r)) (hgn : g0 < nG) (hg0 : F_cz σ (nI z) g0) : Tells X 226 [.ref 313, .int (nI z)] h (-4) := by
  obtain ⟨⟨h0, hmi⟩, ⟨h2, hR1, hR12⟩, ⟨h3, hD⟩, ⟨h4, hG⟩, ⟨h5, hW⟩, ⟨h6, hA⟩⟩ := hC
  refine wp_iload_n d226_0 rfl ?_
  refine wp_invsT (e := 43) (j2 := 209) (n := 1) d226_1 (by decide +kernel) (by decide +kernel) rfl rfl rfl (Nat.le_of_ble_eq_true rfl) (Nat.le_of_ble_eq_true rfl) rfl rfl (Nat.le_of_ble_eq_true rfl) (by decide +kernel) (c_isZone (nI z)) ?_
  refine wp_ifb_ne d226_4 (tgt := 9) (by decide) (fun _ => ?_) (fun hq9 => absurd (⟨nI_le (by omega) (by omega), nI_le (by omega) (by omega)⟩ : nI 0 ≤ nI z ∧ nI z ≤ nI 5) hq9)
  refine wp_iconst d226_9 (v := nI 0) (by decide) ?_
  refine wp_istore_n d226_10 (Nat.le_of_ble_eq_true rfl) rfl ?_
  exact r_closeZone_l1 hR h4 hG hP hgn hg0 _ 0 rfl (Nat.zero_le _)
theorem r_closeZone_l2 {X : mX} {h : mH} {R : Nat → Nat → Int32} {σ : Nat → Int32} (hR : Ms h R σ) {nG z0 : Nat} {Q : Option Value → mH → Prop} (h4 : σ 4 = nI nG) (hG : nG ≤ 4) (hP : ∀ g, g < nG → (σ (192 + 10 * g + 0) < 0 ∨ ∃ r, r < 12 ∧ σ (192 + 10 * g + 0) = nI r) ∧ (σ (192 + 10 * g + 1) < 0 ∨ ∃ r, r < 12 ∧ σ (192 + 10 * g + 1) = nI r)) (hno : ∀ g, g < nG → ¬ F_cz σ (nI z0) g) (K : ∀ v, m_wp X 226 58 [some (.ref 313), some (.int (nI z0)), some (.int v)] [] h Q) : ∀ (d : Nat) (k : Nat), nG - k = d → k ≤ nG → m_wp X 226 11 [some (.ref 313), some (.int (nI z0)), some (.int (nI k))] [] h Q := by
  intro d
  induction d using Nat.strongRecOn with
  | ind d ih =>
    intro k hd hk
    refine wp_iload_n d226_11 rfl ?_
    refine wp_aload_n d226_12 rfl ?_
    refine wp_getf (e := 7) (ci := 12) (k := 0) (nest := false) d226_13 (by decide +kernel) (md_0 hR) rfl ?_
    refine wp_iconst d226_16 (v := nI 4) (by decide) ?_
    refine wp_iald d226_17 (md_1 hR) (nI_in (by omega) (by decide)) (v := nI nG) ((congrArg σ (nI_nat (by omega))).trans h4) ?_
    refine wp_icmp_ge d226_18 (tgt := 58) (by decide) (fun hc18 => ?_) (fun hc18 => ?_)
    · have hc18 : nG ≤ k := (nI_leI (by omega) (by omega)).mp hc18
      exact K _
    · have hc18 : ¬ (nG ≤ k) := fun z => hc18 ((nI_leI (by omega) (by omega)).mpr z)
      refine wp_aload_n d226_21 rfl ?_
      refine wp_aload_n d226_22 rfl ?_
      refine wp_iload_n d226_23 rfl ?_
      refine wp_iconst d226_24 (v := nI 0) (by decide) ?_
      refine wp_invvT (e := 81) (j2 := 227) (n := 2) d226_25 (by decide +kernel) (by decide +kernel) rfl rfl rfl (md_0 hR) (by decide +kernel) (Nat.le_of_ble_eq_true rfl) rfl rfl (Nat.le_of_ble_eq_true rfl) (by decide +kernel) (c_guardPart hR (r := k) (p := 0) (by omega) (by omega)) ?_
      refine wp_iload_n d226_28 rfl ?_
      refine wp_invvT (e := 84) (j2 := 228) (n := 2) d226_29 (by decide +kernel) (by decide +kernel) rfl rfl rfl (md_0 hR) (by decide +kernel) (Nat.le_of_ble_eq_true rfl) rfl rfl (Nat.le_of_ble_eq_true rfl) (by decide +kernel) (c_isInZone hR (v := σ (192 + 10 * k + 0)) (w := nI z0) (hP _ (by omega)).1) ?_
      refine wp_ifb_ne d226_32 (tgt := 49) (by decide) (fun hc32 => ?_) (fun hc32 => ?_)
      · exact absurd (Or.inl hc32) (hno k (by omega))
      · refine wp_aload_n d226_35 rfl ?_
        refine wp_aload_n d226_36 rfl ?_
        refine wp_iload_n d226_37 rfl ?_
        refine wp_iconst d226_38 (v := nI 1) (by decide) ?_
        refine wp_invvT (e := 81) (j2 := 227) (n := 2) d226_39 (by decide +kernel) (by decide +kernel) rfl rfl rfl (md_0 hR) (by decide +kernel) (Nat.le_of_ble_eq_true rfl) rfl rfl (Nat.le_of_ble_eq_true rfl) (by decide +kernel) (c_guardPart hR (r := k) (p := 1) (by omega) (by omega)) ?_
        refine wp_iload_n d226_42 rfl ?_
        refine wp_invvT (e := 84) (j2 := 228) (n := 2) d226_43 (by decide +kernel) (by decide +kernel) rfl rfl rfl (md_0 hR) (by decide +kernel) (Nat.le_of_ble_eq_true rfl) rfl rfl (Nat.le_of_ble_eq_true rfl) (by decide +kernel) (c_isInZone hR (v := σ (192 + 10 * k + 1)) (w := nI z0) (hP _ (by omega)).2) ?_
        refine wp_ifb_eq d226_46 (tgt := 52) (by decide) (fun hc46 => ?_) (fun hc46 => ?_)
        · refine wp_iinc d226_52 rfl (v := nI (k + 1)) (nI_add _ 1) (Nat.le_of_ble_eq_true rfl) rfl ?_
          refine wp_goto d226_55 (tgt := 11) (by decide) ?_
          exact ih (nG - (k + 1)) (by omega) (k + 1) rfl (by omega)
        · exact absurd (Or.inr hc46) (hno k (by omega))
theorem r_closeZone_3 {X : mX} {h : mH} {R : Nat → Nat → Int32} {σ : Nat → Int32} (hR : Ms h R σ) {mi nR nD nG nW nA n : Nat} (hC : Cn σ mi nR nD nG nW nA) (hn : R 0 5 = nI n) (hn4 : n ≤ 4) {z : Nat} (hz : z < 6) (hP : ∀ g, g < nG → (σ (192 + 10 * g + 0) < 0 ∨ ∃ r, r < 12 ∧ σ (192 + 10 * g + 0) = nI r) ∧ (σ (192 + 10 * g + 1) < 0 ∨ ∃ r, r < 12 ∧ σ (192 + 10 * g + 1) = nI r)) (hno : ∀ g, g < nG → ¬ F_cz σ (nI z) g) (h8 : σ (8 + z) = 0) : Tells X 226 [.ref 313, .int (nI z)] h (-5) := by
  obtain ⟨⟨h0, hmi⟩, ⟨h2, hR1, hR12⟩, ⟨h3, hD⟩, ⟨h4, hG⟩, ⟨h5, hW⟩, ⟨h6, hA⟩⟩ := hC
  refine wp_iload_n d226_0 rfl ?_
  refine wp_invsT (e := 43) (j2 := 209) (n := 1) d226_1 (by decide +kernel) (by decide +kernel) rfl rfl rfl (Nat.le_of_ble_eq_true rfl) (Nat.le_of_ble_eq_true rfl) rfl rfl (Nat.le_of_ble_eq_true rfl) (by decide +kernel) (c_isZone (nI z)) ?_
  refine wp_ifb_ne d226_4 (tgt := 9) (by decide) (fun _ => ?_) (fun hq9 => absurd (⟨nI_le (by omega) (by omega), nI_le (by omega) (by omega)⟩ : nI 0 ≤ nI z ∧ nI z ≤ nI 5) hq9)
  refine wp_iconst d226_9 (v := nI 0) (by decide) ?_
  refine wp_istore_n d226_10 (Nat.le_of_ble_eq_true rfl) rfl ?_
  refine r_closeZone_l2 hR h4 hG hP hno ?_ _ 0 rfl (Nat.zero_le _)
  intro v2
  refine wp_aload_n d226_58 rfl ?_
  refine wp_getf (e := 7) (ci := 12) (k := 0) (nest := false) d226_59 (by decide +kernel) (md_0 hR) rfl ?_
  refine wp_bipush d226_62 (v := nI 8) (by decide) ?_
  refine wp_iload_n d226_64 rfl ?_
  refine wp_iaddv d226_65 (v := nI (8 + z)) (nI_add _ _) ?_
  refine wp_iald d226_66 (md_1 hR) (nI_in (by omega) (by decide)) (v := σ (8 + z)) ((congrArg σ (nI_nat (by omega))).trans rfl) ?_
  refine wp_if_ne d226_67 (tgt := 73) (by decide) (fun hq9 => absurd h8 hq9) (fun _ => ?_)
  refine wp_bipush d226_70 (v := (-5 : Int32)) (by decide) ?_
  refine wp_iret d226_72 (by decide +kernel) ?_
  exact ⟨rfl, rfl⟩
theorem r_closeZone {X : mX} {h : mH} {R : Nat → Nat → Int32} {σ : Nat → Int32} (hR : Ms h R σ) {mi nR nD nG nW nA n : Nat} (hC : Cn σ mi nR nD nG nW nA) (hn : R 0 5 = nI n) (hn4 : n ≤ 4) {z : Nat} (hz : z < 6) (hP : ∀ g, g < nG → (σ (192 + 10 * g + 0) < 0 ∨ ∃ r, r < 12 ∧ σ (192 + 10 * g + 0) = nI r) ∧ (σ (192 + 10 * g + 1) < 0 ∨ ∃ r, r < 12 ∧ σ (192 + 10 * g + 1) = nI r)) (hno : ∀ g, g < nG → ¬ F_cz σ (nI z) g) (h8 : ¬ σ (8 + z) = 0) : Does X 226 [.ref 313, .int (nI z)] h (F_rec R σ n) (upd σ (8 + z) (nI 0)) (some (.int (F_oz (upd σ (8 + z) (nI 0)) 6))) := by
  obtain ⟨⟨h0, hmi⟩, ⟨h2, hR1, hR12⟩, ⟨h3, hD⟩, ⟨h4, hG⟩, ⟨h5, hW⟩, ⟨h6, hA⟩⟩ := hC
  have hF : Frm h h 313 8 := Frm.rf
  refine wp_iload_n d226_0 rfl ?_
  refine wp_invsT (e := 43) (j2 := 209) (n := 1) d226_1 (by decide +kernel) (by decide +kernel) rfl rfl rfl (Nat.le_of_ble_eq_true rfl) (Nat.le_of_ble_eq_true rfl) rfl rfl (Nat.le_of_ble_eq_true rfl) (by decide +kernel) (c_isZone (nI z)) ?_
  refine wp_ifb_ne d226_4 (tgt := 9) (by decide) (fun _ => ?_) (fun hq9 => absurd (⟨nI_le (by omega) (by omega), nI_le (by omega) (by omega)⟩ : nI 0 ≤ nI z ∧ nI z ≤ nI 5) hq9)
  refine wp_iconst d226_9 (v := nI 0) (by decide) ?_
  refine wp_istore_n d226_10 (Nat.le_of_ble_eq_true rfl) rfl ?_
  refine r_closeZone_l2 hR h4 hG hP hno ?_ _ 0 rfl (Nat.zero_le _)
  intro v2
  refine wp_aload_n d226_58 rfl ?_
  refine wp_getf (e := 7) (ci := 12) (k := 0) (nest := false) d226_59 (by decide +kernel) (md_0 hR) rfl ?_
  refine wp_bipush d226_62 (v := nI 8) (by decide) ?_
  refine wp_iload_n d226_64 rfl ?_
  refine wp_iaddv d226_65 (v := nI (8 + z)) (nI_add _ _) ?_
  refine wp_iald d226_66 (md_1 hR) (nI_in (by omega) (by decide)) (v := σ (8 + z)) ((congrArg σ (nI_nat (by omega))).trans rfl) ?_
  refine wp_if_ne d226_67 (tgt := 73) (by decide) (fun _ => ?_) (fun hq9 => absurd hq9 h8)
  refine wp_aload_n d226_73 rfl ?_
  refine wp_invvD (e := 50) (j2 := 212) (n := 0) d226_74 (by decide +kernel) (by decide +kernel) rfl rfl rfl (md_0 hR) (by decide +kernel) (Nat.le_of_ble_eq_true rfl) rfl rfl (Nat.le_of_ble_eq_true rfl) (by decide +kernel) (c_record hR hn hn4) hF ?_
  intro h hR hF
  refine wp_aload_n d226_77 rfl ?_
  refine wp_getf (e := 7) (ci := 12) (k := 0) (nest := false) d226_78 (by decide +kernel) (md_0 hR) rfl ?_
  refine wp_bipush d226_81 (v := nI 8) (by decide) ?_
  refine wp_iload_n d226_83 rfl ?_
  refine wp_iaddv d226_84 (v := nI (8 + z)) (nI_add _ _) ?_
  refine wp_iconst d226_85 (v := nI 0) (by decide) ?_
  refine wp_stS d226_86 hR hF (k := 8 + z) (by omega) (fun h hR hF => ?_)
  refine wp_aload_n d226_87 rfl ?_
  refine wp_invvT (e := 77) (j2 := 225) (n := 0) d226_88 (by decide +kernel) (by decide +kernel) rfl rfl rfl (md_0 hR) (by decide +kernel) (Nat.le_of_ble_eq_true rfl) rfl rfl (Nat.le_of_ble_eq_true rfl) (by decide +kernel) (c_openZones hR) ?_
  refine wp_iret d226_91 (by decide +kernel) ?_
  exact ⟨rfl, hR, hF⟩
end
section
/-! The reference lets minutes pass. -/
theorem d252_0 : decode (m_code 252) 0 = .ok (.aload_n 0, 1) := by decide +kernel
theorem d252_1 : decode (m_code 252) 1 = .ok (.iload_n 1, 1) := by decide +kernel
theorem d252_2 : decode (m_code 252) 2 = .ok (.invokevirtual 153, 3) := by decide +kernel
theorem d252_5 : decode (m_code 252) 5 = .ok (.istore_n 2, 1) := by decide +kernel
theorem d252_6 : decode (m_code 252) 6 = .ok (.iload_n 2, 1) := by decide +kernel
theorem d252_7 : decode (m_code 252) 7 = .ok (.ifCond .ge 5, 3) := by decide +kernel
theorem d252_10 : decode (m_code 252) 10 = .ok (.iload_n 2, 1) := by decide +kernel
theorem d252_11 : decode (m_code 252) 11 = .ok (.ireturn, 1) := by decide +kernel
theorem d252_12 : decode (m_code 252) 12 = .ok (.aload_n 0, 1) := by decide +kernel
theorem d252_13 : decode (m_code 252) 13 = .ok (.invokevirtual 50, 3) := by decide +kernel
theorem d252_16 : decode (m_code 252) 16 = .ok (.aload_n 0, 1) := by decide +kernel
theorem d252_17 : decode (m_code 252) 17 = .ok (.iload_n 1, 1) := by decide +kernel
theorem d252_18 : decode (m_code 252) 18 = .ok (.invokevirtual 156, 3) := by decide +kernel
theorem d252_21 : decode (m_code 252) 21 = .ok (.ireturn, 1) := by decide +kernel
theorem d253_0 : decode (m_code 253) 0 = .ok (.iload_n 1, 1) := by decide +kernel
theorem d253_1 : decode (m_code 253) 1 = .ok (.iconst 1, 1) := by decide +kernel
theorem d253_2 : decode (m_code 253) 2 = .ok (.bipush 60, 2) := by decide +kernel
theorem d253_4 : decode (m_code 253) 4 = .ok (.invokestatic 39, 3) := by decide +kernel
theorem d253_7 : decode (m_code 253) 7 = .ok (.ifCond .ne 8, 3) := by decide +kernel
theorem d253_10 : decode (m_code 253) 10 = .ok (.bipush (-2), 2) := by decide +kernel
theorem d253_12 : decode (m_code 253) 12 = .ok (.goto 23, 3) := by decide +kernel
theorem d253_15 : decode (m_code 253) 15 = .ok (.aload_n 0, 1) := by decide +kernel
theorem d253_16 : decode (m_code 253) 16 = .ok (.getfield 7, 3) := by decide +kernel
theorem d253_19 : decode (m_code 253) 19 = .ok (.iconst 0, 1) := by decide +kernel
theorem d253_20 : decode (m_code 253) 20 = .ok (.iaload, 1) := by decide +kernel
theorem d253_21 : decode (m_code 253) 21 = .ok (.iload_n 1, 1) := by decide +kernel
theorem d253_22 : decode (m_code 253) 22 = .ok (.iadd, 1) := by decide +kernel
theorem d253_23 : decode (m_code 253) 23 = .ok (.sipush 720, 3) := by decide +kernel
theorem d253_26 : decode (m_code 253) 26 = .ok (.if_icmp .le 8, 3) := by decide +kernel
theorem d253_29 : decode (m_code 253) 29 = .ok (.bipush (-4), 2) := by decide +kernel
theorem d253_31 : decode (m_code 253) 31 = .ok (.goto 4, 3) := by decide +kernel
theorem d253_34 : decode (m_code 253) 34 = .ok (.iconst 0, 1) := by decide +kernel
theorem d253_35 : decode (m_code 253) 35 = .ok (.ireturn, 1) := by decide +kernel
theorem d254_0 : decode (m_code 254) 0 = .ok (.iconst 0, 1) := by decide +kernel
theorem d254_1 : decode (m_code 254) 1 = .ok (.istore_n 2, 1) := by decide +kernel
theorem d254_2 : decode (m_code 254) 2 = .ok (.iconst 0, 1) := by decide +kernel
theorem d254_3 : decode (m_code 254) 3 = .ok (.istore_n 3, 1) := by decide +kernel
theorem d254_4 : decode (m_code 254) 4 = .ok (.iload_n 3, 1) := by decide +kernel
theorem d254_5 : decode (m_code 254) 5 = .ok (.iload_n 1, 1) := by decide +kernel
theorem d254_6 : decode (m_code 254) 6 = .ok (.if_icmp .ge 16, 3) := by decide +kernel
theorem d254_9 : decode (m_code 254) 9 = .ok (.iload_n 2, 1) := by decide +kernel
theorem d254_10 : decode (m_code 254) 10 = .ok (.aload_n 0, 1) := by decide +kernel
theorem d254_11 : decode (m_code 254) 11 = .ok (.invokevirtual 150, 3) := by decide +kernel
theorem d254_14 : decode (m_code 254) 14 = .ok (.iadd, 1) := by decide +kernel
theorem d254_15 : decode (m_code 254) 15 = .ok (.istore_n 2, 1) := by decide +kernel
theorem d254_16 : decode (m_code 254) 16 = .ok (.iinc 3 1, 3) := by decide +kernel
theorem d254_19 : decode (m_code 254) 19 = .ok (.goto (-15), 3) := by decide +kernel
theorem d254_22 : decode (m_code 254) 22 = .ok (.iload_n 2, 1) := by decide +kernel
theorem d254_23 : decode (m_code 254) 23 = .ok (.ireturn, 1) := by decide +kernel
theorem d273_0 : decode (m_code 273) 0 = .ok (.aload_n 0, 1) := by decide +kernel
theorem d273_1 : decode (m_code 273) 1 = .ok (.getfield 31, 3) := by decide +kernel
theorem d273_4 : decode (m_code 273) 4 = .ok (.ifCond .ne 6, 3) := by decide +kernel
theorem d273_7 : decode (m_code 273) 7 = .ok (.bipush (-5), 2) := by decide +kernel
theorem d273_9 : decode (m_code 273) 9 = .ok (.ireturn, 1) := by decide +kernel
/-- all that the reference asks of its row as a minute passes -/
def P_min (σ : Nat → Int32) (nR nD nG nW mi : Nat) : Prop :=
  σ 2 = nI nR ∧ σ 4 = nI nG ∧ σ 0 = nI mi ∧ mi < 720 ∧ (∀ k, k ≤ nG → P_gb (F_gb σ nD k) k nD nG) ∧ (∀ k, k ≤ nG → P_gw (F_gw (F_watch (F_gb σ nD nG) nR nG mi) k) k nG) ∧ (∀ k, k ≤ nR → P_bd (F_bd (F_m3 σ nR nD nG mi) k) nR) ∧ (∀ k, k ≤ nW → P_wk (F_wk (F_m4 σ nR nD nG mi) k) k nW) ∧ (∀ k, k ≤ nW → F_wk (F_m4 σ nR nD nG mi) k 0 = nI mi)
/-- k minutes pass -/
def F_pst (σ : Nat → Int32) (nR nD nG nW mi : Nat) : Nat → (Nat → Int32)
  | 0 => σ
  | k + 1 => F_min (F_pst σ nR nD nG nW mi k) nR nD nG nW (mi + k)
def F_psn (σ : Nat → Int32) (nR nD nG nW mi : Nat) : Nat → Nat
  | 0 => 0
  | k + 1 => F_psn σ nR nD nG nW mi k + F_minn (F_pst σ nR nD nG nW mi k) nR nD nG nW (mi + k)
theorem c_passed_l {X : mX}  {h0 : mH} {R : Nat → Nat → Int32} {σ : Nat → Int32} {nR nD nG nW mi m : Nat} (hR12 : nR ≤ 12) (hD : nD ≤ 20) (hG : nG ≤ 4) (hW : nW ≤ 10) (hm : m ≤ 60) (hP : ∀ k, k < m → P_min (F_pst σ nR nD nG nW mi k) nR nD nG nW (mi + k)) : ∀ (d : Nat) (k : Nat) (h : mH) (a : Nat), m - k = d → k ≤ m → Ms h R (F_pst σ nR nD nG nW mi k) → Frm h0 h 313 8 → a = F_psn σ nR nD nG nW mi k → m_wp X 254 4 [some (.ref 313), some (.int (nI m)), some (.int (nI a)), some (.int (nI k))] [] h (fun w h1 => w = some (.int (nI (F_psn σ nR nD nG nW mi m))) ∧ Ms h1 R (F_pst σ nR nD nG nW mi m) ∧ Frm h0 h1 313 8) := by
  intro d
  induction d using Nat.strongRecOn with
  | ind d ih =>
    intro k h a hd hk hR hF ha
    refine wp_iload_n d254_4 rfl ?_
    refine wp_iload_n d254_5 rfl ?_
    refine wp_icmp_ge d254_6 (tgt := 22) (by decide) (fun hc6 => ?_) (fun hc6 => ?_)
    · have hc6 : m ≤ k := (nI_leI (by omega) (by omega)).mp hc6
      refine wp_iload_n d254_22 rfl ?_
      refine wp_iret d254_23 (by decide +kernel) ?_
      exact ⟨by rw [show m = k by omega, ha], by rw [show m = k by omega]; exact hR, hF⟩
    · have hc6 : ¬ (m ≤ k) := fun z => hc6 ((nI_leI (by omega) (by omega)).mpr z)
      refine wp_iload_n d254_9 rfl ?_
      refine wp_aload_n d254_10 rfl ?_
      refine wp_invvDI (e := 150) (j2 := 255) (n := 0) d254_11 (by decide +kernel) (by decide +kernel) rfl rfl rfl (md_0 hR) (by decide +kernel) (Nat.le_of_ble_eq_true rfl) rfl rfl (Nat.le_of_ble_eq_true rfl) (by decide +kernel) (c_minute hR (hP k (by omega)).1 hR12 hD (hP k (by omega)).2.1 hG hW (hP k (by omega)).2.2.1 (hP k (by omega)).2.2.2.1 (hP k (by omega)).2.2.2.2.1 (hP k (by omega)).2.2.2.2.2.1 (hP k (by omega)).2.2.2.2.2.2.1 (hP k (by omega)).2.2.2.2.2.2.2.1 (hP k (by omega)).2.2.2.2.2.2.2.2) hF ?_
      intro h hR hF
      refine wp_iaddv d254_14 (v := nI (a + F_minn (F_pst σ nR nD nG nW mi k) nR nD nG nW (mi + k))) (nI_add _ _) ?_
      refine wp_istore_n d254_15 (Nat.le_of_ble_eq_true rfl) rfl ?_
      refine wp_iinc d254_16 rfl (v := nI (k + 1)) (nI_add _ 1) (Nat.le_of_ble_eq_true rfl) rfl ?_
      refine wp_goto d254_19 (tgt := 4) (by decide) ?_
      exact ih (m - (k + 1)) (by omega) (k + 1) h _ rfl (by omega) hR hF (by rw [ha]; rfl)
theorem c_passed {X : mX} {h : mH} {R : Nat → Nat → Int32} {σ : Nat → Int32} (hR : Ms h R σ) {nR nD nG nW mi m : Nat} (hR12 : nR ≤ 12) (hD : nD ≤ 20) (hG : nG ≤ 4) (hW : nW ≤ 10) (hm : m ≤ 60) (hP : ∀ k, k < m → P_min (F_pst σ nR nD nG nW mi k) nR nD nG nW (mi + k)) : Does X 254 [.ref 313, .int (nI m)] h (R) (F_pst σ nR nD nG nW mi m) (some (.int (nI (F_psn σ nR nD nG nW mi m)))) := by
  have hF : Frm h h 313 8 := Frm.rf
  refine wp_iconst d254_0 (v := nI 0) (by decide) ?_
  refine wp_istore_n d254_1 (Nat.le_of_ble_eq_true rfl) rfl ?_
  refine wp_iconst d254_2 (v := nI 0) (by decide) ?_
  refine wp_istore_n d254_3 (Nat.le_of_ble_eq_true rfl) rfl ?_
  exact c_passed_l hR12 hD hG hW hm hP _ 0 h _ rfl (by omega) hR hF rfl
theorem r_why_1 {X : mX} {h : mH} {R : Nat → Nat → Int32} {σ : Nat → Int32} (hR : Ms h R σ) {mi nR nD nG nW nA n : Nat} (hC : Cn σ mi nR nD nG nW nA) (hn : R 0 5 = nI n) (hn4 : n ≤ 4) {x : Int32} (hx : ¬ (nI 1 ≤ x ∧ x ≤ nI 60)) : Tells X 253 [.ref 313, .int (x)] h (-2) := by
  obtain ⟨⟨h0, hmi⟩, ⟨h2, hR1, hR12⟩, ⟨h3, hD⟩, ⟨h4, hG⟩, ⟨h5, hW⟩, ⟨h6, hA⟩⟩ := hC
  refine wp_iload_n d253_0 rfl ?_
  refine wp_iconst d253_1 (v := nI 1) (by decide) ?_
  refine wp_bipush d253_2 (v := nI 60) (by decide) ?_
  refine wp_invsT (e := 39) (j2 := 210) (n := 3) d253_4 (by decide +kernel) (by decide +kernel) rfl rfl rfl (Nat.le_of_ble_eq_true rfl) (Nat.le_of_ble_eq_true rfl) rfl rfl (Nat.le_of_ble_eq_true rfl) (by decide +kernel) (c_within (x) (nI 1) (nI 60)) ?_
  refine wp_ifb_ne d253_7 (tgt := 15) (by decide) (fun hq9 => absurd hq9 hx) (fun _ => ?_)
  refine wp_bipush d253_10 (v := (-2 : Int32)) (by decide) ?_
  refine wp_goto d253_12 (tgt := 35) (by decide) ?_
  refine wp_iret d253_35 (by decide +kernel) ?_
  exact ⟨rfl, rfl⟩
theorem r_why_2 {X : mX} {h : mH} {R : Nat → Nat → Int32} {σ : Nat → Int32} (hR : Ms h R σ) {mi nR nD nG nW nA n : Nat} (hC : Cn σ mi nR nD nG nW nA) (hn : R 0 5 = nI n) (hn4 : n ≤ 4) {m : Nat} (hm1 : 1 ≤ m) (hm60 : m ≤ 60) (hl : ¬ mi + m ≤ 720) : Tells X 253 [.ref 313, .int (nI m)] h (-4) := by
  obtain ⟨⟨h0, hmi⟩, ⟨h2, hR1, hR12⟩, ⟨h3, hD⟩, ⟨h4, hG⟩, ⟨h5, hW⟩, ⟨h6, hA⟩⟩ := hC
  refine wp_iload_n d253_0 rfl ?_
  refine wp_iconst d253_1 (v := nI 1) (by decide) ?_
  refine wp_bipush d253_2 (v := nI 60) (by decide) ?_
  refine wp_invsT (e := 39) (j2 := 210) (n := 3) d253_4 (by decide +kernel) (by decide +kernel) rfl rfl rfl (Nat.le_of_ble_eq_true rfl) (Nat.le_of_ble_eq_true rfl) rfl rfl (Nat.le_of_ble_eq_true rfl) (by decide +kernel) (c_within (nI m) (nI 1) (nI 60)) ?_
  refine wp_ifb_ne d253_7 (tgt := 15) (by decide) (fun _ => ?_) (fun hq9 => absurd (⟨nI_le (by omega) (by omega), nI_le (by omega) (by omega)⟩ : nI 1 ≤ nI m ∧ nI m ≤ nI 60) hq9)
  refine wp_aload_n d253_15 rfl ?_
  refine wp_getf (e := 7) (ci := 12) (k := 0) (nest := false) d253_16 (by decide +kernel) (md_0 hR) rfl ?_
  refine wp_iconst d253_19 (v := nI 0) (by decide) ?_
  refine wp_iald d253_20 (md_1 hR) (nI_in (by omega) (by decide)) (v := nI mi) ((congrArg σ (nI_nat (by omega))).trans h0) ?_
  refine wp_iload_n d253_21 rfl ?_
  refine wp_iaddv d253_22 (v := nI (mi + m)) (nI_add _ _) ?_
  refine wp_sipush d253_23 (v := nI 720) (by decide) ?_
  refine wp_icmp_le d253_26 (tgt := 34) (by decide) (fun hq9 => absurd hq9 (fun q => hl ((nI_leI (by omega) (by omega)).mp q))) (fun _ => ?_)
  refine wp_bipush d253_29 (v := (-4 : Int32)) (by decide) ?_
  refine wp_goto d253_31 (tgt := 35) (by decide) ?_
  refine wp_iret d253_35 (by decide +kernel) ?_
  exact ⟨rfl, rfl⟩
theorem r_why_3 {X : mX} {h : mH} {R : Nat → Nat → Int32} {σ : Nat → Int32} (hR : Ms h R σ) {mi nR nD nG nW nA n : Nat} (hC : Cn σ mi nR nD nG nW nA) (hn : R 0 5 = nI n) (hn4 : n ≤ 4) {m : Nat} (hm1 : 1 ≤ m) (hm60 : m ≤ 60) (hl : mi + m ≤ 720) : Tells X 253 [.ref 313, .int (nI m)] h (nI 0) := by
  obtain ⟨⟨h0, hmi⟩, ⟨h2, hR1, hR12⟩, ⟨h3, hD⟩, ⟨h4, hG⟩, ⟨h5, hW⟩, ⟨h6, hA⟩⟩ := hC
  refine wp_iload_n d253_0 rfl ?_
  refine wp_iconst d253_1 (v := nI 1) (by decide) ?_
  refine wp_bipush d253_2 (v := nI 60) (by decide) ?_
  refine wp_invsT (e := 39) (j2 := 210) (n := 3) d253_4 (by decide +kernel) (by decide +kernel) rfl rfl rfl (Nat.le_of_ble_eq_true rfl) (Nat.le_of_ble_eq_true rfl) rfl rfl (Nat.le_of_ble_eq_true rfl) (by decide +kernel) (c_within (nI m) (nI 1) (nI 60)) ?_
  refine wp_ifb_ne d253_7 (tgt := 15) (by decide) (fun _ => ?_) (fun hq9 => absurd (⟨nI_le (by omega) (by omega), nI_le (by omega) (by omega)⟩ : nI 1 ≤ nI m ∧ nI m ≤ nI 60) hq9)
  refine wp_aload_n d253_15 rfl ?_
  refine wp_getf (e := 7) (ci := 12) (k := 0) (nest := false) d253_16 (by decide +kernel) (md_0 hR) rfl ?_
  refine wp_iconst d253_19 (v := nI 0) (by decide) ?_
  refine wp_iald d253_20 (md_1 hR) (nI_in (by omega) (by decide)) (v := nI mi) ((congrArg σ (nI_nat (by omega))).trans h0) ?_
  refine wp_iload_n d253_21 rfl ?_
  refine wp_iaddv d253_22 (v := nI (mi + m)) (nI_add _ _) ?_
  refine wp_sipush d253_23 (v := nI 720) (by decide) ?_
  refine wp_icmp_le d253_26 (tgt := 34) (by decide) (fun _ => ?_) (fun hq9 => absurd (nI_le hl (by omega)) hq9)
  refine wp_iconst d253_34 (v := nI 0) (by decide) ?_
  refine wp_iret d253_35 (by decide +kernel) ?_
  exact ⟨rfl, rfl⟩
theorem r_pass_1 {X : mX} {h : mH} {R : Nat → Nat → Int32} {σ : Nat → Int32} (hR : Ms h R σ) {mi nR nD nG nW nA n : Nat} (hC : Cn σ mi nR nD nG nW nA) (hn : R 0 5 = nI n) (hn4 : n ≤ 4) {x : Int32} (hx : ¬ (nI 1 ≤ x ∧ x ≤ nI 60)) : Tells X 252 [.ref 313, .int (x)] h (-2) := by
  obtain ⟨⟨h0, hmi⟩, ⟨h2, hR1, hR12⟩, ⟨h3, hD⟩, ⟨h4, hG⟩, ⟨h5, hW⟩, ⟨h6, hA⟩⟩ := hC
  refine wp_aload_n d252_0 rfl ?_
  refine wp_iload_n d252_1 rfl ?_
  refine wp_invvT (e := 153) (j2 := 253) (n := 1) d252_2 (by decide +kernel) (by decide +kernel) rfl rfl rfl (md_0 hR) (by decide +kernel) (Nat.le_of_ble_eq_true rfl) rfl rfl (Nat.le_of_ble_eq_true rfl) (by decide +kernel) (r_why_1 hR ⟨⟨h0, hmi⟩, ⟨h2, hR1, hR12⟩, ⟨h3, hD⟩, ⟨h4, hG⟩, ⟨h5, hW⟩, ⟨h6, hA⟩⟩ hn hn4 hx) ?_
  refine wp_istore_n d252_5 (Nat.le_of_ble_eq_true rfl) rfl ?_
  refine wp_iload_n d252_6 rfl ?_
  refine wp_if_ge d252_7 (tgt := 12) (by decide) (fun hz => absurd hz (by decide)) (fun _ => ?_)
  refine wp_iload_n d252_10 rfl ?_
  refine wp_iret d252_11 (by decide +kernel) ?_
  exact ⟨rfl, rfl⟩
theorem r_pass_2 {X : mX} {h : mH} {R : Nat → Nat → Int32} {σ : Nat → Int32} (hR : Ms h R σ) {mi nR nD nG nW nA n : Nat} (hC : Cn σ mi nR nD nG nW nA) (hn : R 0 5 = nI n) (hn4 : n ≤ 4) {m : Nat} (hm1 : 1 ≤ m) (hm60 : m ≤ 60) (hl : ¬ mi + m ≤ 720) : Tells X 252 [.ref 313, .int (nI m)] h (-4) := by
  obtain ⟨⟨h0, hmi⟩, ⟨h2, hR1, hR12⟩, ⟨h3, hD⟩, ⟨h4, hG⟩, ⟨h5, hW⟩, ⟨h6, hA⟩⟩ := hC
  refine wp_aload_n d252_0 rfl ?_
  refine wp_iload_n d252_1 rfl ?_
  refine wp_invvT (e := 153) (j2 := 253) (n := 1) d252_2 (by decide +kernel) (by decide +kernel) rfl rfl rfl (md_0 hR) (by decide +kernel) (Nat.le_of_ble_eq_true rfl) rfl rfl (Nat.le_of_ble_eq_true rfl) (by decide +kernel) (r_why_2 hR ⟨⟨h0, hmi⟩, ⟨h2, hR1, hR12⟩, ⟨h3, hD⟩, ⟨h4, hG⟩, ⟨h5, hW⟩, ⟨h6, hA⟩⟩ hn hn4 hm1 hm60 hl) ?_
  refine wp_istore_n d252_5 (Nat.le_of_ble_eq_true rfl) rfl ?_
  refine wp_iload_n d252_6 rfl ?_
  refine wp_if_ge d252_7 (tgt := 12) (by decide) (fun hz => absurd hz (by decide)) (fun _ => ?_)
  refine wp_iload_n d252_10 rfl ?_
  refine wp_iret d252_11 (by decide +kernel) ?_
  exact ⟨rfl, rfl⟩
theorem r_pass {X : mX} {h : mH} {R : Nat → Nat → Int32} {σ : Nat → Int32} (hR : Ms h R σ) {mi nR nD nG nW nA n : Nat} (hC : Cn σ mi nR nD nG nW nA) (hn : R 0 5 = nI n) (hn4 : n ≤ 4) {m : Nat} (hm1 : 1 ≤ m) (hm60 : m ≤ 60) (hl : mi + m ≤ 720) (hP : ∀ k, k < m → P_min (F_pst σ nR nD nG nW mi k) nR nD nG nW (mi + k)) : Does X 252 [.ref 313, .int (nI m)] h (F_rec R σ n) (F_pst σ nR nD nG nW mi m) (some (.int (nI (F_psn σ nR nD nG nW mi m)))) := by
  obtain ⟨⟨h0, hmi⟩, ⟨h2, hR1, hR12⟩, ⟨h3, hD⟩, ⟨h4, hG⟩, ⟨h5, hW⟩, ⟨h6, hA⟩⟩ := hC
  have hF : Frm h h 313 8 := Frm.rf
  refine wp_aload_n d252_0 rfl ?_
  refine wp_iload_n d252_1 rfl ?_
  refine wp_invvT (e := 153) (j2 := 253) (n := 1) d252_2 (by decide +kernel) (by decide +kernel) rfl rfl rfl (md_0 hR) (by decide +kernel) (Nat.le_of_ble_eq_true rfl) rfl rfl (Nat.le_of_ble_eq_true rfl) (by decide +kernel) (r_why_3 hR ⟨⟨h0, hmi⟩, ⟨h2, hR1, hR12⟩, ⟨h3, hD⟩, ⟨h4, hG⟩, ⟨h5, hW⟩, ⟨h6, hA⟩⟩ hn hn4 hm1 hm60 hl) ?_
  refine wp_istore_n d252_5 (Nat.le_of_ble_eq_true rfl) rfl ?_
  refine wp_iload_n d252_6 rfl ?_
  refine wp_if_ge d252_7 (tgt := 12) (by decide) (fun _ => ?_) (fun hz => absurd hz (by decide))
  refine wp_aload_n d252_12 rfl ?_
  refine wp_invvD (e := 50) (j2 := 212) (n := 0) d252_13 (by decide +kernel) (by decide +kernel) rfl rfl rfl (md_0 hR) (by decide +kernel) (Nat.le_of_ble_eq_true rfl) rfl rfl (Nat.le_of_ble_eq_true rfl) (by decide +kernel) (c_record hR hn hn4) hF ?_
  intro h hR hF
  refine wp_aload_n d252_16 rfl ?_
  refine wp_iload_n d252_17 rfl ?_
  refine wp_invvDI (e := 156) (j2 := 254) (n := 1) d252_18 (by decide +kernel) (by decide +kernel) rfl rfl rfl (md_0 hR) (by decide +kernel) (Nat.le_of_ble_eq_true rfl) rfl rfl (Nat.le_of_ble_eq_true rfl) (by decide +kernel) (c_passed hR hR12 hD hG hW hm60 hP) hF ?_
  intro h hR hF
  refine wp_iret d252_21 (by decide +kernel) ?_
  exact ⟨rfl, hR, hF⟩
theorem r_undo_1 {X : mX} {h : mH} {R : Nat → Nat → Int32} {σ : Nat → Int32} (hR : Ms h R σ) {mi nR nD nG nW nA n : Nat} (hC : Cn σ mi nR nD nG nW nA) (hn : R 0 5 = nI n) (hn4 : n ≤ 4) (hz : n = 0) : Tells X 273 [.ref 313] h (-5) := by
  obtain ⟨⟨h0, hmi⟩, ⟨h2, hR1, hR12⟩, ⟨h3, hD⟩, ⟨h4, hG⟩, ⟨h5, hW⟩, ⟨h6, hA⟩⟩ := hC
  refine wp_aload_n d273_0 rfl ?_
  refine wp_getf (e := 31) (ci := 12) (k := 5) (nest := false) (v := .int (nI n)) d273_1 (by decide +kernel) (md_0 hR) (by rw [← hn]; rfl) ?_
  refine wp_if_ne d273_4 (tgt := 10) (by decide) (fun hq9 => absurd (by rw [hz]; rfl : nI n = 0) hq9) (fun _ => ?_)
  refine wp_bipush d273_7 (v := (-5 : Int32)) (by decide) ?_
  refine wp_iret d273_9 (by decide +kernel) ?_
  exact ⟨rfl, rfl⟩
end
section
/-! The reference: undo, keep, restore, texts, the next night. -/
theorem d263_0 : decode (m_code 263) 0 = .ok (.aload_n 0, 1) := by decide +kernel
theorem d263_1 : decode (m_code 263) 1 = .ok (.invokevirtual 159, 3) := by decide +kernel
theorem d263_4 : decode (m_code 263) 4 = .ok (.ifCond .le 6, 3) := by decide +kernel
theorem d263_7 : decode (m_code 263) 7 = .ok (.bipush (-4), 2) := by decide +kernel
theorem d263_9 : decode (m_code 263) 9 = .ok (.ireturn, 1) := by decide +kernel
theorem d263_10 : decode (m_code 263) 10 = .ok (.aload_n 0, 1) := by decide +kernel
theorem d263_11 : decode (m_code 263) 11 = .ok (.invokevirtual 50, 3) := by decide +kernel
theorem d263_14 : decode (m_code 263) 14 = .ok (.aload_n 0, 1) := by decide +kernel
theorem d263_15 : decode (m_code 263) 15 = .ok (.getfield 7, 3) := by decide +kernel
theorem d263_18 : decode (m_code 263) 18 = .ok (.iconst 0, 1) := by decide +kernel
theorem d263_19 : decode (m_code 263) 19 = .ok (.iconst 0, 1) := by decide +kernel
theorem d263_20 : decode (m_code 263) 20 = .ok (.iastore, 1) := by decide +kernel
theorem d263_21 : decode (m_code 263) 21 = .ok (.aload_n 0, 1) := by decide +kernel
theorem d263_22 : decode (m_code 263) 22 = .ok (.getfield 7, 3) := by decide +kernel
theorem d263_25 : decode (m_code 263) 25 = .ok (.iconst 5, 1) := by decide +kernel
theorem d263_26 : decode (m_code 263) 26 = .ok (.iconst 0, 1) := by decide +kernel
theorem d263_27 : decode (m_code 263) 27 = .ok (.iastore, 1) := by decide +kernel
theorem d263_28 : decode (m_code 263) 28 = .ok (.aload_n 0, 1) := by decide +kernel
theorem d263_29 : decode (m_code 263) 29 = .ok (.getfield 7, 3) := by decide +kernel
theorem d263_32 : decode (m_code 263) 32 = .ok (.bipush 6, 2) := by decide +kernel
theorem d263_34 : decode (m_code 263) 34 = .ok (.iconst 0, 1) := by decide +kernel
theorem d263_35 : decode (m_code 263) 35 = .ok (.iastore, 1) := by decide +kernel
theorem d263_36 : decode (m_code 263) 36 = .ok (.aload_n 0, 1) := by decide +kernel
theorem d263_37 : decode (m_code 263) 37 = .ok (.getfield 7, 3) := by decide +kernel
theorem d263_40 : decode (m_code 263) 40 = .ok (.bipush 7, 2) := by decide +kernel
theorem d263_42 : decode (m_code 263) 42 = .ok (.iconst 0, 1) := by decide +kernel
theorem d263_43 : decode (m_code 263) 43 = .ok (.iastore, 1) := by decide +kernel
theorem d263_44 : decode (m_code 263) 44 = .ok (.iconst 0, 1) := by decide +kernel
theorem d263_45 : decode (m_code 263) 45 = .ok (.istore_n 1, 1) := by decide +kernel
theorem d263_46 : decode (m_code 263) 46 = .ok (.iload_n 1, 1) := by decide +kernel
theorem d263_47 : decode (m_code 263) 47 = .ok (.bipush 6, 2) := by decide +kernel
theorem d263_49 : decode (m_code 263) 49 = .ok (.if_icmp .ge 19, 3) := by decide +kernel
theorem d263_52 : decode (m_code 263) 52 = .ok (.aload_n 0, 1) := by decide +kernel
theorem d263_53 : decode (m_code 263) 53 = .ok (.getfield 7, 3) := by decide +kernel
theorem d263_56 : decode (m_code 263) 56 = .ok (.bipush 8, 2) := by decide +kernel
theorem d263_58 : decode (m_code 263) 58 = .ok (.iload_n 1, 1) := by decide +kernel
theorem d263_59 : decode (m_code 263) 59 = .ok (.iadd, 1) := by decide +kernel
theorem d263_60 : decode (m_code 263) 60 = .ok (.iconst 0, 1) := by decide +kernel
theorem d263_61 : decode (m_code 263) 61 = .ok (.iastore, 1) := by decide +kernel
theorem d263_62 : decode (m_code 263) 62 = .ok (.iinc 1 1, 3) := by decide +kernel
theorem d263_65 : decode (m_code 263) 65 = .ok (.goto (-19), 3) := by decide +kernel
theorem d263_68 : decode (m_code 263) 68 = .ok (.iconst 0, 1) := by decide +kernel
theorem d263_69 : decode (m_code 263) 69 = .ok (.istore_n 1, 1) := by decide +kernel
theorem d263_70 : decode (m_code 263) 70 = .ok (.iload_n 1, 1) := by decide +kernel
theorem d263_71 : decode (m_code 263) 71 = .ok (.aload_n 0, 1) := by decide +kernel
theorem d263_72 : decode (m_code 263) 72 = .ok (.getfield 7, 3) := by decide +kernel
theorem d263_75 : decode (m_code 263) 75 = .ok (.iconst 2, 1) := by decide +kernel
theorem d263_76 : decode (m_code 263) 76 = .ok (.iaload, 1) := by decide +kernel
theorem d263_77 : decode (m_code 263) 77 = .ok (.if_icmp .ge 37, 3) := by decide +kernel
theorem d263_80 : decode (m_code 263) 80 = .ok (.iconst 2, 1) := by decide +kernel
theorem d263_81 : decode (m_code 263) 81 = .ok (.istore_n 2, 1) := by decide +kernel
theorem d263_82 : decode (m_code 263) 82 = .ok (.iload_n 2, 1) := by decide +kernel
theorem d263_83 : decode (m_code 263) 83 = .ok (.iconst 5, 1) := by decide +kernel
theorem d263_84 : decode (m_code 263) 84 = .ok (.if_icmp .gt 24, 3) := by decide +kernel
theorem d263_87 : decode (m_code 263) 87 = .ok (.aload_n 0, 1) := by decide +kernel
theorem d263_88 : decode (m_code 263) 88 = .ok (.getfield 7, 3) := by decide +kernel
theorem d263_91 : decode (m_code 263) 91 = .ok (.bipush 20, 2) := by decide +kernel
theorem d263_93 : decode (m_code 263) 93 = .ok (.bipush 6, 2) := by decide +kernel
theorem d263_95 : decode (m_code 263) 95 = .ok (.iload_n 1, 1) := by decide +kernel
theorem d263_96 : decode (m_code 263) 96 = .ok (.imul, 1) := by decide +kernel
theorem d263_97 : decode (m_code 263) 97 = .ok (.iadd, 1) := by decide +kernel
theorem d263_98 : decode (m_code 263) 98 = .ok (.iload_n 2, 1) := by decide +kernel
theorem d263_99 : decode (m_code 263) 99 = .ok (.iadd, 1) := by decide +kernel
theorem d263_100 : decode (m_code 263) 100 = .ok (.iconst 0, 1) := by decide +kernel
theorem d263_101 : decode (m_code 263) 101 = .ok (.iastore, 1) := by decide +kernel
theorem d263_102 : decode (m_code 263) 102 = .ok (.iinc 2 1, 3) := by decide +kernel
theorem d263_105 : decode (m_code 263) 105 = .ok (.goto (-23), 3) := by decide +kernel
theorem d263_108 : decode (m_code 263) 108 = .ok (.iinc 1 1, 3) := by decide +kernel
theorem d263_111 : decode (m_code 263) 111 = .ok (.goto (-41), 3) := by decide +kernel
theorem d263_114 : decode (m_code 263) 114 = .ok (.iconst 0, 1) := by decide +kernel
theorem d263_115 : decode (m_code 263) 115 = .ok (.istore_n 1, 1) := by decide +kernel
theorem d263_116 : decode (m_code 263) 116 = .ok (.iload_n 1, 1) := by decide +kernel
theorem d263_117 : decode (m_code 263) 117 = .ok (.aload_n 0, 1) := by decide +kernel
theorem d263_118 : decode (m_code 263) 118 = .ok (.getfield 7, 3) := by decide +kernel
theorem d263_121 : decode (m_code 263) 121 = .ok (.iconst 4, 1) := by decide +kernel
theorem d263_122 : decode (m_code 263) 122 = .ok (.iaload, 1) := by decide +kernel
theorem d263_123 : decode (m_code 263) 123 = .ok (.if_icmp .ge 38, 3) := by decide +kernel
theorem d263_126 : decode (m_code 263) 126 = .ok (.iconst 0, 1) := by decide +kernel
theorem d263_127 : decode (m_code 263) 127 = .ok (.istore_n 2, 1) := by decide +kernel
theorem d263_128 : decode (m_code 263) 128 = .ok (.iload_n 2, 1) := by decide +kernel
theorem d263_129 : decode (m_code 263) 129 = .ok (.bipush 10, 2) := by decide +kernel
theorem d263_131 : decode (m_code 263) 131 = .ok (.if_icmp .ge 16, 3) := by decide +kernel
theorem d263_134 : decode (m_code 263) 134 = .ok (.aload_n 0, 1) := by decide +kernel
theorem d263_135 : decode (m_code 263) 135 = .ok (.iload_n 1, 1) := by decide +kernel
theorem d263_136 : decode (m_code 263) 136 = .ok (.iload_n 2, 1) := by decide +kernel
theorem d263_137 : decode (m_code 263) 137 = .ok (.iconst 0, 1) := by decide +kernel
theorem d263_138 : decode (m_code 263) 138 = .ok (.invokevirtual 87, 3) := by decide +kernel
theorem d263_141 : decode (m_code 263) 141 = .ok (.iinc 2 1, 3) := by decide +kernel
theorem d263_144 : decode (m_code 263) 144 = .ok (.goto (-16), 3) := by decide +kernel
theorem d263_147 : decode (m_code 263) 147 = .ok (.aload_n 0, 1) := by decide +kernel
theorem d263_148 : decode (m_code 263) 148 = .ok (.iload_n 1, 1) := by decide +kernel
theorem d263_149 : decode (m_code 263) 149 = .ok (.iconst 1, 1) := by decide +kernel
theorem d263_150 : decode (m_code 263) 150 = .ok (.bipush (-5), 2) := by decide +kernel
theorem d263_152 : decode (m_code 263) 152 = .ok (.invokevirtual 87, 3) := by decide +kernel
theorem d263_155 : decode (m_code 263) 155 = .ok (.iinc 1 1, 3) := by decide +kernel
theorem d263_158 : decode (m_code 263) 158 = .ok (.goto (-42), 3) := by decide +kernel
theorem d263_161 : decode (m_code 263) 161 = .ok (.sipush 578, 3) := by decide +kernel
theorem d263_164 : decode (m_code 263) 164 = .ok (.istore_n 1, 1) := by decide +kernel
theorem d263_165 : decode (m_code 263) 165 = .ok (.iload_n 1, 1) := by decide +kernel
theorem d263_166 : decode (m_code 263) 166 = .ok (.sipush 4178, 3) := by decide +kernel
theorem d263_169 : decode (m_code 263) 169 = .ok (.if_icmp .ge 16, 3) := by decide +kernel
theorem d263_172 : decode (m_code 263) 172 = .ok (.aload_n 0, 1) := by decide +kernel
theorem d263_173 : decode (m_code 263) 173 = .ok (.getfield 7, 3) := by decide +kernel
theorem d263_176 : decode (m_code 263) 176 = .ok (.iload_n 1, 1) := by decide +kernel
theorem d263_177 : decode (m_code 263) 177 = .ok (.iconst 0, 1) := by decide +kernel
theorem d263_178 : decode (m_code 263) 178 = .ok (.iastore, 1) := by decide +kernel
theorem d263_179 : decode (m_code 263) 179 = .ok (.iinc 1 1, 3) := by decide +kernel
theorem d263_182 : decode (m_code 263) 182 = .ok (.goto (-17), 3) := by decide +kernel
theorem d263_185 : decode (m_code 263) 185 = .ok (.aload_n 0, 1) := by decide +kernel
theorem d263_186 : decode (m_code 263) 186 = .ok (.getfield 7, 3) := by decide +kernel
theorem d263_189 : decode (m_code 263) 189 = .ok (.iconst 1, 1) := by decide +kernel
theorem d263_190 : decode (m_code 263) 190 = .ok (.dup2, 1) := by decide +kernel
theorem d263_191 : decode (m_code 263) 191 = .ok (.iaload, 1) := by decide +kernel
theorem d263_192 : decode (m_code 263) 192 = .ok (.iconst 1, 1) := by decide +kernel
theorem d263_193 : decode (m_code 263) 193 = .ok (.iadd, 1) := by decide +kernel
theorem d263_194 : decode (m_code 263) 194 = .ok (.iastore, 1) := by decide +kernel
theorem d263_195 : decode (m_code 263) 195 = .ok (.aload_n 0, 1) := by decide +kernel
theorem d263_196 : decode (m_code 263) 196 = .ok (.getfield 7, 3) := by decide +kernel
theorem d263_199 : decode (m_code 263) 199 = .ok (.iconst 1, 1) := by decide +kernel
theorem d263_200 : decode (m_code 263) 200 = .ok (.iaload, 1) := by decide +kernel
theorem d263_201 : decode (m_code 263) 201 = .ok (.ireturn, 1) := by decide +kernel
theorem d265_0 : decode (m_code 265) 0 = .ok (.aload_n 0, 1) := by decide +kernel
theorem d265_1 : decode (m_code 265) 1 = .ok (.getfield 162, 3) := by decide +kernel
theorem d265_4 : decode (m_code 265) 4 = .ok (.bipush 60, 2) := by decide +kernel
theorem d265_6 : decode (m_code 265) 6 = .ok (.if_icmp .ne 6, 3) := by decide +kernel
theorem d265_9 : decode (m_code 265) 9 = .ok (.bipush (-3), 2) := by decide +kernel
theorem d265_11 : decode (m_code 265) 11 = .ok (.ireturn, 1) := by decide +kernel
theorem d265_12 : decode (m_code 265) 12 = .ok (.aload_n 0, 1) := by decide +kernel
theorem d265_13 : decode (m_code 265) 13 = .ok (.getfield 22, 3) := by decide +kernel
theorem d265_16 : decode (m_code 265) 16 = .ok (.aload_n 0, 1) := by decide +kernel
theorem d265_17 : decode (m_code 265) 17 = .ok (.getfield 162, 3) := by decide +kernel
theorem d265_20 : decode (m_code 265) 20 = .ok (.iload_n 1, 1) := by decide +kernel
theorem d265_21 : decode (m_code 265) 21 = .ok (.iastore, 1) := by decide +kernel
theorem d265_22 : decode (m_code 265) 22 = .ok (.aload_n 0, 1) := by decide +kernel
theorem d265_23 : decode (m_code 265) 23 = .ok (.dup, 1) := by decide +kernel
theorem d265_24 : decode (m_code 265) 24 = .ok (.getfield 162, 3) := by decide +kernel
theorem d265_27 : decode (m_code 265) 27 = .ok (.iconst 1, 1) := by decide +kernel
theorem d265_28 : decode (m_code 265) 28 = .ok (.iadd, 1) := by decide +kernel
theorem d265_29 : decode (m_code 265) 29 = .ok (.putfield 162, 3) := by decide +kernel
theorem d265_32 : decode (m_code 265) 32 = .ok (.aload_n 0, 1) := by decide +kernel
theorem d265_33 : decode (m_code 265) 33 = .ok (.getfield 162, 3) := by decide +kernel
theorem d265_36 : decode (m_code 265) 36 = .ok (.ireturn, 1) := by decide +kernel
theorem d266_0 : decode (m_code 266) 0 = .ok (.aload_n 0, 1) := by decide +kernel
theorem d266_1 : decode (m_code 266) 1 = .ok (.getfield 162, 3) := by decide +kernel
theorem d266_4 : decode (m_code 266) 4 = .ok (.istore_n 1, 1) := by decide +kernel
theorem d266_5 : decode (m_code 266) 5 = .ok (.aload_n 0, 1) := by decide +kernel
theorem d266_6 : decode (m_code 266) 6 = .ok (.iconst 0, 1) := by decide +kernel
theorem d266_7 : decode (m_code 266) 7 = .ok (.putfield 162, 3) := by decide +kernel
theorem d266_10 : decode (m_code 266) 10 = .ok (.iload_n 1, 1) := by decide +kernel
theorem d266_11 : decode (m_code 266) 11 = .ok (.ireturn, 1) := by decide +kernel
theorem d273_10 : decode (m_code 273) 10 = .ok (.aload_n 0, 1) := by decide +kernel
theorem d273_11 : decode (m_code 273) 11 = .ok (.dup, 1) := by decide +kernel
theorem d273_12 : decode (m_code 273) 12 = .ok (.getfield 31, 3) := by decide +kernel
theorem d273_15 : decode (m_code 273) 15 = .ok (.iconst 1, 1) := by decide +kernel
theorem d273_16 : decode (m_code 273) 16 = .ok (.isub, 1) := by decide +kernel
theorem d273_17 : decode (m_code 273) 17 = .ok (.putfield 31, 3) := by decide +kernel
theorem d273_20 : decode (m_code 273) 20 = .ok (.aload_n 0, 1) := by decide +kernel
theorem d273_21 : decode (m_code 273) 21 = .ok (.getfield 19, 3) := by decide +kernel
theorem d273_24 : decode (m_code 273) 24 = .ok (.aload_n 0, 1) := by decide +kernel
theorem d273_25 : decode (m_code 273) 25 = .ok (.getfield 31, 3) := by decide +kernel
theorem d273_28 : decode (m_code 273) 28 = .ok (.sipush 4178, 3) := by decide +kernel
theorem d273_31 : decode (m_code 273) 31 = .ok (.imul, 1) := by decide +kernel
theorem d273_32 : decode (m_code 273) 32 = .ok (.aload_n 0, 1) := by decide +kernel
theorem d273_33 : decode (m_code 273) 33 = .ok (.getfield 7, 3) := by decide +kernel
theorem d273_36 : decode (m_code 273) 36 = .ok (.iconst 0, 1) := by decide +kernel
theorem d273_37 : decode (m_code 273) 37 = .ok (.invokestatic 35, 3) := by decide +kernel
theorem d273_40 : decode (m_code 273) 40 = .ok (.aload_n 0, 1) := by decide +kernel
theorem d273_41 : decode (m_code 273) 41 = .ok (.getfield 31, 3) := by decide +kernel
theorem d273_44 : decode (m_code 273) 44 = .ok (.ireturn, 1) := by decide +kernel
theorem d274_0 : decode (m_code 274) 0 = .ok (.aload_n 0, 1) := by decide +kernel
theorem d274_1 : decode (m_code 274) 1 = .ok (.getfield 7, 3) := by decide +kernel
theorem d274_4 : decode (m_code 274) 4 = .ok (.iconst 0, 1) := by decide +kernel
theorem d274_5 : decode (m_code 274) 5 = .ok (.aload_n 0, 1) := by decide +kernel
theorem d274_6 : decode (m_code 274) 6 = .ok (.getfield 16, 3) := by decide +kernel
theorem d274_9 : decode (m_code 274) 9 = .ok (.iconst 0, 1) := by decide +kernel
theorem d274_10 : decode (m_code 274) 10 = .ok (.invokestatic 35, 3) := by decide +kernel
theorem d274_13 : decode (m_code 274) 13 = .ok (.aload_n 0, 1) := by decide +kernel
theorem d274_14 : decode (m_code 274) 14 = .ok (.iconst 1, 1) := by decide +kernel
theorem d274_15 : decode (m_code 274) 15 = .ok (.putfield 183, 3) := by decide +kernel
theorem d274_18 : decode (m_code 274) 18 = .ok (.aload_n 0, 1) := by decide +kernel
theorem d274_19 : decode (m_code 274) 19 = .ok (.getfield 7, 3) := by decide +kernel
theorem d274_22 : decode (m_code 274) 22 = .ok (.iconst 0, 1) := by decide +kernel
theorem d274_23 : decode (m_code 274) 23 = .ok (.iaload, 1) := by decide +kernel
theorem d274_24 : decode (m_code 274) 24 = .ok (.ireturn, 1) := by decide +kernel
theorem d275_0 : decode (m_code 275) 0 = .ok (.aload_n 0, 1) := by decide +kernel
theorem d275_1 : decode (m_code 275) 1 = .ok (.getfield 183, 3) := by decide +kernel
theorem d275_4 : decode (m_code 275) 4 = .ok (.ifCond .ne 6, 3) := by decide +kernel
theorem d275_7 : decode (m_code 275) 7 = .ok (.bipush (-5), 2) := by decide +kernel
theorem d275_9 : decode (m_code 275) 9 = .ok (.ireturn, 1) := by decide +kernel
theorem d275_10 : decode (m_code 275) 10 = .ok (.aload_n 0, 1) := by decide +kernel
theorem d275_11 : decode (m_code 275) 11 = .ok (.invokevirtual 50, 3) := by decide +kernel
theorem d275_14 : decode (m_code 275) 14 = .ok (.aload_n 0, 1) := by decide +kernel
theorem d275_15 : decode (m_code 275) 15 = .ok (.getfield 16, 3) := by decide +kernel
theorem d275_18 : decode (m_code 275) 18 = .ok (.iconst 0, 1) := by decide +kernel
theorem d275_19 : decode (m_code 275) 19 = .ok (.aload_n 0, 1) := by decide +kernel
theorem d275_20 : decode (m_code 275) 20 = .ok (.getfield 7, 3) := by decide +kernel
theorem d275_23 : decode (m_code 275) 23 = .ok (.iconst 0, 1) := by decide +kernel
theorem d275_24 : decode (m_code 275) 24 = .ok (.invokestatic 35, 3) := by decide +kernel
theorem d275_27 : decode (m_code 275) 27 = .ok (.aload_n 0, 1) := by decide +kernel
theorem d275_28 : decode (m_code 275) 28 = .ok (.getfield 7, 3) := by decide +kernel
theorem d275_31 : decode (m_code 275) 31 = .ok (.iconst 0, 1) := by decide +kernel
theorem d275_32 : decode (m_code 275) 32 = .ok (.iaload, 1) := by decide +kernel
theorem d275_33 : decode (m_code 275) 33 = .ok (.ireturn, 1) := by decide +kernel
theorem r_undo {X : mX} {h : mH} {R : Nat → Nat → Int32} {σ : Nat → Int32} (hR : Ms h R σ) {mi nR nD nG nW nA n : Nat} (hC : Cn σ mi nR nD nG nW nA) (hn : R 0 5 = nI n) (hn4 : n ≤ 4) (hz : 0 < n) : Does X 273 [.ref 313] h (updM R 0 5 (nI (n - 1))) (va_cpy (R 4) σ ((n - 1) * 4178) 0 4178) (some (.int (nI (n - 1)))) := by
  obtain ⟨⟨h0, hmi⟩, ⟨h2, hR1, hR12⟩, ⟨h3, hD⟩, ⟨h4, hG⟩, ⟨h5, hW⟩, ⟨h6, hA⟩⟩ := hC
  have hF : Frm h h 313 8 := Frm.rf
  refine wp_aload_n d273_0 rfl ?_
  refine wp_getf (e := 31) (ci := 12) (k := 5) (nest := false) (v := .int (nI n)) d273_1 (by decide +kernel) (md_0 hR) (by rw [← hn]; rfl) ?_
  refine wp_if_ne d273_4 (tgt := 10) (by decide) (fun _ => ?_) (fun hq9 => absurd hq9 (nI_ne0 hz (by omega)))
  refine wp_aload_n d273_10 rfl ?_
  refine wp_dup d273_11 rfl ?_
  refine wp_getf (e := 31) (ci := 12) (k := 5) (nest := false) (v := .int (nI n)) d273_12 (by decide +kernel) (md_0 hR) (by rw [← hn]; rfl) ?_
  refine wp_iconst d273_15 (v := nI 1) (by decide) ?_
  refine wp_isubv d273_16 (v := nI (n - 1)) (nI_sub (by omega) (by omega)) ?_
  refine wp_putf (e := 31) (ci := 12) (k := 5) (nest := false) d273_17 (by decide +kernel) (md_0 hR) (Nat.le_of_ble_eq_true rfl) rfl (Or.inl (by decide +kernel)) ?_
  have hF := hF.trans (Frm.set (o := 0) (cl := .inr (12, ([.ref 314, .ref 315, .ref 316, .int (R 0 3), .ref 317, .int (R 0 5), .ref 318, .int (R 0 7), .ref 319, .ref 320, .int (R 0 10)] : List Value).set 5 (.int (nI (n - 1))))) (by decide) : Frm _ _ 313 8)
  have hR := md_put0 (k := 5) (v := nI (n - 1)) hR (by decide)
  refine wp_aload_n d273_20 rfl ?_
  refine wp_getf (e := 19) (ci := 12) (k := 4) (nest := false) d273_21 (by decide +kernel) (md_0 hR) rfl ?_
  refine wp_aload_n d273_24 rfl ?_
  refine wp_getf (e := 31) (ci := 12) (k := 5) (nest := false) (v := .int (nI (n - 1))) d273_25 (by decide +kernel) (md_0 hR) rfl ?_
  refine wp_sipush d273_28 (v := nI 4178) (by decide) ?_
  refine wp_imulv d273_31 (v := nI ((n - 1) * 4178)) (nI_mul _ _) ?_
  refine wp_aload_n d273_32 rfl ?_
  refine wp_getf (e := 7) (ci := 12) (k := 0) (nest := false) d273_33 (by decide +kernel) (md_0 hR) rfl ?_
  refine wp_iconst d273_36 (v := nI 0) (by decide) ?_
  refine wp_invs (e := 35) (j2 := 213) (n := 4) d273_37 (by decide +kernel) (by decide +kernel) rfl rfl rfl (Nat.le_of_ble_eq_true rfl) (Nat.le_of_ble_eq_true rfl) rfl rfl (Nat.le_of_ble_eq_true rfl) (by decide +kernel) (c_copy (f := (n - 1) * 4178) (t := 0) (md_4 hR) (md_1 hR) (by decide) (by omega) (by omega) (by decide) (by decide)) ?_
  rintro _ _ ⟨rfl, rfl⟩
  have hF := hF.trans (Frm.set (o := 1) (cl := .inl (false, 4178, (va_cpy ((updM R 0 5 (nI (n - 1))) 4) σ ((n - 1) * 4178) (0) 4178))) (by decide) : Frm _ _ 313 8)
  have hR := md_putS (f := (va_cpy ((updM R 0 5 (nI (n - 1))) 4) σ ((n - 1) * 4178) (0) 4178)) hR
  refine wp_aload_n d273_40 rfl ?_
  refine wp_getf (e := 31) (ci := 12) (k := 5) (nest := false) (v := .int (nI (n - 1))) d273_41 (by decide +kernel) (md_0 hR) rfl ?_
  refine wp_iret d273_44 (by decide +kernel) ?_
  exact ⟨rfl, hR, hF⟩
theorem r_keep {X : mX} {h : mH} {R : Nat → Nat → Int32} {σ : Nat → Int32} (hR : Ms h R σ) {mi nR nD nG nW nA n : Nat} (hC : Cn σ mi nR nD nG nW nA) (hn : R 0 5 = nI n) (hn4 : n ≤ 4)  : Does X 274 [.ref 313] h (updM (stM R 3 (va_cpy σ (R 3) 0 0 4178)) 0 3 (nI 1)) (σ) (some (.int (nI mi))) := by
  obtain ⟨⟨h0, hmi⟩, ⟨h2, hR1, hR12⟩, ⟨h3, hD⟩, ⟨h4, hG⟩, ⟨h5, hW⟩, ⟨h6, hA⟩⟩ := hC
  have hF : Frm h h 313 8 := Frm.rf
  refine wp_aload_n d274_0 rfl ?_
  refine wp_getf (e := 7) (ci := 12) (k := 0) (nest := false) d274_1 (by decide +kernel) (md_0 hR) rfl ?_
  refine wp_iconst d274_4 (v := nI 0) (by decide) ?_
  refine wp_aload_n d274_5 rfl ?_
  refine wp_getf (e := 16) (ci := 12) (k := 2) (nest := false) d274_6 (by decide +kernel) (md_0 hR) rfl ?_
  refine wp_iconst d274_9 (v := nI 0) (by decide) ?_
  refine wp_invs (e := 35) (j2 := 213) (n := 4) d274_10 (by decide +kernel) (by decide +kernel) rfl rfl rfl (Nat.le_of_ble_eq_true rfl) (Nat.le_of_ble_eq_true rfl) rfl rfl (Nat.le_of_ble_eq_true rfl) (by decide +kernel) (c_copy (f := 0) (t := 0) (md_1 hR) (md_3 hR) (by decide) (by omega) (by omega) (by decide) (by decide)) ?_
  rintro _ _ ⟨rfl, rfl⟩
  have hF := hF.trans (Frm.set (o := 3) (cl := .inl (false, 4178, (va_cpy σ (R 3) (0) (0) 4178))) (by decide) : Frm _ _ 313 8)
  have hR := md_putA (o := 3) (n := 4178) (f := (va_cpy σ (R 3) (0) (0) 4178)) hR (by decide) rfl rfl
  refine wp_aload_n d274_13 rfl ?_
  refine wp_iconst d274_14 (v := nI 1) (by decide) ?_
  refine wp_putf (e := 183) (ci := 12) (k := 3) (nest := false) d274_15 (by decide +kernel) (md_0 hR) (Nat.le_of_ble_eq_true rfl) rfl (Or.inl (by decide +kernel)) ?_
  have hF := hF.trans (Frm.set (o := 0) (cl := .inr (12, ([.ref 314, .ref 315, .ref 316, .int ((stM R 3 (va_cpy σ (R 3) (0) (0) 4178)) 0 3), .ref 317, .int ((stM R 3 (va_cpy σ (R 3) (0) (0) 4178)) 0 5), .ref 318, .int ((stM R 3 (va_cpy σ (R 3) (0) (0) 4178)) 0 7), .ref 319, .ref 320, .int ((stM R 3 (va_cpy σ (R 3) (0) (0) 4178)) 0 10)] : List Value).set 3 (.int (nI 1)))) (by decide) : Frm _ _ 313 8)
  have hR := md_put0 (k := 3) (v := nI 1) hR (by decide)
  refine wp_aload_n d274_18 rfl ?_
  refine wp_getf (e := 7) (ci := 12) (k := 0) (nest := false) d274_19 (by decide +kernel) (md_0 hR) rfl ?_
  refine wp_iconst d274_22 (v := nI 0) (by decide) ?_
  refine wp_iald d274_23 (md_1 hR) (nI_in (by omega) (by decide)) (v := nI mi) ((congrArg σ (nI_nat (by omega))).trans h0) ?_
  refine wp_iret d274_24 (by decide +kernel) ?_
  exact ⟨rfl, hR, hF⟩
theorem r_restore_1 {X : mX} {h : mH} {R : Nat → Nat → Int32} {σ : Nat → Int32} (hR : Ms h R σ) {mi nR nD nG nW nA n : Nat} (hC : Cn σ mi nR nD nG nW nA) (hn : R 0 5 = nI n) (hn4 : n ≤ 4) (hz : R 0 3 = 0) : Tells X 275 [.ref 313] h (-5) := by
  obtain ⟨⟨h0, hmi⟩, ⟨h2, hR1, hR12⟩, ⟨h3, hD⟩, ⟨h4, hG⟩, ⟨h5, hW⟩, ⟨h6, hA⟩⟩ := hC
  refine wp_aload_n d275_0 rfl ?_
  refine wp_getf (e := 183) (ci := 12) (k := 3) (nest := false) d275_1 (by decide +kernel) (md_0 hR) rfl ?_
  refine wp_if_ne d275_4 (tgt := 10) (by decide) (fun hq9 => absurd hz hq9) (fun _ => ?_)
  refine wp_bipush d275_7 (v := (-5 : Int32)) (by decide) ?_
  refine wp_iret d275_9 (by decide +kernel) ?_
  exact ⟨rfl, rfl⟩
theorem F_rec_o (R : Nat → Nat → Int32) (σ : Nat → Int32) (n o : Nat) (h0 : o ≠ 0) (h4 : o ≠ 4) : F_rec R σ n o = R o := by
  unfold F_rec
  split <;> (unfold stM updM; rw [if_neg h4, if_neg h0])
theorem r_restore {X : mX} {h : mH} {R : Nat → Nat → Int32} {σ : Nat → Int32} (hR : Ms h R σ) {mi nR nD nG nW nA n : Nat} (hC : Cn σ mi nR nD nG nW nA) (hn : R 0 5 = nI n) (hn4 : n ≤ 4) (hz : ¬ R 0 3 = 0) : Does X 275 [.ref 313] h (F_rec R σ n) (va_cpy (R 3) σ 0 0 4178) (some (.int (R 3 0))) := by
  obtain ⟨⟨h0, hmi⟩, ⟨h2, hR1, hR12⟩, ⟨h3, hD⟩, ⟨h4, hG⟩, ⟨h5, hW⟩, ⟨h6, hA⟩⟩ := hC
  have hF : Frm h h 313 8 := Frm.rf
  refine wp_aload_n d275_0 rfl ?_
  refine wp_getf (e := 183) (ci := 12) (k := 3) (nest := false) d275_1 (by decide +kernel) (md_0 hR) rfl ?_
  refine wp_if_ne d275_4 (tgt := 10) (by decide) (fun _ => ?_) (fun hq9 => absurd hq9 hz)
  refine wp_aload_n d275_10 rfl ?_
  refine wp_invvD (e := 50) (j2 := 212) (n := 0) d275_11 (by decide +kernel) (by decide +kernel) rfl rfl rfl (md_0 hR) (by decide +kernel) (Nat.le_of_ble_eq_true rfl) rfl rfl (Nat.le_of_ble_eq_true rfl) (by decide +kernel) (c_record hR hn hn4) hF ?_
  intro h hR hF
  refine wp_aload_n d275_14 rfl ?_
  refine wp_getf (e := 16) (ci := 12) (k := 2) (nest := false) d275_15 (by decide +kernel) (md_0 hR) rfl ?_
  refine wp_iconst d275_18 (v := nI 0) (by decide) ?_
  refine wp_aload_n d275_19 rfl ?_
  refine wp_getf (e := 7) (ci := 12) (k := 0) (nest := false) d275_20 (by decide +kernel) (md_0 hR) rfl ?_
  refine wp_iconst d275_23 (v := nI 0) (by decide) ?_
  refine wp_invs (e := 35) (j2 := 213) (n := 4) d275_24 (by decide +kernel) (by decide +kernel) rfl rfl rfl (Nat.le_of_ble_eq_true rfl) (Nat.le_of_ble_eq_true rfl) rfl rfl (Nat.le_of_ble_eq_true rfl) (by decide +kernel) (c_copy (f := 0) (t := 0) (md_3 hR) (md_1 hR) (by decide) (by omega) (by omega) (by decide) (by decide)) ?_
  rintro _ _ ⟨rfl, rfl⟩
  have hF := hF.trans (Frm.set (o := 1) (cl := .inl (false, 4178, (va_cpy ((F_rec R σ n) 3) σ (0) (0) 4178))) (by decide) : Frm _ _ 313 8)
  have hR := md_putS (f := (va_cpy ((F_rec R σ n) 3) σ (0) (0) 4178)) hR
  refine wp_aload_n d275_27 rfl ?_
  refine wp_getf (e := 7) (ci := 12) (k := 0) (nest := false) d275_28 (by decide +kernel) (md_0 hR) rfl ?_
  refine wp_iconst d275_31 (v := nI 0) (by decide) ?_
  refine wp_iald d275_32 (md_1 hR) (nI_in (by omega) (by decide)) (v := ((va_cpy ((F_rec R σ n) 3) σ (0) (0) 4178)) 0) ((congrArg ((va_cpy ((F_rec R σ n) 3) σ (0) (0) 4178)) (nI_nat (by omega))).trans rfl) ?_
  refine wp_iret d275_33 (by decide +kernel) ?_
  refine ⟨?_, ?_, hF⟩
  · rw [F_rec_o R σ n 3 (by decide) (by decide)]; rfl
  · have e := F_rec_o R σ n 3 (by decide) (by decide)
    rw [← e]
    exact hR
theorem r_type_1 {X : mX} {h : mH} {R : Nat → Nat → Int32} {σ : Nat → Int32} (hR : Ms h R σ) {tl : Nat} (ht : R 0 7 = nI tl) (htl : tl ≤ 60) {x : Int32} (hf : tl = 60) : Tells X 265 [.ref 313, .int (x)] h (-3) := by
  refine wp_aload_n d265_0 rfl ?_
  refine wp_getf (e := 162) (ci := 12) (k := 7) (nest := false) (v := .int (nI tl)) d265_1 (by decide +kernel) (md_0 hR) (by rw [← ht]; rfl) ?_
  refine wp_bipush d265_4 (v := nI 60) (by decide) ?_
  refine wp_icmp_ne d265_6 (tgt := 12) (by decide) (fun hq9 => absurd (by rw [hf] : nI tl = nI 60) hq9) (fun _ => ?_)
  refine wp_bipush d265_9 (v := (-3 : Int32)) (by decide) ?_
  refine wp_iret d265_11 (by decide +kernel) ?_
  exact ⟨rfl, rfl⟩
theorem r_type {X : mX} {h : mH} {R : Nat → Nat → Int32} {σ : Nat → Int32} (hR : Ms h R σ) {tl : Nat} (ht : R 0 7 = nI tl) (htl : tl ≤ 60) {x : Int32} (hf : ¬ tl = 60) : Does X 265 [.ref 313, .int (x)] h (updM (stM R 5 (upd (R 5) tl x)) 0 7 (nI (tl + 1))) (σ) (some (.int (nI (tl + 1)))) := by
  have hF : Frm h h 313 8 := Frm.rf
  refine wp_aload_n d265_0 rfl ?_
  refine wp_getf (e := 162) (ci := 12) (k := 7) (nest := false) (v := .int (nI tl)) d265_1 (by decide +kernel) (md_0 hR) (by rw [← ht]; rfl) ?_
  refine wp_bipush d265_4 (v := nI 60) (by decide) ?_
  refine wp_icmp_ne d265_6 (tgt := 12) (by decide) (fun _ => ?_) (fun hq9 => absurd hq9 (fun q => hf ((nI_eq (by omega) (by omega)).mp q)))
  refine wp_aload_n d265_12 rfl ?_
  refine wp_getf (e := 22) (ci := 12) (k := 6) (nest := false) d265_13 (by decide +kernel) (md_0 hR) rfl ?_
  refine wp_aload_n d265_16 rfl ?_
  refine wp_getf (e := 162) (ci := 12) (k := 7) (nest := false) (v := .int (nI tl)) d265_17 (by decide +kernel) (md_0 hR) (by rw [← ht]; rfl) ?_
  refine wp_iload_n d265_20 rfl ?_
  refine wp_iast d265_21 (md_5 hR) (nI_in (by omega) (by decide)) ?_
  rw [nI_nat (by omega)]
  have hF := hF.trans (Frm.set (o := 5) (cl := .inl (false, 60, upd (R 5) (tl) (x))) (by decide) : Frm _ _ 313 8)
  have hR := md_putA (o := 5) (n := 60) (f := upd (R 5) (tl) (x)) hR (by decide) rfl rfl
  refine wp_aload_n d265_22 rfl ?_
  refine wp_dup d265_23 rfl ?_
  refine wp_getf (e := 162) (ci := 12) (k := 7) (nest := false) (v := .int (nI tl)) d265_24 (by decide +kernel) (md_0 hR) (by rw [← ht]; rfl) ?_
  refine wp_iconst d265_27 (v := nI 1) (by decide) ?_
  refine wp_iaddv d265_28 (v := nI (tl + 1)) (nI_add _ _) ?_
  refine wp_putf (e := 162) (ci := 12) (k := 7) (nest := false) d265_29 (by decide +kernel) (md_0 hR) (Nat.le_of_ble_eq_true rfl) rfl (Or.inl (by decide +kernel)) ?_
  have hF := hF.trans (Frm.set (o := 0) (cl := .inr (12, ([.ref 314, .ref 315, .ref 316, .int ((stM R 5 (upd (R 5) (tl) (x))) 0 3), .ref 317, .int ((stM R 5 (upd (R 5) (tl) (x))) 0 5), .ref 318, .int ((stM R 5 (upd (R 5) (tl) (x))) 0 7), .ref 319, .ref 320, .int ((stM R 5 (upd (R 5) (tl) (x))) 0 10)] : List Value).set 7 (.int (nI (tl + 1))))) (by decide) : Frm _ _ 313 8)
  have hR := md_put0 (k := 7) (v := nI (tl + 1)) hR (by decide)
  refine wp_aload_n d265_32 rfl ?_
  refine wp_getf (e := 162) (ci := 12) (k := 7) (nest := false) (v := .int (nI (tl + 1))) d265_33 (by decide +kernel) (md_0 hR) rfl ?_
  refine wp_iret d265_36 (by decide +kernel) ?_
  exact ⟨rfl, hR, hF⟩
theorem r_clearText {X : mX} {h : mH} {R : Nat → Nat → Int32} {σ : Nat → Int32} (hR : Ms h R σ) {tl : Nat} (ht : R 0 7 = nI tl) (htl : tl ≤ 60)  : Does X 266 [.ref 313] h (updM R 0 7 (nI 0)) (σ) (some (.int (nI tl))) := by
  have hF : Frm h h 313 8 := Frm.rf
  refine wp_aload_n d266_0 rfl ?_
  refine wp_getf (e := 162) (ci := 12) (k := 7) (nest := false) (v := .int (nI tl)) d266_1 (by decide +kernel) (md_0 hR) (by rw [← ht]; rfl) ?_
  refine wp_istore_n d266_4 (Nat.le_of_ble_eq_true rfl) rfl ?_
  refine wp_aload_n d266_5 rfl ?_
  refine wp_iconst d266_6 (v := nI 0) (by decide) ?_
  refine wp_putf (e := 162) (ci := 12) (k := 7) (nest := false) d266_7 (by decide +kernel) (md_0 hR) (Nat.le_of_ble_eq_true rfl) rfl (Or.inl (by decide +kernel)) ?_
  have hF := hF.trans (Frm.set (o := 0) (cl := .inr (12, ([.ref 314, .ref 315, .ref 316, .int (R 0 3), .ref 317, .int (R 0 5), .ref 318, .int (R 0 7), .ref 319, .ref 320, .int (R 0 10)] : List Value).set 7 (.int (nI 0)))) (by decide) : Frm _ _ 313 8)
  have hR := md_put0 (k := 7) (v := nI 0) hR (by decide)
  refine wp_iload_n d266_10 rfl ?_
  refine wp_iret d266_11 (by decide +kernel) ?_
  exact ⟨rfl, hR, hF⟩
def F_nr (σ : Nat → Int32) : Nat → (Nat → Int32)
  | 0 => σ
  | r + 1 => G_clr (F_nr σ r) (20 + 6 * r + 2) 4
def F_ng (σ : Nat → Int32) : Nat → (Nat → Int32)
  | 0 => σ
  | g + 1 => G_set (G_clr (F_ng σ g) (192 + 10 * g) 10) g 1 (-5)
theorem F_nr_ne {σ : Nat → Int32} {k i : Nat} (hk : k ≤ 12) (h : i < 20 ∨ 92 ≤ i) : F_nr σ k i = σ i := by
  induction k with
  | zero => rfl
  | succ k ih => rw [F_nr, G_clr_ne (by omega), ih (by omega)]
theorem F_ng_ne {σ : Nat → Int32} {k i : Nat} (hk : k ≤ 4) (h : i < 192 ∨ 232 ≤ i) : F_ng σ k i = σ i := by
  induction k with
  | zero => rfl
  | succ k ih =>
    simp only [F_ng, G_set]
    rw [upd_ne (by omega), G_clr_ne (by omega), ih (by omega)]
abbrev G_n0 (σ : Nat → Int32) : Nat → Int32 := upd (upd (upd (upd σ 0 (nI 0)) 5 (nI 0)) 6 (nI 0)) 7 (nI 0)
theorem night_1 {σ : Nat → Int32} {nR nG : Nat} (hR : nR ≤ 12) (hG : nG ≤ 4) : G_clr (F_ng (F_nr (G_clr (G_n0 σ) 8 6) nR) nG) 578 3600 1 = σ 1 := by
  rw [G_clr_ne (by omega), F_ng_ne (by omega) (by omega), F_nr_ne (by omega) (by omega), G_clr_ne (by omega)]
  unfold G_n0
  rw [upd_ne (by omega), upd_ne (by omega), upd_ne (by omega), upd_ne (by omega)]
def R_night (σ : Nat → Int32) (nR nG : Nat) : Nat → Int32 := upd (G_clr (F_ng (F_nr (G_clr (G_n0 σ) 8 6) nR) nG) 578 3600) 1 (σ 1 + nI 1)
theorem r_night_z {X : mX}  {h0 : mH} {R : Nat → Nat → Int32} {σ : Nat → Int32} {l2 : Option Value} {Q : Option Value → mH → Prop} : ∀ (d : Nat) (k : Nat) (h : mH), 6 - k = d → k ≤ 6 → Ms h R (G_clr σ (8) k) → Frm h0 h 313 8 → (∀ h1, Ms h1 R (G_clr σ (8) 6) → Frm h0 h1 313 8 → ∀ v, m_wp X 263 68 [some (.ref 313), some (.int v), l2] [] h1 Q) → m_wp X 263 46 [some (.ref 313), some (.int (nI k)), l2] [] h Q := by
  intro d
  induction d using Nat.strongRecOn with
  | ind d ih =>
    intro k h hd hk hR hF K
    refine wp_iload_n d263_46 rfl ?_
    refine wp_bipush d263_47 (v := nI 6) (by decide) ?_
    refine wp_icmp_ge d263_49 (tgt := 68) (by decide) (fun hc49 => ?_) (fun hc49 => ?_)
    · have hc49 : 6 ≤ k := (nI_leI (by omega) (by omega)).mp hc49
      rw [show k = 6 by omega] at hR
      exact K h hR hF _
    · have hc49 : ¬ (6 ≤ k) := fun z => hc49 ((nI_leI (by omega) (by omega)).mpr z)
      refine wp_aload_n d263_52 rfl ?_
      refine wp_getf (e := 7) (ci := 12) (k := 0) (nest := false) d263_53 (by decide +kernel) (md_0 hR) rfl ?_
      refine wp_bipush d263_56 (v := nI 8) (by decide) ?_
      refine wp_iload_n d263_58 rfl ?_
      refine wp_iaddv d263_59 (v := nI (8 + k)) (nI_add _ _) ?_
      refine wp_iconst d263_60 (v := nI 0) (by decide) ?_
      refine wp_stS d263_61 hR hF (k := 8 + k) (by omega) (fun h hR hF => ?_)
      refine wp_iinc d263_62 rfl (v := nI (k + 1)) (nI_add _ 1) (Nat.le_of_ble_eq_true rfl) rfl ?_
      refine wp_goto d263_65 (tgt := 46) (by decide) ?_
      exact ih (6 - (k + 1)) (by omega) (k + 1) h rfl (by omega) hR hF K
theorem r_night_p {X : mX}  {h0 : mH} {R : Nat → Nat → Int32} {σ : Nat → Int32} {r : Nat} (hr : r < 12) {Q : Option Value → mH → Prop} : ∀ (d : Nat) (k : Nat) (h : mH), 4 - k = d → k ≤ 4 → Ms h R (G_clr σ (20 + 6 * r + 2) k) → Frm h0 h 313 8 → (∀ h1, Ms h1 R (G_clr σ (20 + 6 * r + 2) 4) → Frm h0 h1 313 8 → ∀ v, m_wp X 263 108 [some (.ref 313), some (.int (nI r)), some (.int v)] [] h1 Q) → m_wp X 263 82 [some (.ref 313), some (.int (nI r)), some (.int (nI (2 + k)))] [] h Q := by
  intro d
  induction d using Nat.strongRecOn with
  | ind d ih =>
    intro k h hd hk hR hF K
    refine wp_iload_n d263_82 rfl ?_
    refine wp_iconst d263_83 (v := nI 5) (by decide) ?_
    refine wp_icmp_gt d263_84 (tgt := 108) (by decide) (fun hc84 => ?_) (fun hc84 => ?_)
    · have hc84 : 5 < 2 + k := (nI_ltI (by omega) (by omega)).mp hc84
      rw [show k = 4 by omega] at hR
      exact K h hR hF _
    · have hc84 : ¬ (5 < 2 + k) := fun z => hc84 ((nI_ltI (by omega) (by omega)).mpr z)
      refine wp_aload_n d263_87 rfl ?_
      refine wp_getf (e := 7) (ci := 12) (k := 0) (nest := false) d263_88 (by decide +kernel) (md_0 hR) rfl ?_
      refine wp_bipush d263_91 (v := nI 20) (by decide) ?_
      refine wp_bipush d263_93 (v := nI 6) (by decide) ?_
      refine wp_iload_n d263_95 rfl ?_
      refine wp_imulv d263_96 (v := nI (6 * r)) (nI_mul _ _) ?_
      refine wp_iaddv d263_97 (v := nI (20 + 6 * r)) (nI_add _ _) ?_
      refine wp_iload_n d263_98 rfl ?_
      refine wp_iaddv d263_99 (v := nI (20 + 6 * r + (2 + k))) (nI_add _ _) ?_
      refine wp_iconst d263_100 (v := nI 0) (by decide) ?_
      refine wp_stS d263_101 hR hF (k := 20 + 6 * r + (2 + k)) (by omega) (fun h hR hF => ?_)
      refine wp_iinc d263_102 rfl (v := nI (2 + k + 1)) (nI_add _ 1) (Nat.le_of_ble_eq_true rfl) rfl ?_
      refine wp_goto d263_105 (tgt := 82) (by decide) ?_
      exact ih (4 - (k + 1)) (by omega) (k + 1) h rfl (by omega) (by rw [show 20 + 6 * r + (2 + k) = 20 + 6 * r + 2 + k by omega] at hR; exact hR) hF K
theorem r_night_r {X : mX}  {h0 : mH} {R : Nat → Nat → Int32} {σ : Nat → Int32} {nR : Nat} (hr : nR ≤ 12) (h2 : σ 2 = nI nR) {Q : Option Value → mH → Prop} : ∀ (d : Nat) (k : Nat) (h : mH) (l2 : Option Value), nR - k = d → k ≤ nR → Ms h R (F_nr σ k) → Frm h0 h 313 8 → (∀ h1, Ms h1 R (F_nr σ nR) → Frm h0 h1 313 8 → ∀ v l2, m_wp X 263 114 [some (.ref 313), some (.int v), l2] [] h1 Q) → m_wp X 263 70 [some (.ref 313), some (.int (nI k)), l2] [] h Q := by
  intro d
  induction d using Nat.strongRecOn with
  | ind d ih =>
    intro k h l2 hd hk hR hF K
    refine wp_iload_n d263_70 rfl ?_
    refine wp_aload_n d263_71 rfl ?_
    refine wp_getf (e := 7) (ci := 12) (k := 0) (nest := false) d263_72 (by decide +kernel) (md_0 hR) rfl ?_
    refine wp_iconst d263_75 (v := nI 2) (by decide) ?_
    refine wp_iald d263_76 (md_1 hR) (nI_in (by omega) (by decide)) (v := nI nR) ((congrArg ((F_nr σ k)) (nI_nat (by omega))).trans ((F_nr_ne (by omega) (by omega)).trans h2)) ?_
    refine wp_icmp_ge d263_77 (tgt := 114) (by decide) (fun hc77 => ?_) (fun hc77 => ?_)
    · have hc77 : nR ≤ k := (nI_leI (by omega) (by omega)).mp hc77
      rw [show k = nR by omega] at hR
      exact K h hR hF _ _
    · have hc77 : ¬ (nR ≤ k) := fun z => hc77 ((nI_leI (by omega) (by omega)).mpr z)
      refine wp_iconst d263_80 (v := nI 2) (by decide) ?_
      refine wp_istore_n d263_81 (Nat.le_of_ble_eq_true rfl) rfl ?_
      refine r_night_p (σ := F_nr σ k) (r := k) (by omega) _ 0 h rfl (by omega) hR hF ?_
      intro h hR hF v2
      refine wp_iinc d263_108 rfl (v := nI (k + 1)) (nI_add _ 1) (Nat.le_of_ble_eq_true rfl) rfl ?_
      refine wp_goto d263_111 (tgt := 70) (by decide) ?_
      exact ih (nR - (k + 1)) (by omega) (k + 1) h _ rfl (by omega) hR hF K
theorem r_night_q {X : mX}  {h0 : mH} {R : Nat → Nat → Int32} {σ : Nat → Int32} {g : Nat} (hg : g < 4) {Q : Option Value → mH → Prop} : ∀ (d : Nat) (k : Nat) (h : mH), 10 - k = d → k ≤ 10 → Ms h R (G_clr σ (192 + 10 * g) k) → Frm h0 h 313 8 → (∀ h1, Ms h1 R (G_clr σ (192 + 10 * g) 10) → Frm h0 h1 313 8 → ∀ v, m_wp X 263 147 [some (.ref 313), some (.int (nI g)), some (.int v)] [] h1 Q) → m_wp X 263 128 [some (.ref 313), some (.int (nI g)), some (.int (nI k))] [] h Q := by
  intro d
  induction d using Nat.strongRecOn with
  | ind d ih =>
    intro k h hd hk hR hF K
    refine wp_iload_n d263_128 rfl ?_
    refine wp_bipush d263_129 (v := nI 10) (by decide) ?_
    refine wp_icmp_ge d263_131 (tgt := 147) (by decide) (fun hc131 => ?_) (fun hc131 => ?_)
    · have hc131 : 10 ≤ k := (nI_leI (by omega) (by omega)).mp hc131
      rw [show k = 10 by omega] at hR
      exact K h hR hF _
    · have hc131 : ¬ (10 ≤ k) := fun z => hc131 ((nI_leI (by omega) (by omega)).mpr z)
      refine wp_aload_n d263_134 rfl ?_
      refine wp_iload_n d263_135 rfl ?_
      refine wp_iload_n d263_136 rfl ?_
      refine wp_iconst d263_137 (v := nI 0) (by decide) ?_
      refine wp_invvD (e := 87) (j2 := 230) (n := 3) d263_138 (by decide +kernel) (by decide +kernel) rfl rfl rfl (md_0 hR) (by decide +kernel) (Nat.le_of_ble_eq_true rfl) rfl rfl (Nat.le_of_ble_eq_true rfl) (by decide +kernel) (c_setGuard hR (g := g) (p := k) (by omega) (by omega) (nI 0)) hF ?_
      intro h hR hF
      refine wp_iinc d263_141 rfl (v := nI (k + 1)) (nI_add _ 1) (Nat.le_of_ble_eq_true rfl) rfl ?_
      refine wp_goto d263_144 (tgt := 128) (by decide) ?_
      exact ih (10 - (k + 1)) (by omega) (k + 1) h rfl (by omega) hR hF K
theorem r_night_g {X : mX}  {h0 : mH} {R : Nat → Nat → Int32} {σ : Nat → Int32} {nG : Nat} (hG : nG ≤ 4) (h4 : σ 4 = nI nG) {Q : Option Value → mH → Prop} : ∀ (d : Nat) (k : Nat) (h : mH) (l2 : Option Value), nG - k = d → k ≤ nG → Ms h R (F_ng σ k) → Frm h0 h 313 8 → (∀ h1, Ms h1 R (F_ng σ nG) → Frm h0 h1 313 8 → ∀ v l2, m_wp X 263 161 [some (.ref 313), some (.int v), l2] [] h1 Q) → m_wp X 263 116 [some (.ref 313), some (.int (nI k)), l2] [] h Q := by
  intro d
  induction d using Nat.strongRecOn with
  | ind d ih =>
    intro k h l2 hd hk hR hF K
    refine wp_iload_n d263_116 rfl ?_
    refine wp_aload_n d263_117 rfl ?_
    refine wp_getf (e := 7) (ci := 12) (k := 0) (nest := false) d263_118 (by decide +kernel) (md_0 hR) rfl ?_
    refine wp_iconst d263_121 (v := nI 4) (by decide) ?_
    refine wp_iald d263_122 (md_1 hR) (nI_in (by omega) (by decide)) (v := nI nG) ((congrArg ((F_ng σ k)) (nI_nat (by omega))).trans ((F_ng_ne (by omega) (by omega)).trans h4)) ?_
    refine wp_icmp_ge d263_123 (tgt := 161) (by decide) (fun hc123 => ?_) (fun hc123 => ?_)
    · have hc123 : nG ≤ k := (nI_leI (by omega) (by omega)).mp hc123
      rw [show k = nG by omega] at hR
      exact K h hR hF _ _
    · have hc123 : ¬ (nG ≤ k) := fun z => hc123 ((nI_leI (by omega) (by omega)).mpr z)
      refine wp_iconst d263_126 (v := nI 0) (by decide) ?_
      refine wp_istore_n d263_127 (Nat.le_of_ble_eq_true rfl) rfl ?_
      refine r_night_q (σ := F_ng σ k) (g := k) (by omega) _ 0 h rfl (by omega) hR hF ?_
      intro h hR hF v2
      refine wp_aload_n d263_147 rfl ?_
      refine wp_iload_n d263_148 rfl ?_
      refine wp_iconst d263_149 (v := nI 1) (by decide) ?_
      refine wp_bipush d263_150 (v := (-5 : Int32)) (by decide) ?_
      refine wp_invvD (e := 87) (j2 := 230) (n := 3) d263_152 (by decide +kernel) (by decide +kernel) rfl rfl rfl (md_0 hR) (by decide +kernel) (Nat.le_of_ble_eq_true rfl) rfl rfl (Nat.le_of_ble_eq_true rfl) (by decide +kernel) (c_setGuard hR (g := k) (p := 1) (by omega) (by omega) ((-5 : Int32))) hF ?_
      intro h hR hF
      refine wp_iinc d263_155 rfl (v := nI (k + 1)) (nI_add _ 1) (Nat.le_of_ble_eq_true rfl) rfl ?_
      refine wp_goto d263_158 (tgt := 116) (by decide) ?_
      exact ih (nG - (k + 1)) (by omega) (k + 1) h _ rfl (by omega) hR hF K
theorem r_night_t {X : mX}  {h0 : mH} {R : Nat → Nat → Int32} {σ : Nat → Int32} {l2 : Option Value} {Q : Option Value → mH → Prop} : ∀ (d : Nat) (k : Nat) (h : mH), 3600 - k = d → k ≤ 3600 → Ms h R (G_clr σ 578 k) → Frm h0 h 313 8 → (∀ h1, Ms h1 R (G_clr σ 578 3600) → Frm h0 h1 313 8 → ∀ v, m_wp X 263 185 [some (.ref 313), some (.int v), l2] [] h1 Q) → m_wp X 263 165 [some (.ref 313), some (.int (nI (578 + k))), l2] [] h Q := by
  intro d
  induction d using Nat.strongRecOn with
  | ind d ih =>
    intro k h hd hk hR hF K
    refine wp_iload_n d263_165 rfl ?_
    refine wp_sipush d263_166 (v := nI 4178) (by decide) ?_
    refine wp_icmp_ge d263_169 (tgt := 185) (by decide) (fun hc169 => ?_) (fun hc169 => ?_)
    · have hc169 : 4178 ≤ 578 + k := (nI_leI (by omega) (by omega)).mp hc169
      rw [show k = 3600 by omega] at hR
      exact K h hR hF _
    · have hc169 : ¬ (4178 ≤ 578 + k) := fun z => hc169 ((nI_leI (by omega) (by omega)).mpr z)
      refine wp_aload_n d263_172 rfl ?_
      refine wp_getf (e := 7) (ci := 12) (k := 0) (nest := false) d263_173 (by decide +kernel) (md_0 hR) rfl ?_
      refine wp_iload_n d263_176 rfl ?_
      refine wp_iconst d263_177 (v := nI 0) (by decide) ?_
      refine wp_stS d263_178 hR hF (k := 578 + k) (by omega) (fun h hR hF => ?_)
      refine wp_iinc d263_179 rfl (v := nI (578 + k + 1)) (nI_add _ 1) (Nat.le_of_ble_eq_true rfl) rfl ?_
      refine wp_goto d263_182 (tgt := 165) (by decide) ?_
      exact ih (3600 - (k + 1)) (by omega) (k + 1) h rfl (by omega) hR hF K
theorem r_night_1 {X : mX} {h : mH} {R : Nat → Nat → Int32} {σ : Nat → Int32} (hR : Ms h R σ) {mi nR nD nG nW nA n : Nat} (hC : Cn σ mi nR nD nG nW nA) (hn : R 0 5 = nI n) (hn4 : n ≤ 4) (hk : 0 < F_ko σ nG) : Tells X 263 [.ref 313] h (-4) := by
  obtain ⟨⟨h0, hmi⟩, ⟨h2, hR1, hR12⟩, ⟨h3, hD⟩, ⟨h4, hG⟩, ⟨h5, hW⟩, ⟨h6, hA⟩⟩ := hC
  refine wp_aload_n d263_0 rfl ?_
  refine wp_invvT (e := 159) (j2 := 264) (n := 0) d263_1 (by decide +kernel) (by decide +kernel) rfl rfl rfl (md_0 hR) (by decide +kernel) (Nat.le_of_ble_eq_true rfl) rfl rfl (Nat.le_of_ble_eq_true rfl) (by decide +kernel) (c_keysOut hR h4 hG) ?_
  refine wp_if_le d263_4 (tgt := 10) (by decide) (fun hq9 => absurd hq9 (fun z => absurd (Int32.not_le.mpr hk) (fun y => y z))) (fun _ => ?_)
  refine wp_bipush d263_7 (v := (-4 : Int32)) (by decide) ?_
  refine wp_iret d263_9 (by decide +kernel) ?_
  exact ⟨rfl, rfl⟩
theorem r_night {X : mX} {h : mH} {R : Nat → Nat → Int32} {σ : Nat → Int32} (hR : Ms h R σ) {mi nR nD nG nW nA n : Nat} (hC : Cn σ mi nR nD nG nW nA) (hn : R 0 5 = nI n) (hn4 : n ≤ 4) (hk : ¬ 0 < F_ko σ nG) : Does X 263 [.ref 313] h (F_rec R σ n) (R_night σ nR nG) (some (.int (σ 1 + nI 1))) := by
  obtain ⟨⟨h0, hmi⟩, ⟨h2, hR1, hR12⟩, ⟨h3, hD⟩, ⟨h4, hG⟩, ⟨h5, hW⟩, ⟨h6, hA⟩⟩ := hC
  have hF : Frm h h 313 8 := Frm.rf
  refine wp_aload_n d263_0 rfl ?_
  refine wp_invvT (e := 159) (j2 := 264) (n := 0) d263_1 (by decide +kernel) (by decide +kernel) rfl rfl rfl (md_0 hR) (by decide +kernel) (Nat.le_of_ble_eq_true rfl) rfl rfl (Nat.le_of_ble_eq_true rfl) (by decide +kernel) (c_keysOut hR h4 hG) ?_
  refine wp_if_le d263_4 (tgt := 10) (by decide) (fun _ => ?_) (fun hq9 => absurd (Int32.not_lt.mp hk) hq9)
  refine wp_aload_n d263_10 rfl ?_
  refine wp_invvD (e := 50) (j2 := 212) (n := 0) d263_11 (by decide +kernel) (by decide +kernel) rfl rfl rfl (md_0 hR) (by decide +kernel) (Nat.le_of_ble_eq_true rfl) rfl rfl (Nat.le_of_ble_eq_true rfl) (by decide +kernel) (c_record hR hn hn4) hF ?_
  intro h hR hF
  refine wp_aload_n d263_14 rfl ?_
  refine wp_getf (e := 7) (ci := 12) (k := 0) (nest := false) d263_15 (by decide +kernel) (md_0 hR) rfl ?_
  refine wp_iconst d263_18 (v := nI 0) (by decide) ?_
  refine wp_iconst d263_19 (v := nI 0) (by decide) ?_
  refine wp_stS d263_20 hR hF (k := 0) (by omega) (fun h hR hF => ?_)
  refine wp_aload_n d263_21 rfl ?_
  refine wp_getf (e := 7) (ci := 12) (k := 0) (nest := false) d263_22 (by decide +kernel) (md_0 hR) rfl ?_
  refine wp_iconst d263_25 (v := nI 5) (by decide) ?_
  refine wp_iconst d263_26 (v := nI 0) (by decide) ?_
  refine wp_stS d263_27 hR hF (k := 5) (by omega) (fun h hR hF => ?_)
  refine wp_aload_n d263_28 rfl ?_
  refine wp_getf (e := 7) (ci := 12) (k := 0) (nest := false) d263_29 (by decide +kernel) (md_0 hR) rfl ?_
  refine wp_bipush d263_32 (v := nI 6) (by decide) ?_
  refine wp_iconst d263_34 (v := nI 0) (by decide) ?_
  refine wp_stS d263_35 hR hF (k := 6) (by omega) (fun h hR hF => ?_)
  refine wp_aload_n d263_36 rfl ?_
  refine wp_getf (e := 7) (ci := 12) (k := 0) (nest := false) d263_37 (by decide +kernel) (md_0 hR) rfl ?_
  refine wp_bipush d263_40 (v := nI 7) (by decide) ?_
  refine wp_iconst d263_42 (v := nI 0) (by decide) ?_
  refine wp_stS d263_43 hR hF (k := 7) (by omega) (fun h hR hF => ?_)
  refine wp_iconst d263_44 (v := nI 0) (by decide) ?_
  refine wp_istore_n d263_45 (Nat.le_of_ble_eq_true rfl) rfl ?_
  refine r_night_z (σ := G_n0 σ) _ 0 h rfl (by omega) hR hF ?_
  intro h hR hF v1
  refine wp_iconst d263_68 (v := nI 0) (by decide) ?_
  refine wp_istore_n d263_69 (Nat.le_of_ble_eq_true rfl) rfl ?_
  refine r_night_r (σ := G_clr (G_n0 σ) 8 6) hR12 (by rw [G_clr_ne (by omega)]; unfold G_n0; rw [upd_ne (by omega), upd_ne (by omega), upd_ne (by omega), upd_ne (by omega)]; exact h2) _ 0 h _ rfl (by omega) hR hF ?_
  intro h hR hF v1 l2
  refine wp_iconst d263_114 (v := nI 0) (by decide) ?_
  refine wp_istore_n d263_115 (Nat.le_of_ble_eq_true rfl) rfl ?_
  refine r_night_g (σ := F_nr (G_clr (G_n0 σ) 8 6) nR) hG (by rw [F_nr_ne (by omega) (by omega), G_clr_ne (by omega)]; unfold G_n0; rw [upd_ne (by omega), upd_ne (by omega), upd_ne (by omega), upd_ne (by omega)]; exact h4) _ 0 h _ rfl (by omega) hR hF ?_
  intro h hR hF v1 l2
  refine wp_sipush d263_161 (v := nI 578) (by decide) ?_
  refine wp_istore_n d263_164 (Nat.le_of_ble_eq_true rfl) rfl ?_
  refine r_night_t (σ := F_ng (F_nr (G_clr (G_n0 σ) 8 6) nR) nG) _ 0 h rfl (by omega) hR hF ?_
  intro h hR hF v1
  refine wp_aload_n d263_185 rfl ?_
  refine wp_getf (e := 7) (ci := 12) (k := 0) (nest := false) d263_186 (by decide +kernel) (md_0 hR) rfl ?_
  refine wp_iconst d263_189 (v := nI 1) (by decide) ?_
  refine wp_dup2 d263_190 rfl rfl ?_
  refine wp_iald d263_191 (md_1 hR) (nI_in (by omega) (by decide)) (v := σ 1) ((congrArg ((G_clr (F_ng (F_nr (G_clr (G_n0 σ) 8 6) nR) nG) 578 3600)) (nI_nat (by omega))).trans ((night_1 hR12 hG).trans rfl)) ?_
  refine wp_iconst d263_192 (v := nI 1) (by decide) ?_
  refine wp_iadd d263_193 ?_
  refine wp_stS d263_194 hR hF (k := 1) (by omega) (fun h hR hF => ?_)
  refine wp_aload_n d263_195 rfl ?_
  refine wp_getf (e := 7) (ci := 12) (k := 0) (nest := false) d263_196 (by decide +kernel) (md_0 hR) rfl ?_
  refine wp_iconst d263_199 (v := nI 1) (by decide) ?_
  refine wp_iald d263_200 (md_1 hR) (nI_in (by omega) (by decide)) (v := ((σ 1) + (nI 1))) ((congrArg ((upd (G_clr (F_ng (F_nr (G_clr (G_n0 σ) 8 6) nR) nG) 578 3600) (1) (((σ 1) + (nI 1))))) (nI_nat (by omega))).trans upd_eq) ?_
  refine wp_iret d263_201 (by decide +kernel) ?_
  exact ⟨rfl, hR, hF⟩
end
