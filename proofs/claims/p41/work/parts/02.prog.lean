/-! the tables of a small machine for this claim: by program out of the words of tables_1 and the listing -/
def m_owns : List String := ["MuseumNightsLaw", "MuseumNights", "MuseumNights$Museum", "MuseumNights$Rooms", "MuseumNights$Doors", "MuseumNights$Zones", "MuseumNights$Keys", "MuseumNights$Guards", "MuseumNights$Works", "MuseumNights$Alarms", "MuseumNights$Log", "MuseumNights$History", "MuseumNights$Text", "java/util/Arrays", "java/lang/Math", "java/lang/Integer"]
def m_T0 : u_T := fun k => match k with
  | 0 => ("MuseumNights", "now", "LMuseumNights$Museum;", true)
  | 1 => ("MuseumNights", "kept", "LMuseumNights$Museum;", true)
  | 2 => ("MuseumNights", "foretold", "LMuseumNights$Museum;", true)
  | 3 => ("MuseumNights", "history", "LMuseumNights$History;", true)
  | 4 => ("MuseumNights", "text", "LMuseumNights$Text;", true)
  | _ => ("MuseumNights", "hasKept", "Z", false)
def m_T1 : u_T := fun k => match k with
  | 0 => ("MuseumNights$Museum", "rooms", "LMuseumNights$Rooms;", true)
  | 1 => ("MuseumNights$Museum", "doors", "LMuseumNights$Doors;", true)
  | 2 => ("MuseumNights$Museum", "zones", "LMuseumNights$Zones;", true)
  | 3 => ("MuseumNights$Museum", "keys", "LMuseumNights$Keys;", true)
  | 4 => ("MuseumNights$Museum", "guards", "LMuseumNights$Guards;", true)
  | 5 => ("MuseumNights$Museum", "works", "LMuseumNights$Works;", true)
  | 6 => ("MuseumNights$Museum", "alarms", "LMuseumNights$Alarms;", true)
  | 7 => ("MuseumNights$Museum", "log", "LMuseumNights$Log;", true)
  | 8 => ("MuseumNights$Museum", "minute", "I", false)
  | _ => ("MuseumNights$Museum", "nights", "I", false)
def m_T2 : u_T := fun k => match k with
  | 0 => ("MuseumNights$Rooms", "zone", "[I", true)
  | 1 => ("MuseumNights$Rooms", "bound", "[I", true)
  | 2 => ("MuseumNights$Rooms", "watchedRun", "[I", true)
  | 3 => ("MuseumNights$Rooms", "unwatchedRun", "[I", true)
  | 4 => ("MuseumNights$Rooms", "longestGap", "[I", true)
  | 5 => ("MuseumNights$Rooms", "watchedMinutes", "[I", true)
  | _ => ("MuseumNights$Rooms", "size", "I", false)
def m_T3 : u_T := fun k => match k with
  | 0 => ("MuseumNights$Doors", "oneRoom", "[I", true)
  | 1 => ("MuseumNights$Doors", "otherRoom", "[I", true)
  | 2 => ("MuseumNights$Doors", "minutes", "[I", true)
  | 3 => ("MuseumNights$Doors", "key", "[I", true)
  | 4 => ("MuseumNights$Doors", "uses", "[I", true)
  | 5 => ("MuseumNights$Doors", "reach", "[I", true)
  | _ => ("MuseumNights$Doors", "size", "I", false)
def m_T4 : u_T := fun k => match k with
  | 0 => ("MuseumNights$Zones", "excluded", "[I", true)
  | _ => ("MuseumNights$Zones", "openBits", "I", false)
def m_T5 : u_T := fun k => match k with
  | _ => ("MuseumNights$Keys", "holders", "[I", true)
def m_T6 : u_T := fun k => match k with
  | 0 => ("MuseumNights$Guards", "standing", "[I", true)
  | 1 => ("MuseumNights$Guards", "target", "[I", true)
  | 2 => ("MuseumNights$Guards", "walk", "[I", true)
  | 3 => ("MuseumNights$Guards", "stayMinutes", "[I", true)
  | 4 => ("MuseumNights$Guards", "since", "[I", true)
  | 5 => ("MuseumNights$Guards", "halts", "[I", true)
  | 6 => ("MuseumNights$Guards", "arrivals", "[I", true)
  | 7 => ("MuseumNights$Guards", "orderCounts", "[I", true)
  | 8 => ("MuseumNights$Guards", "orders", "[I", true)
  | _ => ("MuseumNights$Guards", "size", "I", false)
def m_T7 : u_T := fun k => match k with
  | 0 => ("MuseumNights$Works", "kind", "[I", true)
  | 1 => ("MuseumNights$Works", "place", "[I", true)
  | 2 => ("MuseumNights$Works", "limit", "[I", true)
  | 3 => ("MuseumNights$Works", "state", "[I", true)
  | 4 => ("MuseumNights$Works", "alarms", "[I", true)
  | _ => ("MuseumNights$Works", "size", "I", false)
def m_T8 : u_T := fun k => match k with
  | 0 => ("MuseumNights$Alarms", "cause", "[I", true)
  | 1 => ("MuseumNights$Alarms", "place", "[I", true)
  | 2 => ("MuseumNights$Alarms", "raised", "[I", true)
  | 3 => ("MuseumNights$Alarms", "clearer", "[I", true)
  | 4 => ("MuseumNights$Alarms", "cleared", "[I", true)
  | 5 => ("MuseumNights$Alarms", "size", "I", false)
  | _ => ("MuseumNights$Alarms", "lost", "I", false)
def m_T9 : u_T := fun k => match k with
  | 0 => ("MuseumNights$Log", "watched", "[I", true)
  | 1 => ("MuseumNights$Log", "stays", "[I", false)
  | _ => ("MuseumNights$Log", "stayCount", "I", false)
def m_T10 : u_T := fun k => match k with
  | 0 => ("MuseumNights$History", "latest", "LMuseumNights$Museum;", false)
  | 1 => ("MuseumNights$History", "second", "LMuseumNights$Museum;", false)
  | 2 => ("MuseumNights$History", "third", "LMuseumNights$Museum;", false)
  | 3 => ("MuseumNights$History", "fourth", "LMuseumNights$Museum;", false)
  | _ => ("MuseumNights$History", "size", "I", false)
def m_T11 : u_T := fun k => match k with
  | 0 => ("MuseumNights$Text", "signs", "[C", true)
  | 1 => ("MuseumNights$Text", "length", "I", false)
  | 2 => ("MuseumNights$Text", "orders", "[I", true)
  | 3 => ("MuseumNights$Text", "orderCount", "I", false)
  | _ => ("MuseumNights$Text", "place", "I", false)
def m_cls : List vw_C := [("MuseumNights", m_T0, 6), ("MuseumNights$Museum", m_T1, 10), ("MuseumNights$Rooms", m_T2, 7), ("MuseumNights$Doors", m_T3, 7), ("MuseumNights$Zones", m_T4, 2), ("MuseumNights$Keys", m_T5, 1), ("MuseumNights$Guards", m_T6, 10), ("MuseumNights$Works", m_T7, 6), ("MuseumNights$Alarms", m_T8, 7), ("MuseumNights$Log", m_T9, 3), ("MuseumNights$History", m_T10, 5), ("MuseumNights$Text", m_T11, 5)]
/-- the types of the fields, class by class -/
def m_tys : List (List FieldType) := [[.object "MuseumNights$Museum", .object "MuseumNights$Museum", .object "MuseumNights$Museum", .object "MuseumNights$History", .object "MuseumNights$Text", .boolean], [.object "MuseumNights$Rooms", .object "MuseumNights$Doors", .object "MuseumNights$Zones", .object "MuseumNights$Keys", .object "MuseumNights$Guards", .object "MuseumNights$Works", .object "MuseumNights$Alarms", .object "MuseumNights$Log", .int, .int], [.array .int, .array .int, .array .int, .array .int, .array .int, .array .int, .int], [.array .int, .array .int, .array .int, .array .int, .array .int, .array .int, .int], [.array .int, .int], [.array .int], [.array .int, .array .int, .array .int, .array .int, .array .int, .array .int, .array .int, .array .int, .array .int, .int], [.array .int, .array .int, .array .int, .array .int, .array .int, .int], [.array .int, .array .int, .array .int, .array .int, .array .int, .int, .int], [.array .int, .array .int, .int], [.object "MuseumNights$Museum", .object "MuseumNights$Museum", .object "MuseumNights$Museum", .object "MuseumNights$Museum", .int], [.array .char, .int, .array .int, .int, .int]]
/-- the methods: name, code, locals, result, frames below it (itself not counted), its class among m_owns, its parameters -/
def m_mt0 : List (MethodName × ByteArray × Nat × Option FieldType × Nat × Nat × Nat) := [(⟨"MuseumNightsLaw", "law", "([I)Z"⟩, code, 22, some .boolean, 8, 0, 1), (⟨"MuseumNights", "<init>", "()V"⟩, prog_1_method_1_code, 1, none, 4, 1, 0), (⟨"MuseumNights$Museum", "<init>", "()V"⟩, prog_8_method_1_code, 1, none, 2, 2, 0), (⟨"MuseumNights$Rooms", "<init>", "()V"⟩, prog_9_method_1_code, 1, none, 1, 3, 0), (⟨"MuseumNights$Doors", "<init>", "()V"⟩, prog_3_method_1_code, 1, none, 1, 4, 0), (⟨"MuseumNights$Zones", "<init>", "()V"⟩, prog_12_method_1_code, 1, none, 1, 5, 0), (⟨"MuseumNights$Keys", "<init>", "()V"⟩, prog_6_method_1_code, 1, none, 1, 6, 0), (⟨"java/util/Arrays", "fill", "([II)V"⟩, prog_19_method_103_code, 4, none, 0, 13, 2), (⟨"MuseumNights$Guards", "<init>", "()V"⟩, prog_4_method_1_code, 1, none, 1, 7, 0), (⟨"MuseumNights$Works", "<init>", "()V"⟩, prog_11_method_1_code, 1, none, 1, 8, 0), (⟨"MuseumNights$Alarms", "<init>", "()V"⟩, prog_2_method_1_code, 1, none, 1, 9, 0), (⟨"MuseumNights$Log", "<init>", "()V"⟩, prog_7_method_1_code, 1, none, 1, 10, 0), (⟨"MuseumNights$History", "<init>", "()V"⟩, prog_5_method_1_code, 1, none, 3, 11, 0), (⟨"MuseumNights$Text", "<init>", "()V"⟩, prog_10_method_1_code, 1, none, 1, 12, 0), (⟨"MuseumNights", "addRoom", "(II)I"⟩, prog_1_method_2_code, 3, some .int, 6, 1, 2), (⟨"MuseumNights$Zones", "isZone", "(I)Z"⟩, prog_12_method_2_code, 1, some .boolean, 0, 5, 1), (⟨"MuseumNights", "isWithin", "(III)Z"⟩, prog_1_method_40_code, 3, some .boolean, 0, 1, 3), (⟨"MuseumNights$Rooms", "size", "()I"⟩, prog_9_method_3_code, 1, some .int, 0, 3, 0), (⟨"MuseumNights$History", "record", "(LMuseumNights$Museum;)V"⟩, prog_5_method_3_code, 3, none, 5, 11, 1), (⟨"MuseumNights$Museum", "copyFrom", "(LMuseumNights$Museum;)V"⟩, prog_8_method_2_code, 2, none, 4, 2, 1), (⟨"MuseumNights$Rooms", "copyFrom", "(LMuseumNights$Rooms;)V"⟩, prog_9_method_2_code, 2, none, 1, 3, 1), (⟨"MuseumNights$Doors", "copyFrom", "(LMuseumNights$Doors;)V"⟩, prog_3_method_2_code, 2, none, 1, 4, 1), (⟨"MuseumNights$Zones", "copyFrom", "(LMuseumNights$Zones;)V"⟩, prog_12_method_3_code, 2, none, 1, 5, 1), (⟨"MuseumNights$Keys", "copyFrom", "(LMuseumNights$Keys;)V"⟩, prog_6_method_3_code, 2, none, 1, 6, 1), (⟨"MuseumNights$Guards", "copyFrom", "(LMuseumNights$Guards;)V"⟩, prog_4_method_2_code, 2, none, 1, 7, 1), (⟨"MuseumNights$Works", "copyFrom", "(LMuseumNights$Works;)V"⟩, prog_11_method_2_code, 2, none, 1, 8, 1), (⟨"MuseumNights$Alarms", "copyFrom", "(LMuseumNights$Alarms;)V"⟩, prog_2_method_2_code, 2, none, 1, 9, 1), (⟨"MuseumNights$Log", "copyFrom", "(LMuseumNights$Log;I)V"⟩, prog_7_method_2_code, 5, none, 3, 10, 2), (⟨"java/lang/Math", "max", "(II)I"⟩, prog_17_method_65_code, 2, some .int, 0, 14, 2), (⟨"java/lang/Math", "min", "(II)I"⟩, prog_17_method_69_code, 2, some .int, 0, 14, 2), (⟨"MuseumNights$Log", "provideCells", "(I)V"⟩, prog_7_method_7_code, 2, none, 2, 10, 1), (⟨"java/util/Arrays", "copyOf", "([II)[I"⟩, prog_19_method_123_code, 3, some (.array .int), 1, 13, 2), (⟨"MuseumNights$Rooms", "add", "(II)I"⟩, prog_9_method_5_code, 3, some .int, 1, 3, 2), (⟨"MuseumNights$Rooms", "forgetNightOf", "(I)V"⟩, prog_9_method_7_code, 2, none, 0, 3, 1), (⟨"MuseumNights", "addDoor", "(IIII)I"⟩, prog_1_method_3_code, 5, some .int, 6, 1, 4), (⟨"MuseumNights$Rooms", "has", "(I)Z"⟩, prog_9_method_4_code, 2, some .boolean, 0, 3, 1), (⟨"MuseumNights", "isKeyOrNone", "(I)Z"⟩, prog_1_method_41_code, 1, some .boolean, 1, 1, 1), (⟨"MuseumNights$Keys", "isKey", "(I)Z"⟩, prog_6_method_2_code, 1, some .boolean, 0, 6, 1), (⟨"MuseumNights$Doors", "between", "(II)I"⟩, prog_3_method_6_code, 4, some .int, 0, 4, 2), (⟨"MuseumNights$Doors", "size", "()I"⟩, prog_3_method_3_code, 1, some .int, 0, 4, 0)]
def m_mt1 : List (MethodName × ByteArray × Nat × Option FieldType × Nat × Nat × Nat) := [(⟨"MuseumNights$Doors", "add", "(IIII)I"⟩, prog_3_method_5_code, 5, some .int, 0, 4, 4), (⟨"MuseumNights$Keys", "isKey", "(I)Z"⟩, prog_6_method_2_code, 1, some .boolean, 6, 6, 1), (⟨"MuseumNights$Rooms", "boundOf", "(I)I"⟩, prog_9_method_11_code, 2, some .int, 1, 3, 1), (⟨"MuseumNights$Keys", "isKey", "(I)Z"⟩, prog_6_method_2_code, 1, some .boolean, 1, 6, 1), (⟨"MuseumNights$Keys", "isKey", "(I)Z"⟩, prog_6_method_2_code, 1, some .boolean, 6, 6, 1), (⟨"MuseumNights$Zones", "isOpen", "(I)Z"⟩, prog_12_method_4_code, 2, some .boolean, 1, 5, 1), (⟨"MuseumNights$Keys", "isKey", "(I)Z"⟩, prog_6_method_2_code, 1, some .boolean, 2, 6, 1), (⟨"MuseumNights$Zones", "excludedBy", "(I)I"⟩, prog_12_method_8_code, 2, some .int, 1, 5, 1), (⟨"MuseumNights$Keys", "isKey", "(I)Z"⟩, prog_6_method_2_code, 1, some .boolean, 1, 6, 1), (⟨"MuseumNights$Zones", "withBit", "(IIZ)I"⟩, prog_12_method_12_code, 3, some .int, 0, 5, 3), (⟨"java/lang/Integer", "bitCount", "(I)I"⟩, prog_16_method_49_code, 1, some .int, 0, 15, 1), (⟨"MuseumNights", "openZone", "(I)I"⟩, prog_1_method_6_code, 2, some .int, 6, 1, 1), (⟨"MuseumNights$Zones", "isBarred", "(I)Z"⟩, prog_12_method_11_code, 2, some .boolean, 2, 5, 1), (⟨"MuseumNights$Zones", "changeOpen", "(IZ)V"⟩, prog_12_method_6_code, 3, none, 1, 5, 2), (⟨"MuseumNights$Zones", "openCount", "()I"⟩, prog_12_method_5_code, 1, some .int, 1, 5, 0), (⟨"MuseumNights", "closeZone", "(I)I"⟩, prog_1_method_7_code, 2, some .int, 6, 1, 1), (⟨"MuseumNights$Museum", "isZoneInUse", "(I)Z"⟩, prog_8_method_13_code, 3, some .boolean, 2, 2, 1), (⟨"MuseumNights$Guards", "size", "()I"⟩, prog_4_method_3_code, 1, some .int, 0, 7, 0), (⟨"MuseumNights$Guards", "roomOf", "(I)I"⟩, prog_4_method_13_code, 2, some .int, 1, 7, 1), (⟨"MuseumNights$Guards", "has", "(I)Z"⟩, prog_4_method_4_code, 2, some .boolean, 0, 7, 1), (⟨"MuseumNights$Rooms", "zoneOf", "(I)I"⟩, prog_9_method_10_code, 2, some .int, 1, 3, 1), (⟨"MuseumNights$Guards", "targetOf", "(I)I"⟩, prog_4_method_14_code, 2, some .int, 1, 7, 1), (⟨"MuseumNights", "addGuard", "()I"⟩, prog_1_method_8_code, 1, some .int, 6, 1, 0), (⟨"MuseumNights$Guards", "add", "(I)I"⟩, prog_4_method_5_code, 2, some .int, 1, 7, 1), (⟨"MuseumNights$Guards", "placeInGuardRoom", "(II)V"⟩, prog_4_method_7_code, 3, none, 0, 7, 2), (⟨"MuseumNights", "takeKey", "(II)I"⟩, prog_1_method_9_code, 3, some .int, 6, 1, 2), (⟨"MuseumNights$Guards", "isIn", "(II)Z"⟩, prog_4_method_9_code, 3, some .boolean, 1, 7, 2), (⟨"MuseumNights$Keys", "holderOf", "(I)I"⟩, prog_6_method_4_code, 2, some .int, 1, 6, 1), (⟨"MuseumNights$Keys", "countOf", "(I)I"⟩, prog_6_method_7_code, 2, some .int, 1, 6, 1), (⟨"MuseumNights$Keys", "bitsOf", "(I)I"⟩, prog_6_method_6_code, 4, some .int, 0, 6, 1), (⟨"MuseumNights$Keys", "give", "(II)V"⟩, prog_6_method_5_code, 3, none, 1, 6, 2), (⟨"MuseumNights$Keys", "isKey", "(I)Z"⟩, prog_6_method_2_code, 1, some .boolean, 6, 6, 1), (⟨"MuseumNights", "handKey", "(III)I"⟩, prog_1_method_11_code, 4, some .int, 6, 1, 3), (⟨"MuseumNights$Guards", "areTogether", "(II)Z"⟩, prog_4_method_10_code, 3, some .boolean, 2, 7, 2), (⟨"MuseumNights$Guards", "isWalking", "(I)Z"⟩, prog_4_method_8_code, 2, some .boolean, 1, 7, 1), (⟨"MuseumNights", "go", "(III)I"⟩, prog_1_method_12_code, 4, some .int, 6, 1, 3), (⟨"MuseumNights$Guards", "orderCount", "(I)I"⟩, prog_4_method_27_code, 2, some .int, 1, 7, 1), (⟨"MuseumNights$Guards", "addOrder", "(II)V"⟩, prog_4_method_29_code, 3, none, 1, 7, 2), (⟨"MuseumNights", "stop", "(I)I"⟩, prog_1_method_13_code, 3, some .int, 6, 1, 1), (⟨"MuseumNights$Guards", "stayLeft", "(I)I"⟩, prog_4_method_16_code, 2, some .int, 2, 7, 1)]
def m_mt2 : List (MethodName × ByteArray × Nat × Option FieldType × Nat × Nat × Nat) := [(⟨"MuseumNights$Guards", "dropOrders", "(I)V"⟩, prog_4_method_31_code, 2, none, 1, 7, 1), (⟨"MuseumNights$Guards", "endStay", "(I)V"⟩, prog_4_method_25_code, 2, none, 2, 7, 1), (⟨"MuseumNights", "addWork", "(III)I"⟩, prog_1_method_14_code, 4, some .int, 6, 1, 3), (⟨"MuseumNights", "isExhibitionRoom", "(I)Z"⟩, prog_1_method_42_code, 2, some .boolean, 1, 1, 1), (⟨"MuseumNights$Works", "size", "()I"⟩, prog_11_method_3_code, 1, some .int, 0, 8, 0), (⟨"MuseumNights$Works", "add", "(III)I"⟩, prog_11_method_6_code, 4, some .int, 0, 8, 3), (⟨"MuseumNights", "moveWork", "(II)I"⟩, prog_1_method_15_code, 5, some .int, 6, 1, 2), (⟨"MuseumNights$Works", "has", "(I)Z"⟩, prog_11_method_4_code, 2, some .boolean, 0, 8, 1), (⟨"MuseumNights$Works", "roomOf", "(I)I"⟩, prog_11_method_13_code, 2, some .int, 1, 8, 1), (⟨"MuseumNights$Works", "isTakenAway", "(I)Z"⟩, prog_11_method_11_code, 2, some .boolean, 2, 8, 1), (⟨"MuseumNights$Works", "stateOf", "(I)I"⟩, prog_11_method_15_code, 2, some .int, 1, 8, 1), (⟨"MuseumNights$Guards", "countIn", "(I)I"⟩, prog_4_method_11_code, 4, some .int, 0, 7, 1), (⟨"MuseumNights$Works", "changeRoom", "(II)V"⟩, prog_11_method_7_code, 3, none, 1, 8, 2), (⟨"MuseumNights$Doors", "minutesOf", "(I)I"⟩, prog_3_method_11_code, 2, some .int, 1, 4, 1), (⟨"MuseumNights$Doors", "has", "(I)Z"⟩, prog_3_method_4_code, 2, some .boolean, 0, 4, 1), (⟨"MuseumNights$Keys", "isKey", "(I)Z"⟩, prog_6_method_2_code, 1, some .boolean, 6, 6, 1), (⟨"MuseumNights$Works", "isTroubled", "(I)Z"⟩, prog_11_method_10_code, 2, some .boolean, 2, 8, 1), (⟨"MuseumNights$Works", "changeState", "(II)V"⟩, prog_11_method_8_code, 3, none, 1, 8, 2), (⟨"MuseumNights$Keys", "isKey", "(I)Z"⟩, prog_6_method_2_code, 1, some .boolean, 6, 6, 1), (⟨"MuseumNights$Alarms", "has", "(I)Z"⟩, prog_2_method_4_code, 2, some .boolean, 0, 9, 1), (⟨"MuseumNights$Alarms", "roomOf", "(I)I"⟩, prog_2_method_10_code, 2, some .int, 1, 9, 1), (⟨"MuseumNights$Keys", "isKey", "(I)Z"⟩, prog_6_method_2_code, 1, some .boolean, 2, 6, 1), (⟨"MuseumNights$Alarms", "clearerOf", "(I)I"⟩, prog_2_method_12_code, 2, some .int, 1, 9, 1), (⟨"MuseumNights$Keys", "isKey", "(I)Z"⟩, prog_6_method_2_code, 1, some .boolean, 1, 6, 1), (⟨"MuseumNights$Alarms", "minuteOf", "(I)I"⟩, prog_2_method_11_code, 2, some .int, 1, 9, 1), (⟨"MuseumNights", "pass", "(I)I"⟩, prog_1_method_18_code, 2, some .int, 7, 1, 1), (⟨"MuseumNights$Museum", "letPass", "(I)I"⟩, prog_8_method_4_code, 4, some .int, 6, 2, 1), (⟨"MuseumNights$Alarms", "raisedCount", "()I"⟩, prog_2_method_17_code, 1, some .int, 0, 9, 0), (⟨"MuseumNights$Museum", "letGuardsSetOff", "()V"⟩, prog_8_method_5_code, 2, none, 5, 2, 0), (⟨"MuseumNights$Guards", "shortenStay", "(I)V"⟩, prog_4_method_24_code, 2, none, 3, 7, 1), (⟨"MuseumNights$Museum", "followFirstOrder", "(I)V"⟩, prog_8_method_6_code, 6, none, 4, 2, 1), (⟨"MuseumNights$Guards", "removeFirstOrder", "(I)I"⟩, prog_4_method_30_code, 4, some .int, 2, 7, 1), (⟨"MuseumNights$Guards", "orderOf", "(II)I"⟩, prog_4_method_28_code, 3, some .int, 1, 7, 2), (⟨"MuseumNights$Doors", "isPassable", "(II)Z"⟩, prog_3_method_7_code, 3, some .boolean, 1, 4, 2), (⟨"MuseumNights$Guards", "halt", "(I)V"⟩, prog_4_method_26_code, 2, none, 1, 7, 1), (⟨"MuseumNights$Guards", "stoodSince", "(I)I"⟩, prog_4_method_17_code, 2, some .int, 1, 7, 1), (⟨"MuseumNights$Log", "noteStay", "(IIII)V"⟩, prog_7_method_6_code, 6, none, 3, 10, 4), (⟨"MuseumNights$Doors", "noteUse", "(I)V"⟩, prog_3_method_8_code, 2, none, 1, 4, 1), (⟨"MuseumNights$Guards", "startWalk", "(IIII)V"⟩, prog_4_method_21_code, 5, none, 1, 7, 4), (⟨"MuseumNights$Museum", "watchRooms", "()V"⟩, prog_8_method_7_code, 2, none, 2, 2, 0)]
def m_mt3 : List (MethodName × ByteArray × Nat × Option FieldType × Nat × Nat × Nat) := [(⟨"MuseumNights$Guards", "roomBits", "()I"⟩, prog_4_method_12_code, 3, some .int, 0, 7, 0), (⟨"MuseumNights$Rooms", "noteMinute", "(I)V"⟩, prog_9_method_8_code, 3, none, 1, 3, 1), (⟨"MuseumNights$Log", "noteWatched", "(II)V"⟩, prog_7_method_5_code, 3, none, 0, 10, 2), (⟨"MuseumNights$Museum", "letGuardsWalk", "()V"⟩, prog_8_method_8_code, 2, none, 3, 2, 0), (⟨"MuseumNights$Guards", "shortenWalk", "(I)V"⟩, prog_4_method_22_code, 2, none, 2, 7, 1), (⟨"MuseumNights$Guards", "walkLeft", "(I)I"⟩, prog_4_method_15_code, 2, some .int, 1, 7, 1), (⟨"MuseumNights$Guards", "arrive", "(II)V"⟩, prog_4_method_23_code, 3, none, 2, 7, 2), (⟨"MuseumNights$Museum", "checkArrival", "(I)V"⟩, prog_8_method_9_code, 3, none, 2, 2, 1), (⟨"MuseumNights$Alarms", "raise", "(III)V"⟩, prog_2_method_6_code, 4, none, 0, 9, 3), (⟨"MuseumNights$Museum", "checkBounds", "()V"⟩, prog_8_method_10_code, 3, none, 2, 2, 0), (⟨"MuseumNights$Rooms", "unwatchedFor", "(I)I"⟩, prog_9_method_13_code, 2, some .int, 1, 3, 1), (⟨"MuseumNights$Museum", "lookAtWorks", "()V"⟩, prog_8_method_11_code, 3, none, 3, 2, 0), (⟨"MuseumNights$Museum", "mustBeTroubled", "(I)Z"⟩, prog_8_method_12_code, 4, some .boolean, 2, 2, 1), (⟨"MuseumNights$Works", "limitOf", "(I)I"⟩, prog_11_method_14_code, 2, some .int, 1, 8, 1), (⟨"MuseumNights$Works", "kindOf", "(I)I"⟩, prog_11_method_12_code, 2, some .int, 1, 8, 1), (⟨"MuseumNights$Rooms", "watchedFor", "(I)I"⟩, prog_9_method_12_code, 2, some .int, 1, 3, 1), (⟨"MuseumNights$Works", "noteAlarm", "(I)V"⟩, prog_11_method_9_code, 2, none, 1, 8, 1), (⟨"MuseumNights$Keys", "isKey", "(I)Z"⟩, prog_6_method_2_code, 1, some .boolean, 6, 6, 1), (⟨"MuseumNights$Keys", "outCount", "()I"⟩, prog_6_method_8_code, 1, some .int, 1, 6, 0), (⟨"MuseumNights$Keys", "isKey", "(I)Z"⟩, prog_6_method_2_code, 1, some .boolean, 2, 6, 1), (⟨"MuseumNights$Keys", "isKey", "(I)Z"⟩, prog_6_method_2_code, 1, some .boolean, 1, 6, 1), (⟨"MuseumNights$Keys", "isKey", "(I)Z"⟩, prog_6_method_2_code, 1, some .boolean, 0, 6, 1), (⟨"MuseumNights$Keys", "isKey", "(I)Z"⟩, prog_6_method_2_code, 1, some .boolean, 1, 6, 1), (⟨"MuseumNights$Keys", "isKey", "(I)Z"⟩, prog_6_method_2_code, 1, some .boolean, 0, 6, 1), (⟨"MuseumNights$Keys", "isKey", "(I)Z"⟩, prog_6_method_2_code, 1, some .boolean, 0, 6, 1), (⟨"MuseumNights$Keys", "isKey", "(I)Z"⟩, prog_6_method_2_code, 1, some .boolean, 0, 6, 1), (⟨"MuseumNights$Keys", "isKey", "(I)Z"⟩, prog_6_method_2_code, 1, some .boolean, 1, 6, 1), (⟨"MuseumNights$Text", "length", "()I"⟩, prog_10_method_2_code, 1, some .int, 0, 12, 0), (⟨"MuseumNights$Keys", "isKey", "(I)Z"⟩, prog_6_method_2_code, 1, some .boolean, 0, 6, 1), (⟨"MuseumNights$Keys", "isKey", "(I)Z"⟩, prog_6_method_2_code, 1, some .boolean, 1, 6, 1), (⟨"MuseumNights$Keys", "isKey", "(I)Z"⟩, prog_6_method_2_code, 1, some .boolean, 0, 6, 1), (⟨"MuseumNights$Keys", "isKey", "(I)Z"⟩, prog_6_method_2_code, 1, some .boolean, 6, 6, 1), (⟨"MuseumNights$Keys", "isKey", "(I)Z"⟩, prog_6_method_2_code, 1, some .boolean, 3, 6, 1), (⟨"MuseumNights$Keys", "isKey", "(I)Z"⟩, prog_6_method_2_code, 1, some .boolean, 2, 6, 1), (⟨"MuseumNights$Keys", "isKey", "(I)Z"⟩, prog_6_method_2_code, 1, some .boolean, 1, 6, 1), (⟨"MuseumNights$Keys", "isKey", "(I)Z"⟩, prog_6_method_2_code, 1, some .boolean, 0, 6, 1), (⟨"MuseumNights$Keys", "isKey", "(I)Z"⟩, prog_6_method_2_code, 1, some .boolean, 0, 6, 1), (⟨"MuseumNights$Keys", "isKey", "(I)Z"⟩, prog_6_method_2_code, 1, some .boolean, 1, 6, 1), (⟨"MuseumNights$Keys", "isKey", "(I)Z"⟩, prog_6_method_2_code, 1, some .boolean, 0, 6, 1), (⟨"MuseumNights$Keys", "isKey", "(I)Z"⟩, prog_6_method_2_code, 1, some .boolean, 0, 6, 1)]
def m_mt4 : List (MethodName × ByteArray × Nat × Option FieldType × Nat × Nat × Nat) := [(⟨"MuseumNights$Keys", "isKey", "(I)Z"⟩, prog_6_method_2_code, 1, some .boolean, 6, 6, 1), (⟨"MuseumNights$History", "size", "()I"⟩, prog_5_method_2_code, 1, some .int, 0, 11, 0), (⟨"MuseumNights$Keys", "isKey", "(I)Z"⟩, prog_6_method_2_code, 1, some .boolean, 5, 6, 1), (⟨"MuseumNights$Keys", "isKey", "(I)Z"⟩, prog_6_method_2_code, 1, some .boolean, 5, 6, 1), (⟨"MuseumNights$Keys", "isKey", "(I)Z"⟩, prog_6_method_2_code, 1, some .boolean, 6, 6, 1), (⟨"MuseumNights", "room", "(II)I"⟩, prog_1_method_26_code, 3, some .int, 2, 1, 2), (⟨"MuseumNights$Rooms", "longestGapOf", "(I)I"⟩, prog_9_method_14_code, 2, some .int, 1, 3, 1), (⟨"MuseumNights$Rooms", "watchedMinutesOf", "(I)I"⟩, prog_9_method_15_code, 2, some .int, 1, 3, 1), (⟨"MuseumNights$Works", "countIn", "(I)I"⟩, prog_11_method_17_code, 4, some .int, 0, 8, 1), (⟨"MuseumNights$Alarms", "openIn", "(I)I"⟩, prog_2_method_14_code, 4, some .int, 0, 9, 1), (⟨"MuseumNights$Keys", "isKey", "(I)Z"⟩, prog_6_method_2_code, 1, some .boolean, 2, 6, 1), (⟨"MuseumNights$Keys", "isKey", "(I)Z"⟩, prog_6_method_2_code, 1, some .boolean, 1, 6, 1), (⟨"MuseumNights$Keys", "isKey", "(I)Z"⟩, prog_6_method_2_code, 1, some .boolean, 1, 6, 1), (⟨"MuseumNights$Keys", "isKey", "(I)Z"⟩, prog_6_method_2_code, 1, some .boolean, 1, 6, 1), (⟨"MuseumNights$Keys", "isKey", "(I)Z"⟩, prog_6_method_2_code, 1, some .boolean, 1, 6, 1), (⟨"MuseumNights$Keys", "isKey", "(I)Z"⟩, prog_6_method_2_code, 1, some .boolean, 3, 6, 1), (⟨"MuseumNights$Keys", "isKey", "(I)Z"⟩, prog_6_method_2_code, 1, some .boolean, 0, 6, 1), (⟨"MuseumNights$Keys", "isKey", "(I)Z"⟩, prog_6_method_2_code, 1, some .boolean, 2, 6, 1), (⟨"MuseumNights", "guard", "(II)I"⟩, prog_1_method_29_code, 3, some .int, 3, 1, 2), (⟨"MuseumNights$Guards", "haltsOf", "(I)I"⟩, prog_4_method_18_code, 2, some .int, 1, 7, 1), (⟨"MuseumNights$Guards", "arrivalsOf", "(I)I"⟩, prog_4_method_19_code, 2, some .int, 1, 7, 1), (⟨"MuseumNights", "orderAt", "(II)I"⟩, prog_1_method_30_code, 3, some .int, 2, 1, 2), (⟨"MuseumNights$Keys", "isKey", "(I)Z"⟩, prog_6_method_2_code, 1, some .boolean, 2, 6, 1), (⟨"MuseumNights", "work", "(II)I"⟩, prog_1_method_32_code, 3, some .int, 2, 1, 2), (⟨"MuseumNights$Works", "alarmsOf", "(I)I"⟩, prog_11_method_16_code, 2, some .int, 1, 8, 1), (⟨"MuseumNights", "alarm", "(II)I"⟩, prog_1_method_33_code, 3, some .int, 2, 1, 2), (⟨"MuseumNights$Alarms", "causeOf", "(I)I"⟩, prog_2_method_9_code, 2, some .int, 1, 9, 1), (⟨"MuseumNights$Alarms", "clearedMinuteOf", "(I)I"⟩, prog_2_method_13_code, 2, some .int, 1, 9, 1), (⟨"MuseumNights$Keys", "isKey", "(I)Z"⟩, prog_6_method_2_code, 1, some .boolean, 1, 6, 1), (⟨"MuseumNights$Keys", "isKey", "(I)Z"⟩, prog_6_method_2_code, 1, some .boolean, 0, 6, 1), (⟨"MuseumNights", "gap", "(III)I"⟩, prog_1_method_35_code, 4, some .int, 2, 1, 3), (⟨"MuseumNights$Log", "longestGap", "(III)I"⟩, prog_7_method_9_code, 7, some .int, 1, 10, 3), (⟨"MuseumNights$Keys", "isKey", "(I)Z"⟩, prog_6_method_2_code, 1, some .boolean, 4, 6, 1), (⟨"MuseumNights$Keys", "isKey", "(I)Z"⟩, prog_6_method_2_code, 1, some .boolean, 3, 6, 1), (⟨"MuseumNights$Keys", "isKey", "(I)Z"⟩, prog_6_method_2_code, 1, some .boolean, 2, 6, 1), (⟨"MuseumNights$Keys", "isKey", "(I)Z"⟩, prog_6_method_2_code, 1, some .boolean, 0, 6, 1), (⟨"MuseumNights$Keys", "isKey", "(I)Z"⟩, prog_6_method_2_code, 1, some .boolean, 0, 6, 1), (⟨"MuseumNights$Keys", "isKey", "(I)Z"⟩, prog_6_method_2_code, 1, some .boolean, 1, 6, 1), (⟨"MuseumNights$Keys", "isKey", "(I)Z"⟩, prog_6_method_2_code, 1, some .boolean, 0, 6, 1), (⟨"MuseumNights", "alarmsIn", "(I)I"⟩, prog_1_method_38_code, 2, some .int, 7, 1, 1)]
def m_mt5 : List (MethodName × ByteArray × Nat × Option FieldType × Nat × Nat × Nat) := [(⟨"MuseumNights", "count", "(I)I"⟩, prog_1_method_39_code, 2, some .int, 2, 1, 1), (⟨"MuseumNights$Works", "troubledCount", "()I"⟩, prog_11_method_18_code, 3, some .int, 0, 8, 0), (⟨"MuseumNights$Alarms", "size", "()I"⟩, prog_2_method_3_code, 1, some .int, 0, 9, 0), (⟨"MuseumNights$Alarms", "openCount", "()I"⟩, prog_2_method_15_code, 3, some .int, 0, 9, 0), (⟨"MuseumNights$Alarms", "lostCount", "()I"⟩, prog_2_method_16_code, 1, some .int, 0, 9, 0), (⟨"MuseumNights$Log", "stayCount", "()I"⟩, prog_7_method_4_code, 1, some .int, 0, 10, 0), (⟨"MuseumNights$Guards", "haltCount", "()I"⟩, prog_4_method_20_code, 3, some .int, 0, 7, 0), (⟨"MuseumNights$Keys", "isKey", "(I)Z"⟩, prog_6_method_2_code, 1, some .boolean, 1, 6, 1), (⟨"MuseumNights$Keys", "isKey", "(I)Z"⟩, prog_6_method_2_code, 1, some .boolean, 2, 6, 1), (⟨"MuseumNights$Keys", "isKey", "(I)Z"⟩, prog_6_method_2_code, 1, some .boolean, 1, 6, 1), (⟨"MuseumNights$Keys", "isKey", "(I)Z"⟩, prog_6_method_2_code, 1, some .boolean, 0, 6, 1), (⟨"MuseumNights$Keys", "isKey", "(I)Z"⟩, prog_6_method_2_code, 1, some .boolean, 1, 6, 1), (⟨"MuseumNights$Keys", "isKey", "(I)Z"⟩, prog_6_method_2_code, 1, some .boolean, 1, 6, 1), (⟨"MuseumNights$Keys", "isKey", "(I)Z"⟩, prog_6_method_2_code, 1, some .boolean, 0, 6, 1), (⟨"MuseumNights$Keys", "isKey", "(I)Z"⟩, prog_6_method_2_code, 1, some .boolean, 2, 6, 1), (⟨"MuseumNights$Keys", "isKey", "(I)Z"⟩, prog_6_method_2_code, 1, some .boolean, 1, 6, 1), (⟨"MuseumNights$Keys", "isKey", "(I)Z"⟩, prog_6_method_2_code, 1, some .boolean, 1, 6, 1), (⟨"MuseumNights$Keys", "isKey", "(I)Z"⟩, prog_6_method_2_code, 1, some .boolean, 0, 6, 1), (⟨"MuseumNights$Keys", "isKey", "(I)Z"⟩, prog_6_method_2_code, 1, some .boolean, 2, 6, 1), (⟨"MuseumNights$Keys", "isKey", "(I)Z"⟩, prog_6_method_2_code, 1, some .boolean, 0, 6, 1), (⟨"MuseumNights$Keys", "isKey", "(I)Z"⟩, prog_6_method_2_code, 1, some .boolean, 2, 6, 1), (⟨"MuseumNights$Keys", "isKey", "(I)Z"⟩, prog_6_method_2_code, 1, some .boolean, 0, 6, 1), (⟨"MuseumNights$Keys", "isKey", "(I)Z"⟩, prog_6_method_2_code, 1, some .boolean, 0, 6, 1), (⟨"MuseumNights$Keys", "isKey", "(I)Z"⟩, prog_6_method_2_code, 1, some .boolean, 2, 6, 1), (⟨"MuseumNights$Keys", "isKey", "(I)Z"⟩, prog_6_method_2_code, 1, some .boolean, 1, 6, 1), (⟨"MuseumNights$Keys", "isKey", "(I)Z"⟩, prog_6_method_2_code, 1, some .boolean, 0, 6, 1), (⟨"MuseumNights$Keys", "isKey", "(I)Z"⟩, prog_6_method_2_code, 1, some .boolean, 2, 6, 1), (⟨"MuseumNights$Keys", "isKey", "(I)Z"⟩, prog_6_method_2_code, 1, some .boolean, 0, 6, 1), (⟨"MuseumNights$Keys", "isKey", "(I)Z"⟩, prog_6_method_2_code, 1, some .boolean, 1, 6, 1), (⟨"MuseumNights$Keys", "isKey", "(I)Z"⟩, prog_6_method_2_code, 1, some .boolean, 2, 6, 1), (⟨"MuseumNights$Keys", "isKey", "(I)Z"⟩, prog_6_method_2_code, 1, some .boolean, 0, 6, 1), (⟨"MuseumNights$Keys", "isKey", "(I)Z"⟩, prog_6_method_2_code, 1, some .boolean, 3, 6, 1), (⟨"MuseumNights$Keys", "isKey", "(I)Z"⟩, prog_6_method_2_code, 1, some .boolean, 1, 6, 1), (⟨"MuseumNights$Keys", "isKey", "(I)Z"⟩, prog_6_method_2_code, 1, some .boolean, 1, 6, 1), (⟨"MuseumNights$Keys", "isKey", "(I)Z"⟩, prog_6_method_2_code, 1, some .boolean, 2, 6, 1), (⟨"MuseumNights$Keys", "isKey", "(I)Z"⟩, prog_6_method_2_code, 1, some .boolean, 1, 6, 1), (⟨"MuseumNights$Keys", "isKey", "(I)Z"⟩, prog_6_method_2_code, 1, some .boolean, 1, 6, 1), (⟨"MuseumNights$Keys", "isKey", "(I)Z"⟩, prog_6_method_2_code, 1, some .boolean, 1, 6, 1), (⟨"MuseumNights$Keys", "isKey", "(I)Z"⟩, prog_6_method_2_code, 1, some .boolean, 2, 6, 1), (⟨"MuseumNights$Keys", "isKey", "(I)Z"⟩, prog_6_method_2_code, 1, some .boolean, 2, 6, 1)]
def m_mt6 : List (MethodName × ByteArray × Nat × Option FieldType × Nat × Nat × Nat) := [(⟨"MuseumNights$Keys", "isKey", "(I)Z"⟩, prog_6_method_2_code, 1, some .boolean, 2, 6, 1), (⟨"MuseumNights$Keys", "isKey", "(I)Z"⟩, prog_6_method_2_code, 1, some .boolean, 1, 6, 1), (⟨"MuseumNights$Keys", "isKey", "(I)Z"⟩, prog_6_method_2_code, 1, some .boolean, 2, 6, 1), (⟨"MuseumNights$Keys", "isKey", "(I)Z"⟩, prog_6_method_2_code, 1, some .boolean, 2, 6, 1), (⟨"MuseumNights$Keys", "isKey", "(I)Z"⟩, prog_6_method_2_code, 1, some .boolean, 2, 6, 1), (⟨"MuseumNights$Keys", "isKey", "(I)Z"⟩, prog_6_method_2_code, 1, some .boolean, 1, 6, 1), (⟨"MuseumNights$Keys", "isKey", "(I)Z"⟩, prog_6_method_2_code, 1, some .boolean, 0, 6, 1), (⟨"MuseumNights$Keys", "isKey", "(I)Z"⟩, prog_6_method_2_code, 1, some .boolean, 1, 6, 1), (⟨"MuseumNights$Keys", "isKey", "(I)Z"⟩, prog_6_method_2_code, 1, some .boolean, 2, 6, 1), (⟨"MuseumNights$Keys", "isKey", "(I)Z"⟩, prog_6_method_2_code, 1, some .boolean, 2, 6, 1), (⟨"MuseumNights$Keys", "isKey", "(I)Z"⟩, prog_6_method_2_code, 1, some .boolean, 1, 6, 1), (⟨"MuseumNights$Keys", "isKey", "(I)Z"⟩, prog_6_method_2_code, 1, some .boolean, 0, 6, 1), (⟨"MuseumNights$Keys", "isKey", "(I)Z"⟩, prog_6_method_2_code, 1, some .boolean, 7, 6, 1), (⟨"MuseumNights$Keys", "isKey", "(I)Z"⟩, prog_6_method_2_code, 1, some .boolean, 1, 6, 1), (⟨"MuseumNights$Keys", "isKey", "(I)Z"⟩, prog_6_method_2_code, 1, some .boolean, 6, 6, 1), (⟨"MuseumNights$Keys", "isKey", "(I)Z"⟩, prog_6_method_2_code, 1, some .boolean, 5, 6, 1), (⟨"MuseumNights$Keys", "isKey", "(I)Z"⟩, prog_6_method_2_code, 1, some .boolean, 4, 6, 1), (⟨"MuseumNights$Keys", "isKey", "(I)Z"⟩, prog_6_method_2_code, 1, some .boolean, 3, 6, 1), (⟨"MuseumNights$Keys", "isKey", "(I)Z"⟩, prog_6_method_2_code, 1, some .boolean, 2, 6, 1), (⟨"MuseumNights$Keys", "isKey", "(I)Z"⟩, prog_6_method_2_code, 1, some .boolean, 2, 6, 1), (⟨"MuseumNights$Keys", "isKey", "(I)Z"⟩, prog_6_method_2_code, 1, some .boolean, 1, 6, 1), (⟨"MuseumNights$Keys", "isKey", "(I)Z"⟩, prog_6_method_2_code, 1, some .boolean, 0, 6, 1), (⟨"MuseumNights$Keys", "isKey", "(I)Z"⟩, prog_6_method_2_code, 1, some .boolean, 1, 6, 1), (⟨"MuseumNights$Keys", "isKey", "(I)Z"⟩, prog_6_method_2_code, 1, some .boolean, 3, 6, 1), (⟨"MuseumNights$Keys", "isKey", "(I)Z"⟩, prog_6_method_2_code, 1, some .boolean, 2, 6, 1), (⟨"MuseumNights$Keys", "isKey", "(I)Z"⟩, prog_6_method_2_code, 1, some .boolean, 0, 6, 1), (⟨"MuseumNights$Keys", "isKey", "(I)Z"⟩, prog_6_method_2_code, 1, some .boolean, 0, 6, 1), (⟨"MuseumNights$Keys", "isKey", "(I)Z"⟩, prog_6_method_2_code, 1, some .boolean, 4, 6, 1), (⟨"MuseumNights$Keys", "isKey", "(I)Z"⟩, prog_6_method_2_code, 1, some .boolean, 3, 6, 1), (⟨"MuseumNights$Keys", "isKey", "(I)Z"⟩, prog_6_method_2_code, 1, some .boolean, 2, 6, 1), (⟨"MuseumNights$Keys", "isKey", "(I)Z"⟩, prog_6_method_2_code, 1, some .boolean, 1, 6, 1), (⟨"MuseumNights$Keys", "isKey", "(I)Z"⟩, prog_6_method_2_code, 1, some .boolean, 0, 6, 1), (⟨"MuseumNights$Keys", "isKey", "(I)Z"⟩, prog_6_method_2_code, 1, some .boolean, 0, 6, 1), (⟨"MuseumNights$Keys", "isKey", "(I)Z"⟩, prog_6_method_2_code, 1, some .boolean, 1, 6, 1), (⟨"MuseumNights$Keys", "isKey", "(I)Z"⟩, prog_6_method_2_code, 1, some .boolean, 1, 6, 1), (⟨"MuseumNights$Keys", "isKey", "(I)Z"⟩, prog_6_method_2_code, 1, some .boolean, 2, 6, 1), (⟨"MuseumNights$Keys", "isKey", "(I)Z"⟩, prog_6_method_2_code, 1, some .boolean, 2, 6, 1), (⟨"MuseumNights$Keys", "isKey", "(I)Z"⟩, prog_6_method_2_code, 1, some .boolean, 2, 6, 1), (⟨"MuseumNights$Keys", "isKey", "(I)Z"⟩, prog_6_method_2_code, 1, some .boolean, 1, 6, 1), (⟨"MuseumNights$Keys", "isKey", "(I)Z"⟩, prog_6_method_2_code, 1, some .boolean, 2, 6, 1)]
def m_mt7 : List (MethodName × ByteArray × Nat × Option FieldType × Nat × Nat × Nat) := [(⟨"MuseumNights$Keys", "isKey", "(I)Z"⟩, prog_6_method_2_code, 1, some .boolean, 2, 6, 1), (⟨"MuseumNights$Keys", "isKey", "(I)Z"⟩, prog_6_method_2_code, 1, some .boolean, 2, 6, 1), (⟨"MuseumNights$Keys", "isKey", "(I)Z"⟩, prog_6_method_2_code, 1, some .boolean, 3, 6, 1), (⟨"MuseumNights$Keys", "isKey", "(I)Z"⟩, prog_6_method_2_code, 1, some .boolean, 2, 6, 1), (⟨"MuseumNights$Keys", "isKey", "(I)Z"⟩, prog_6_method_2_code, 1, some .boolean, 2, 6, 1), (⟨"MuseumNights$Keys", "isKey", "(I)Z"⟩, prog_6_method_2_code, 1, some .boolean, 1, 6, 1), (⟨"MuseumNights$Keys", "isKey", "(I)Z"⟩, prog_6_method_2_code, 1, some .boolean, 2, 6, 1), (⟨"MuseumNights$Keys", "isKey", "(I)Z"⟩, prog_6_method_2_code, 1, some .boolean, 3, 6, 1), (⟨"MuseumNights$Keys", "isKey", "(I)Z"⟩, prog_6_method_2_code, 1, some .boolean, 1, 6, 1), (⟨"MuseumNights$Keys", "isKey", "(I)Z"⟩, prog_6_method_2_code, 1, some .boolean, 7, 6, 1), (⟨"MuseumNights$Keys", "isKey", "(I)Z"⟩, prog_6_method_2_code, 1, some .boolean, 3, 6, 1), (⟨"MuseumNights$Keys", "isKey", "(I)Z"⟩, prog_6_method_2_code, 1, some .boolean, 0, 6, 1), (⟨"MuseumNightsLaw", "cell", "([II)I"⟩, method_2_code, 2, some .int, 0, 0, 2), (⟨"MuseumNightsLaw", "low", "(II)I"⟩, method_3_code, 2, some .int, 0, 0, 2), (⟨"MuseumNightsLaw", "door", "(II[I)I"⟩, method_4_code, 4, some .int, 0, 0, 3), (⟨"MuseumNightsLaw", "stands", "(I[I)Z"⟩, method_6_code, 2, some .boolean, 0, 0, 2), (⟨"MuseumNightsLaw", "minute", "([I[I[I[I[I[I[I[I)V"⟩, method_9_code, 11, none, 2, 0, 8), (⟨"MuseumNightsLaw", "sets", "(I[I[I[I[I)V"⟩, method_7_code, 8, none, 1, 0, 5), (⟨"MuseumNightsLaw", "walks", "(I[I[I[I[I)V"⟩, method_8_code, 7, none, 1, 0, 5), (⟨"MuseumNightsLaw", "alarm", "(II[I[I)V"⟩, method_5_code, 4, none, 0, 0, 4), (⟨"MuseumNightsLaw", "same", "(LMuseumNights;[I[I[I[I[I[I[I)Z"⟩, method_10_code, 14, some .boolean, 4, 0, 8), (⟨"MuseumNightsLaw", "bits", "(I)I"⟩, method_11_code, 3, some .int, 0, 0, 1)]
def m_mt : List (List (MethodName × ByteArray × Nat × Option FieldType × Nat × Nat × Nat)) := [m_mt0, m_mt1, m_mt2, m_mt3, m_mt4, m_mt5, m_mt6, m_mt7]
def m_row (j : Nat) : MethodName × ByteArray × Nat × Option FieldType × Nat × Nat × Nat := ((m_mt[j / 40]?.getD [])[j % 40]?).getD (x, code, maxLocals, ret, 8, 0, 1)
def m_y (j : Nat) : MethodName := (m_row j).1
def m_code (j : Nat) : ByteArray := (m_row j).2.1
def m_nl (j : Nat) : Nat := (m_row j).2.2.1
def m_ret (j : Nat) : Option FieldType := (m_row j).2.2.2.1
def m_fr (j : Nat) : Nat := (m_row j).2.2.2.2.1
def m_own (j : Nat) : Nat := (m_row j).2.2.2.2.2.1
def m_np (j : Nat) : Nat := (m_row j).2.2.2.2.2.2
/-- fields by class and place in the pool: (pool, class, field, of a nest mate) -/
def m_fl : List (List (Nat × Nat × Nat × Bool)) := [[],
  [(50, 1, 0, true), (74, 1, 1, true), (95, 1, 2, true), (153, 1, 3, true), (131, 1, 4, true), (188, 1, 5, true), (220, 1, 6, true), (355, 1, 7, true), (138, 1, 8, true), (247, 1, 9, true), (10, 0, 0, false), (16, 0, 1, false), (19, 0, 2, false), (25, 0, 3, false), (32, 0, 4, false), (36, 0, 5, false)],
  [(12, 1, 0, false), (21, 1, 1, false), (28, 1, 2, false), (35, 1, 3, false), (42, 1, 4, false), (49, 1, 5, false), (56, 1, 6, false), (63, 1, 7, false), (67, 1, 8, false), (71, 1, 9, false)],
  [(9, 2, 0, false), (15, 2, 1, false), (18, 2, 2, false), (21, 2, 3, false), (24, 2, 4, false), (27, 2, 5, false), (30, 2, 6, false)],
  [(9, 3, 0, false), (15, 3, 1, false), (18, 3, 2, false), (21, 3, 3, false), (24, 3, 4, false), (27, 3, 5, false), (30, 3, 6, false)],
  [(9, 4, 0, false), (15, 4, 1, false)],
  [(9, 5, 0, false)],
  [(9, 6, 0, false), (15, 6, 1, false), (18, 6, 2, false), (21, 6, 3, false), (24, 6, 4, false), (27, 6, 5, false), (30, 6, 6, false), (33, 6, 7, false), (36, 6, 8, false), (39, 6, 9, false)],
  [(9, 7, 0, false), (15, 7, 1, false), (18, 7, 2, false), (21, 7, 3, false), (24, 7, 4, false), (27, 7, 5, false)],
  [(9, 8, 0, false), (15, 8, 1, false), (18, 8, 2, false), (21, 8, 3, false), (24, 8, 4, false), (27, 8, 5, false), (31, 8, 6, false)],
  [(11, 9, 0, false), (15, 9, 1, false), (18, 9, 2, false)],
  [(12, 10, 0, false), (18, 10, 1, false), (21, 10, 2, false), (24, 10, 3, false), (27, 10, 4, false)],
  [(9, 11, 0, false), (15, 11, 1, false), (19, 11, 2, false), (23, 11, 3, false), (26, 11, 4, false)],
  [],
  [],
  []]
def m_ml0_0 : List (Nat × Nat × Nat) := [(56, 0, 1), (64, 2, 14), (67, 2, 34), (91, 2, 51), (94, 2, 55), (74, 2, 62), (100, 2, 65), (103, 2, 72), (78, 2, 75), (106, 2, 78), (71, 2, 82), (109, 2, 86), (88, 2, 105), (81, 2, 199), (57, 3, 292), (61, 3, 293), (10, 3, 294), (24, 3, 295), (84, 3, 296), (20, 3, 297), (28, 3, 298), (16, 3, 299), (112, 3, 300), (31, 2, 165), (37, 2, 190)]
def m_ml0_1 : List (Nat × Nat × Nat) := [(41, 2, 178), (44, 2, 181), (47, 2, 183), (50, 2, 185), (52, 2, 200), (97, 3, 301)]
def m_ml1_0 : List (Nat × Nat × Nat) := [(1, 4, 0), (9, 1, 2), (24, 1, 12), (31, 1, 13), (40, 3, 15), (46, 3, 16), (54, 2, 17), (60, 2, 18), (64, 2, 32), (68, 2, 35), (71, 3, 36), (145, 3, 37), (78, 2, 38), (83, 2, 39), (84, 2, 40), (118, 2, 52), (99, 2, 45), (121, 2, 53), (125, 2, 54), (128, 2, 56), (135, 2, 57), (142, 2, 63), (144, 2, 59), (150, 2, 66), (157, 2, 67)]
def m_ml1_1 : List (Nat × Nat × Nat) := [(160, 2, 68), (163, 2, 70), (166, 2, 73), (169, 2, 76), (172, 2, 77), (175, 2, 79), (178, 2, 80), (182, 2, 81), (185, 2, 83), (192, 2, 84), (195, 2, 85), (198, 2, 87), (199, 2, 88), (202, 2, 89), (205, 2, 91), (208, 2, 92), (211, 2, 93), (238, 2, 106), (275, 2, 19), (278, 2, 60), (87, 2, 42), (281, 2, 135), (284, 2, 130), (287, 2, 166), (290, 2, 167)]
def m_ml1_2 : List (Nat × Nat × Nat) := [(293, 2, 168), (294, 2, 169), (362, 2, 191), (314, 2, 58), (315, 2, 61), (318, 2, 125), (321, 2, 69), (324, 2, 179), (327, 2, 180), (330, 2, 112), (332, 2, 134), (335, 2, 133), (338, 2, 90), (341, 2, 184), (224, 2, 99), (344, 2, 186), (227, 2, 100), (235, 2, 104), (347, 2, 102), (350, 2, 187), (371, 2, 201), (374, 2, 202), (375, 2, 203), (376, 2, 204), (241, 2, 138)]
def m_ml1_3 : List (Nat × Nat × Nat) := [(379, 2, 205), (382, 2, 206), (271, 2, 161), (250, 2, 147)]
def m_ml2_0 : List (Nat × Nat × Nat) := [(3, 4, 0), (11, 0, 3), (20, 1, 4), (27, 1, 5), (34, 0, 6), (41, 1, 8), (48, 1, 9), (55, 1, 10), (62, 1, 11), (74, 2, 20), (78, 2, 21), (81, 2, 22), (84, 2, 23), (87, 2, 24), (90, 2, 25), (93, 2, 26), (96, 2, 27), (130, 2, 57), (151, 2, 58), (209, 2, 60), (255, 2, 61), (111, 2, 107), (115, 2, 108), (133, 2, 74), (137, 2, 79)]
def m_ml2_1 : List (Nat × Nat × Nat) := [(141, 2, 109), (145, 2, 76), (148, 2, 110), (154, 2, 111), (157, 2, 38), (161, 2, 69), (164, 2, 113), (168, 2, 114), (171, 2, 115), (174, 2, 116), (178, 2, 117), (181, 2, 93), (184, 2, 118), (118, 2, 119), (187, 2, 120), (190, 2, 121), (193, 2, 122), (121, 2, 123), (197, 2, 124), (200, 2, 125), (203, 2, 126), (206, 2, 127), (212, 3, 15), (215, 2, 45), (218, 2, 128)]
def m_ml2_2 : List (Nat × Nat × Nat) := [(124, 2, 129), (222, 2, 17), (223, 2, 42), (226, 2, 130), (127, 2, 131), (229, 2, 84), (230, 2, 89), (233, 2, 132), (242, 2, 88), (246, 2, 133), (249, 2, 134), (252, 2, 135), (236, 2, 96), (239, 2, 136), (243, 2, 97)]
def m_ml3_0 : List (Nat × Nat × Nat) := [(3, 4, 0), (34, 5, 0), (40, 2, 33), (50, 2, 35), (44, 6, 28)]
def m_ml4_0 : List (Nat × Nat × Nat) := [(3, 4, 0), (34, 5, 0), (40, 2, 94)]
def m_ml5_0 : List (Nat × Nat × Nat) := [(3, 4, 0), (19, 5, 0), (39, 2, 47), (25, 3, 15), (35, 3, 49), (29, 3, 50)]
def m_ml6_0 : List (Nat × Nat × Nat) := [(3, 4, 0), (15, 3, 7), (21, 5, 0), (27, 3, 37), (31, 2, 69), (35, 3, 50)]
def m_ml7_0 : List (Nat × Nat × Nat) := [(3, 4, 0), (43, 5, 0), (53, 2, 59), (49, 2, 64), (57, 2, 74), (60, 2, 58), (64, 2, 66), (68, 2, 79), (71, 2, 112)]
def m_ml8_0 : List (Nat × Nat × Nat) := [(3, 4, 0), (31, 5, 0), (37, 2, 87), (41, 2, 90)]
def m_ml9_0 : List (Nat × Nat × Nat) := [(3, 4, 0), (34, 5, 0), (40, 2, 99)]
def m_ml10_0 : List (Nat × Nat × Nat) := [(5, 4, 0), (22, 6, 28), (28, 7, 29), (31, 5, 0), (37, 2, 30), (41, 3, 31)]
def m_ml11_0 : List (Nat × Nat × Nat) := [(3, 4, 0), (11, 1, 2), (31, 2, 19), (35, 7, 29)]
def m_ml12_0 : List (Nat × Nat × Nat) := [(3, 4, 0)]
def m_ml13_0 : List (Nat × Nat × Nat) := [(304, 7, 29), (150, 5, 0)]
/-- methods likewise: (pool, kind, method); kinds: 0 a constructor, 1 one of a nest mate, 2 virtual, 3 static, 4 Object(), 5 arraycopy, 6 Math.max, 7 Math.min -/
def m_ml : List (List (Nat × Nat × Nat)) := [m_ml0_0 ++ m_ml0_1, m_ml1_0 ++ m_ml1_1 ++ m_ml1_2 ++ m_ml1_3, m_ml2_0 ++ m_ml2_1 ++ m_ml2_2, m_ml3_0, m_ml4_0, m_ml5_0, m_ml6_0, m_ml7_0, m_ml8_0, m_ml9_0, m_ml10_0, m_ml11_0, m_ml12_0, m_ml13_0, [], []]
/-- classes likewise: (pool, class) -/
def m_kl : List (List (Nat × Nat)) := [[(32, 0)],
  [(7, 1), (22, 10), (29, 11)],
  [(9, 2), (18, 3), (25, 4), (32, 5), (39, 6), (46, 7), (53, 8), (60, 9)],
  [],
  [],
  [],
  [],
  [],
  [],
  [],
  [],
  [(9, 1)],
  [],
  [],
  [],
  []]
/-- int constants likewise -/
def m_cl : List (List (Nat × Int32)) := [[(7, 1065670069), (8, 1779033703), (9, 2147483647)],
  [],
  [],
  [],
  [],
  [],
  [],
  [],
  [],
  [],
  [],
  [],
  [],
  [],
  [],
  [(265, 1431655765), (266, 858993459), (267, 252645135)]]
def m_findF (own idx : Nat) : Option (Nat × Nat × Nat × Bool) := (m_fl[own]?.getD []).find? (fun e => e.1 == idx)
def m_findM (own idx : Nat) : Option (Nat × Nat × Nat) := (m_ml[own]?.getD []).find? (fun e => e.1 == idx)
def m_findK (own idx : Nat) : Option (Nat × Nat) := (m_kl[own]?.getD []).find? (fun e => e.1 == idx)
def m_findC (own idx : Nat) : Option (Nat × Int32) := (m_cl[own]?.getD []).find? (fun e => e.1 == idx)
def m_ownS (o : Nat) : String := m_owns[o]?.getD ""
def m_clsQ (ci : Nat) : vw_C := m_cls[ci]?.getD ("", m_T0, 0)
/-- the word of a field's link -/
def m_fw (o : Nat) (e : Nat × Nat × Nat × Bool) : Cond :=
  match e with
  | (idx, ci, k, true) => .fieldLinkNest (m_ownS o) idx (m_clsQ ci).1 ((m_clsQ ci).2.1 k).2.1 ((m_clsQ ci).2.1 k).2.2.1 "MuseumNights"
  | (idx, ci, k, false) => .fieldLink (m_ownS o) idx (m_clsQ ci).1 ((m_clsQ ci).2.1 k).2.1 ((m_clsQ ci).2.1 k).2.2.1
def m_fok (e : Nat × Nat × Nat × Bool) : Bool :=
  decide (e.2.1 < m_cls.length) && decide (e.2.2.1 < (m_clsQ e.2.1).2.2) && decide (((m_clsQ e.2.1).2.1 e.2.2.1).1 = (m_clsQ e.2.1).1)
set_option maxRecDepth 100000 in
theorem m_fl_ok : (m_fl.all fun p => p.all m_fok) = true := by decide +kernel
set_option maxRecDepth 100000 in
theorem m_fw1 : (m_fl[1]?.getD []).map (m_fw 1) = [233, 235, 237, 239, 241, 243, 245, 247, 249, 251, 320, 321, 322, 323, 324, 325].filterMap (fun i => lw_tbl[i]?) := by rfl
set_option maxRecDepth 100000 in
theorem m_fw2 : (m_fl[2]?.getD []).map (m_fw 2) = [232, 234, 236, 238, 240, 242, 244, 246, 248, 250].filterMap (fun i => lw_tbl[i]?) := by rfl
set_option maxRecDepth 100000 in
theorem m_fw3 : (m_fl[3]?.getD []).map (m_fw 3) = [49, 50, 51, 52, 53, 54, 55].filterMap (fun i => lw_tbl[i]?) := by rfl
set_option maxRecDepth 100000 in
theorem m_fw4 : (m_fl[4]?.getD []).map (m_fw 4) = [78, 79, 80, 81, 82, 83, 84].filterMap (fun i => lw_tbl[i]?) := by rfl
set_option maxRecDepth 100000 in
theorem m_fw5 : (m_fl[5]?.getD []).map (m_fw 5) = [106, 107].filterMap (fun i => lw_tbl[i]?) := by rfl
set_option maxRecDepth 100000 in
theorem m_fw6 : (m_fl[6]?.getD []).map (m_fw 6) = [122].filterMap (fun i => lw_tbl[i]?) := by rfl
set_option maxRecDepth 100000 in
theorem m_fw7 : (m_fl[7]?.getD []).map (m_fw 7) = [132, 133, 134, 135, 136, 137, 138, 139, 140, 141].filterMap (fun i => lw_tbl[i]?) := by rfl
set_option maxRecDepth 100000 in
theorem m_fw8 : (m_fl[8]?.getD []).map (m_fw 8) = [169, 170, 171, 172, 173, 174].filterMap (fun i => lw_tbl[i]?) := by rfl
set_option maxRecDepth 100000 in
theorem m_fw9 : (m_fl[9]?.getD []).map (m_fw 9) = [194, 195, 196, 197, 198, 199, 200].filterMap (fun i => lw_tbl[i]?) := by rfl
set_option maxRecDepth 100000 in
theorem m_fw10 : (m_fl[10]?.getD []).map (m_fw 10) = [222, 223, 224].filterMap (fun i => lw_tbl[i]?) := by rfl
set_option maxRecDepth 100000 in
theorem m_fw11 : (m_fl[11]?.getD []).map (m_fw 11) = [281, 282, 283, 284, 285].filterMap (fun i => lw_tbl[i]?) := by rfl
set_option maxRecDepth 100000 in
theorem m_fw12 : (m_fl[12]?.getD []).map (m_fw 12) = [303, 304, 305, 306, 307].filterMap (fun i => lw_tbl[i]?) := by rfl
/-- the words of a row of m_ml -/
def m_mws (o : Nat) (e : Nat × Nat × Nat) : List Cond :=
  match e with
  | (idx, 0, j) => [.methodLink (m_ownS o) idx (m_y j), .instanceMethod (m_y j), .initialized (m_y j).cls]
  | (idx, 1, j) => [.methodLinkNest (m_ownS o) idx (m_y j) "MuseumNights", .instanceMethod (m_y j), .initialized (m_y j).cls]
  | (idx, 2, j) => [.methodLink (m_ownS o) idx (m_y j), .instanceMethod (m_y j), .initialized (m_y j).cls, .selects (m_y j).cls (m_y j) (m_y j)]
  | (idx, 3, j) => [.methodLink (m_ownS o) idx (m_y j), .static (m_y j), .initialized (m_y j).cls]
  | (idx, 4, _) => [.methodLink (m_ownS o) idx objectInit]
  | (idx, 5, _) => [.methodLink (m_ownS o) idx arraycopyName]
  | (idx, 6, _) => [.methodLink (m_ownS o) idx Lib.Math.max.name]
  | (idx, 7, _) => [.methodLink (m_ownS o) idx Lib.Math.min.name]
  | _ => []
set_option maxRecDepth 100000 in
theorem m_ml0_0_ok : m_ml0_0.flatMap (m_mws 0) = [31, 32, 13, 339, 340, 13, 341, 434, 435, 13, 436, 460, 461, 13, 462, 494, 495, 13, 496, 523, 524, 13, 525, 536, 537, 13, 538, 563, 564, 13, 565, 577, 578, 13, 579, 589, 590, 13, 591, 605, 606, 13, 607, 621, 622, 13, 623, 658, 659, 13, 660, 812, 813, 13, 814, 817, 818, 12, 822, 823, 12, 826, 827, 12, 829, 830, 12, 832, 833, 12, 835, 836, 12, 838, 839, 12, 841, 842, 12, 844, 845, 12, 847, 848, 13, 849, 871, 872, 13, 873].filterMap (fun i => lw_tbl[i]?) := by rfl
set_option maxRecDepth 100000 in
theorem m_ml0_1_ok : m_ml0_1.flatMap (m_mws 0) = [879, 880, 13, 881, 895, 896, 13, 897, 900, 901, 13, 902, 911, 912, 13, 913, 940, 941, 13, 942, 980, 981, 12].filterMap (fun i => lw_tbl[i]?) := by rfl
set_option maxRecDepth 100000 in
theorem m_ml1_0_ok : m_ml1_0.flatMap (m_mws 1) = [34, 39, 40, 14, 275, 276, 24, 299, 300, 25, 343, 344, 17, 346, 347, 13, 349, 350, 15, 351, 353, 354, 24, 355, 426, 427, 15, 428, 438, 439, 15, 440, 442, 443, 13, 445, 446, 18, 448, 449, 16, 450, 452, 453, 16, 454, 456, 457, 16, 458, 464, 465, 17, 466, 473, 474, 17, 475, 477, 478, 17, 479, 484, 485, 17, 486, 498, 499, 14, 500, 527, 503, 20, 504, 528, 529, 20, 530, 540, 511, 20, 512, 541, 542, 20, 543, 545, 546, 18, 547].filterMap (fun i => lw_tbl[i]?) := by rfl
set_option maxRecDepth 100000 in
theorem m_ml1_1_ok : m_ml1_1.flatMap (m_mws 1) = [550, 551, 18, 552, 559, 560, 18, 561, 567, 568, 20, 569, 581, 582, 20, 583, 585, 586, 20, 587, 593, 594, 20, 595, 597, 598, 20, 599, 601, 602, 20, 603, 609, 611, 13, 3, 613, 614, 21, 615, 617, 618, 21, 619, 625, 626, 21, 627, 629, 630, 21, 631, 634, 635, 21, 636, 642, 643, 20, 644, 646, 647, 21, 648, 650, 651, 16, 652, 662, 663, 14, 664, 816, 358, 14, 359, 851, 515, 15, 516, 852, 770, 15, 771, 853, 797, 15, 798, 854, 774, 15, 775, 855, 856, 15, 857, 859, 860, 15, 861].filterMap (fun i => lw_tbl[i]?) := by rfl
set_option maxRecDepth 100000 in
theorem m_ml1_2_ok : m_ml1_2.flatMap (m_mws 1) = [863, 864, 21, 865, 867, 868, 22, 869, 875, 876, 23, 877, 883, 507, 20, 508, 884, 520, 20, 521, 885, 747, 20, 748, 886, 555, 18, 556, 887, 888, 20, 889, 891, 892, 20, 893, 899, 691, 20, 692, 904, 793, 21, 794, 905, 789, 21, 790, 906, 639, 21, 640, 907, 908, 21, 909, 915, 916, 22, 917, 919, 920, 22, 921, 924, 925, 22, 926, 928, 929, 22, 930, 932, 933, 22, 934, 936, 937, 22, 938, 944, 945, 21, 946, 948, 949, 22, 950, 952, 953, 22, 954, 956, 957, 22, 958, 960, 961, 18, 962].filterMap (fun i => lw_tbl[i]?) := by rfl
set_option maxRecDepth 100000 in
theorem m_ml1_3_ok : m_ml1_3.flatMap (m_mws 1) = [964, 965, 23, 966, 968, 969, 20, 970, 972, 973, 24, 974, 976, 977, 25, 978].filterMap (fun i => lw_tbl[i]?) := by rfl
set_option maxRecDepth 100000 in
theorem m_ml2_0_ok : m_ml2_0.flatMap (m_mws 2) = [42, 45, 46, 15, 74, 75, 16, 102, 103, 17, 115, 116, 18, 128, 129, 20, 165, 166, 21, 190, 191, 22, 218, 219, 23, 361, 362, 15, 363, 368, 369, 16, 370, 373, 374, 17, 375, 378, 379, 18, 380, 383, 384, 20, 385, 388, 389, 21, 390, 393, 394, 22, 395, 398, 399, 23, 400, 502, 503, 20, 504, 506, 507, 20, 508, 514, 515, 15, 516, 519, 520, 20, 521, 666, 667, 22, 668, 670, 672, 14, 4, 674, 572, 20, 573, 675, 594, 20, 595].filterMap (fun i => lw_tbl[i]?) := by rfl
set_option maxRecDepth 100000 in
theorem m_ml2_1_ok : m_ml2_1.flatMap (m_mws 2) = [676, 677, 20, 678, 681, 582, 20, 583, 682, 684, 14, 5, 686, 687, 20, 688, 694, 449, 16, 450, 695, 555, 18, 556, 696, 697, 16, 698, 700, 701, 20, 702, 704, 705, 20, 706, 708, 709, 23, 710, 712, 713, 16, 714, 716, 651, 16, 652, 717, 718, 20, 719, 721, 723, 14, 6, 725, 726, 20, 727, 729, 730, 15, 731, 734, 735, 23, 736, 738, 740, 14, 7, 742, 743, 20, 744, 746, 747, 20, 748, 750, 751, 20, 752, 754, 756, 14, 8, 758, 344, 17, 759, 474, 17, 475, 760, 761, 22, 762].filterMap (fun i => lw_tbl[i]?) := by rfl
set_option maxRecDepth 100000 in
theorem m_ml2_2_ok : m_ml2_2.flatMap (m_mws 2) = [764, 766, 14, 9, 768, 350, 15, 351, 769, 770, 15, 771, 773, 774, 15, 775, 777, 779, 14, 10, 781, 614, 21, 615, 782, 635, 21, 636, 783, 785, 14, 11, 787, 630, 21, 631, 788, 789, 21, 790, 792, 793, 21, 794, 796, 797, 15, 798, 800, 801, 21, 802, 804, 805, 21, 806, 808, 809, 21, 810].filterMap (fun i => lw_tbl[i]?) := by rfl
set_option maxRecDepth 100000 in
theorem m_ml3_0_ok : m_ml3_0.flatMap (m_mws 3) = [48, 365, 430, 432, 15, 1, 518, 439, 15, 440, 733].filterMap (fun i => lw_tbl[i]?) := by rfl
set_option maxRecDepth 100000 in
theorem m_ml4_0_ok : m_ml4_0.flatMap (m_mws 4) = [77, 372, 654, 655, 16, 656].filterMap (fun i => lw_tbl[i]?) := by rfl
set_option maxRecDepth 100000 in
theorem m_ml5_0_ok : m_ml5_0.flatMap (m_mws 5) = [105, 377, 468, 469, 17, 470, 472, 344, 17, 481, 482, 17, 488, 489, 28].filterMap (fun i => lw_tbl[i]?) := by rfl
set_option maxRecDepth 100000 in
theorem m_ml6_0_ok : m_ml6_0.flatMap (m_mws 6) = [118, 119, 120, 19, 382, 549, 446, 18, 554, 555, 18, 556, 558, 489, 28].filterMap (fun i => lw_tbl[i]?) := by rfl
set_option maxRecDepth 100000 in
theorem m_ml7_0_ok : m_ml7_0.flatMap (m_mws 7) = [131, 387, 510, 511, 20, 512, 532, 534, 20, 2, 571, 572, 20, 573, 575, 507, 20, 508, 576, 542, 20, 543, 680, 594, 20, 595, 690, 691, 20, 692].filterMap (fun i => lw_tbl[i]?) := by rfl
set_option maxRecDepth 100000 in
theorem m_ml8_0_ok : m_ml8_0.flatMap (m_mws 8) = [168, 392, 633, 626, 21, 627, 638, 639, 21, 640].filterMap (fun i => lw_tbl[i]?) := by rfl
set_option maxRecDepth 100000 in
theorem m_ml9_0_ok : m_ml9_0.flatMap (m_mws 9) = [193, 397, 923, 916, 22, 917].filterMap (fun i => lw_tbl[i]?) := by rfl
set_option maxRecDepth 100000 in
theorem m_ml10_0_ok : m_ml10_0.flatMap (m_mws 10) = [221, 402, 405, 408, 409, 411, 23, 0, 413, 414, 19].filterMap (fun i => lw_tbl[i]?) := by rfl
set_option maxRecDepth 100000 in
theorem m_ml11_0_ok : m_ml11_0.flatMap (m_mws 11) = [278, 280, 40, 14, 357, 358, 14, 359, 425].filterMap (fun i => lw_tbl[i]?) := by rfl
set_option maxRecDepth 100000 in
theorem m_ml12_0_ok : m_ml12_0.flatMap (m_mws 12) = [302].filterMap (fun i => lw_tbl[i]?) := by rfl
set_option maxRecDepth 100000 in
theorem m_ml13_0_ok : m_ml13_0.flatMap (m_mws 13) = [423, 424].filterMap (fun i => lw_tbl[i]?) := by rfl
/-- words of the machine itself -/
def m_sysw : List Cond := [.instanceMethod objectInit, .static Lib.Math.max.name, .static Lib.Math.min.name, .initialized "java/lang/Math", .initialized "java/lang/System", .arrayClass .int, .arrayClass .char, .native arraycopyName, .static arraycopyName, .code objectInit ⟨#[0xb1]⟩ 1 none, .code Lib.Math.max.name Lib.Math.max.code 2 (some .int), .code Lib.Math.min.name Lib.Math.min.code 2 (some .int)]
set_option maxRecDepth 100000 in
theorem m_sys_ok : m_sysw = [35, 403, 406, 27, 26, 71, 319, 367, 366, 36, 404, 407].filterMap (fun i => lw_tbl[i]?) := by rfl
/-- what the machine asks of each method -/
def m_jok (j : Nat) : Bool :=
  decide (m_ownS (m_own j) = (m_y j).cls) && decide ((m_y j).cls ≠ "java/lang/invoke/MethodHandle") && decide ((m_y j).cls ≠ "java/lang/invoke/VarHandle")
    && decide ((parseMethodDescriptor (m_y j).desc).map (fun d => d.parameters.length) = some (m_np j)) && decide (m_nl j ≤ 29) && (decide ((m_y j).cls = "java/lang/Math") || plainName (m_y j).cls)
set_option maxRecDepth 100000 in
theorem m_jok1 : ((List.range 100).all m_jok) = true := by decide +kernel
set_option maxRecDepth 100000 in
theorem m_jok2 : ((List.range' 100 100).all m_jok) = true := by decide +kernel
set_option maxRecDepth 100000 in
theorem m_jok3 : ((List.range' 200 102).all m_jok) = true := by decide +kernel
/-- the kinds of the rows -/
def m_kindok (e : Nat × Nat × Nat) : Bool :=
  decide (e.2.1 ≤ 7) && (decide (3 < e.2.1) || (decide (0 < e.2.2) && decide (e.2.2 < 302) && decide ((m_y e.2.2).cls ≠ "java/lang/Math") && (decide (1 < e.2.1) || (decide ((m_y e.2.2).name = "<init>") && decide (m_ret e.2.2 = none)))))
set_option maxRecDepth 100000 in
theorem m_kind_ok : (m_ml.all fun p => p.all m_kindok) = true := by decide +kernel
def m_cwr (r : MethodName × ByteArray × Nat × Option FieldType × Nat × Nat × Nat) : Cond := .code r.1 r.2.1 r.2.2.1 r.2.2.2.1
set_option maxRecDepth 100000 in
theorem m_cw0 : (m_mt0.drop 1).map m_cwr = [33, 41, 47, 76, 104, 117, 121, 130, 167, 192, 220, 277, 301, 342, 345, 348, 352, 356, 360, 364, 371, 376, 381, 386, 391, 396, 401, 404, 407, 412, 415, 429, 433, 437, 441, 444, 447, 451, 455].filterMap (fun i => lw_tbl[i]?) := by rfl
set_option maxRecDepth 100000 in
theorem m_cw1 : m_mt1.map m_cwr = [459, 447, 772, 447, 447, 476, 447, 471, 447, 483, 490, 463, 467, 480, 487, 497, 501, 505, 509, 513, 517, 522, 526, 531, 535, 539, 544, 548, 553, 557, 562, 447, 566, 570, 574, 580, 584, 588, 592, 596].filterMap (fun i => lw_tbl[i]?) := by rfl
set_option maxRecDepth 100000 in
theorem m_cw2 : m_mt2.map m_cwr = [600, 604, 608, 612, 616, 620, 624, 628, 632, 637, 641, 645, 649, 653, 657, 447, 803, 811, 447, 918, 927, 447, 935, 447, 931, 661, 665, 669, 673, 679, 685, 689, 693, 699, 703, 707, 711, 715, 720, 724].filterMap (fun i => lw_tbl[i]?) := by rfl
set_option maxRecDepth 100000 in
theorem m_cw3 : m_mt3.map m_cwr = [728, 732, 737, 741, 745, 749, 753, 757, 763, 767, 776, 780, 786, 791, 795, 799, 807, 447, 963, 447, 447, 447, 447, 447, 447, 447, 447, 979, 447, 447, 447, 447, 447, 447, 447, 447, 447, 447, 447, 447].filterMap (fun i => lw_tbl[i]?) := by rfl
set_option maxRecDepth 100000 in
theorem m_cw4 : m_mt4.map m_cwr = [447, 975, 447, 447, 447, 850, 858, 862, 866, 870, 447, 447, 447, 447, 447, 447, 447, 447, 882, 890, 894, 898, 447, 903, 910, 914, 922, 939, 447, 447, 874, 878, 447, 447, 447, 447, 447, 447, 447, 815].filterMap (fun i => lw_tbl[i]?) := by rfl
set_option maxRecDepth 100000 in
theorem m_cw5 : m_mt5.map m_cwr = [943, 947, 951, 955, 959, 967, 971, 447, 447, 447, 447, 447, 447, 447, 447, 447, 447, 447, 447, 447, 447, 447, 447, 447, 447, 447, 447, 447, 447, 447, 447, 447, 447, 447, 447, 447, 447, 447, 447, 447].filterMap (fun i => lw_tbl[i]?) := by rfl
set_option maxRecDepth 100000 in
theorem m_cw6 : m_mt6.map m_cwr = [447, 447, 447, 447, 447, 447, 447, 447, 447, 447, 447, 447, 447, 447, 447, 447, 447, 447, 447, 447, 447, 447, 447, 447, 447, 447, 447, 447, 447, 447, 447, 447, 447, 447, 447, 447, 447, 447, 447, 447].filterMap (fun i => lw_tbl[i]?) := by rfl
set_option maxRecDepth 100000 in
theorem m_cw7 : m_mt7.map m_cwr = [447, 447, 447, 447, 447, 447, 447, 447, 447, 447, 447, 447, 819, 824, 828, 831, 834, 837, 840, 843, 846, 982].filterMap (fun i => lw_tbl[i]?) := by rfl
def m_kw (o : Nat) (e : Nat × Nat) : List Cond := [.classLink (m_ownS o) e.1 (m_clsQ e.2).1, .instantiable (m_clsQ e.2).1 (m_clsQ e.2).2.2, .initialized (m_clsQ e.2).1]
set_option maxRecDepth 100000 in
theorem m_kw_ok : (m_kl.zipIdx.flatMap fun p => p.1.flatMap (m_kw p.2)) = [29, 30, 13, 37, 38, 14, 273, 274, 24, 297, 298, 25, 43, 44, 15, 72, 73, 16, 100, 101, 17, 113, 114, 18, 126, 127, 20, 163, 164, 21, 188, 189, 22, 216, 217, 23, 279, 38, 14].filterMap (fun i => lw_tbl[i]?) := by rfl
set_option maxRecDepth 100000 in
theorem m_kl_ok : (m_kl.all fun p => p.all fun e => decide (e.2 < m_cls.length)) = true := by decide +kernel
set_option maxRecDepth 100000 in
theorem m_cl_ok : (m_cl.zipIdx.flatMap fun p => p.1.map fun e => Cond.constant (m_ownS p.2) e.1 e.2) = [820, 821, 825, 491, 492, 493].filterMap (fun i => lw_tbl[i]?) := by rfl
/-- the words of the objects' fields -/
def m_lw : List Cond := m_cls.flatMap fun q => u_ws q.1 q.2.1 q.2.2
set_option maxRecDepth 100000 in
theorem m_lw_ok : m_lw = [326, 328, 330, 332, 334, 336, 252, 254, 256, 258, 260, 262, 264, 266, 268, 270, 56, 58, 60, 62, 64, 66, 68, 85, 87, 89, 91, 93, 95, 97, 108, 110, 123, 142, 144, 146, 148, 150, 152, 154, 156, 158, 160, 175, 177, 179, 181, 183, 185, 201, 203, 205, 207, 209, 211, 213, 225, 227, 229, 286, 288, 290, 292, 294, 308, 310, 312, 314, 316].filterMap (fun i => lw_tbl[i]?) := by rfl
def m_cok (ci : Nat) : Bool :=
  (List.range (m_clsQ ci).2.2).all (fun a => decide (parseFieldDescriptor ((m_clsQ ci).2.1 a).2.2.1 = some (((m_tys[ci]?.getD [])[a]?).getD .int)) && (List.range (m_clsQ ci).2.2).all (fun b => decide (a = b) || decide (((m_clsQ ci).2.1 a).2.1 ≠ ((m_clsQ ci).2.1 b).2.1)))
set_option maxRecDepth 100000 in
theorem m_cls_ok : ((List.range 12).all m_cok) = true := by decide +kernel

