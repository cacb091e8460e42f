theorem L_FR_12 : (Jvm.Cond.fieldLink "FieldRelay" (12 : Nat) "FieldRelay" "kinds" "LFieldRelay$KindTable;") ∈ vTB := vTB_in 300 (by decide +kernel) rfl
theorem L_FR_19 : (Jvm.Cond.fieldLink "FieldRelay" (19 : Nat) "FieldRelay" "wire" "LFieldRelay$Wire;") ∈ vTB := vTB_in 301 (by decide +kernel) rfl
theorem L_FR_26 : (Jvm.Cond.fieldLink "FieldRelay" (26 : Nat) "FieldRelay" "log" "LFieldRelay$AlarmLog;") ∈ vTB := vTB_in 302 (by decide +kernel) rfl
theorem L_FR_32 : (Jvm.Cond.fieldLink "FieldRelay" (32 : Nat) "FieldRelay" "relations" "[LFieldRelay$Relation;") ∈ vTB := vTB_in 303 (by decide +kernel) rfl
theorem L_FR_38 : (Jvm.Cond.fieldLink "FieldRelay" (38 : Nat) "FieldRelay" "devices" "[LFieldRelay$Device;") ∈ vTB := vTB_in 304 (by decide +kernel) rfl
theorem L_FR_48 : (Jvm.Cond.methodLink "FieldRelay" (48 : Nat) ({ cls := "FieldRelay", name := "isKind", desc := "(I)Z" } : Jvm.MethodName)) ∈ vTB := vTB_in 332 (by decide +kernel) rfl
theorem L_FR_52 : (Jvm.Cond.methodLink "FieldRelay" (52 : Nat) ({ cls := "FieldRelay", name := "within", desc := "(III)Z" } : Jvm.MethodName)) ∈ vTB := vTB_in 335 (by decide +kernel) rfl
theorem L_FR_56 : (Jvm.Cond.methodLink "FieldRelay" (56 : Nat) ({ cls := "FieldRelay", name := "allAtRest", desc := "()Z" } : Jvm.MethodName)) ∈ vTB := vTB_in 338 (by decide +kernel) rfl
theorem L_FR_60 : (Jvm.Cond.methodLink "FieldRelay" (60 : Nat) ({ cls := "FieldRelay$KindTable", name := "define", desc := "(IIIZ)V" } : Jvm.MethodName)) ∈ vTB := vTB_in 350 (by decide +kernel) rfl
theorem L_FR_64 : (Jvm.Cond.methodLink "FieldRelay" (64 : Nat) ({ cls := "FieldRelay", name := "isDevice", desc := "(I)Z" } : Jvm.MethodName)) ∈ vTB := vTB_in 358 (by decide +kernel) rfl
theorem L_FR_67 : (Jvm.Cond.fieldLink "FieldRelay" (67 : Nat) "FieldRelay$Device" "label" "I") ∈ vTB := vTB_in 243 (by decide +kernel) rfl
theorem L_FR_71 : (Jvm.Cond.methodLink "FieldRelay" (71 : Nat) ({ cls := "FieldRelay", name := "isSlot", desc := "(I)Z" } : Jvm.MethodName)) ∈ vTB := vTB_in 365 (by decide +kernel) rfl
theorem L_FR_74 : (Jvm.Cond.methodLink "FieldRelay" (74 : Nat) ({ cls := "FieldRelay", name := "isKindOrNone", desc := "(I)Z" } : Jvm.MethodName)) ∈ vTB := vTB_in 368 (by decide +kernel) rfl
theorem L_FR_77 : (Jvm.Cond.methodLink "FieldRelay" (77 : Nat) ({ cls := "FieldRelay$Device", name := "changeModule", desc := "(II)V" } : Jvm.MethodName)) ∈ vTB := vTB_in 371 (by decide +kernel) rfl
theorem L_FR_81 : (Jvm.Cond.methodLink "FieldRelay" (81 : Nat) ({ cls := "FieldRelay", name := "isOctet", desc := "(I)Z" } : Jvm.MethodName)) ∈ vTB := vTB_in 397 (by decide +kernel) rfl
theorem L_FR_84 : (Jvm.Cond.methodLink "FieldRelay" (84 : Nat) ({ cls := "FieldRelay$Device", name := "setFallback", desc := "(II)V" } : Jvm.MethodName)) ∈ vTB := vTB_in 400 (by decide +kernel) rfl
theorem L_FR_87 : (Jvm.Cond.methodLink "FieldRelay" (87 : Nat) ({ cls := "FieldRelay", name := "isPlace", desc := "(II)Z" } : Jvm.MethodName)) ∈ vTB := vTB_in 408 (by decide +kernel) rfl
theorem L_FR_91 : (Jvm.Cond.fieldLink "FieldRelay" (91 : Nat) "FieldRelay$Device" "sensed" "[I") ∈ vTB := vTB_in 249 (by decide +kernel) rfl
theorem L_FR_95 : (Jvm.Cond.methodLink "FieldRelay" (95 : Nat) ({ cls := "FieldRelay", name := "place", desc := "(II)I" } : Jvm.MethodName)) ∈ vTB := vTB_in 411 (by decide +kernel) rfl
theorem L_FR_99 : (Jvm.Cond.methodLink "FieldRelay" (99 : Nat) ({ cls := "FieldRelay$Relation", name := "isClosed", desc := "()Z" } : Jvm.MethodName)) ∈ vTB := vTB_in 342 (by decide +kernel) rfl
theorem L_FR_102 : (Jvm.Cond.fieldLink "FieldRelay" (102 : Nat) "FieldRelay$Relation" "wanted" "I") ∈ vTB := vTB_in 143 (by decide +kernel) rfl
theorem L_FR_105 : (Jvm.Cond.methodLink "FieldRelay" (105 : Nat) ({ cls := "FieldRelay$Relation", name := "setExpected", desc := "(III)V" } : Jvm.MethodName)) ∈ vTB := vTB_in 420 (by decide +kernel) rfl
theorem L_FR_109 : (Jvm.Cond.fieldLink "FieldRelay" (109 : Nat) "FieldRelay$Relation" "given" "[I") ∈ vTB := vTB_in 148 (by decide +kernel) rfl
theorem L_FR_112 : (Jvm.Cond.fieldLink "FieldRelay" (112 : Nat) "FieldRelay" "session" "I") ∈ vTB := vTB_in 305 (by decide +kernel) rfl
theorem L_FR_115 : (Jvm.Cond.constant "FieldRelay" (115 : Nat) (65535 : Int32)) ∈ vTB := vTB_in 432 (by decide +kernel) rfl
theorem L_FR_116 : (Jvm.Cond.fieldLink "FieldRelay" (116 : Nat) "FieldRelay" "sessionsBegun" "I") ∈ vTB := vTB_in 308 (by decide +kernel) rfl
theorem L_FR_119 : (Jvm.Cond.methodLink "FieldRelay" (119 : Nat) ({ cls := "FieldRelay$Relation", name := "begin", desc := "(I)V" } : Jvm.MethodName)) ∈ vTB := vTB_in 433 (by decide +kernel) rfl
theorem L_FR_123 : (Jvm.Cond.methodLink "FieldRelay" (123 : Nat) ({ cls := "FieldRelay$Relation", name := "end", desc := "()I" } : Jvm.MethodName)) ∈ vTB := vTB_in 466 (by decide +kernel) rfl
theorem L_FR_127 : (Jvm.Cond.methodLink "FieldRelay" (127 : Nat) ({ cls := "FieldRelay$Wire", name := "has", desc := "(I)Z" } : Jvm.MethodName)) ∈ vTB := vTB_in 482 (by decide +kernel) rfl
theorem L_FR_130 : (Jvm.Cond.methodLink "FieldRelay" (130 : Nat) ({ cls := "FieldRelay$Wire", name := "take", desc := "(I)LFieldRelay$Frame;" } : Jvm.MethodName)) ∈ vTB := vTB_in 487 (by decide +kernel) rfl
theorem L_FR_134 : (Jvm.Cond.fieldLink "FieldRelay" (134 : Nat) "FieldRelay" "delivered" "I") ∈ vTB := vTB_in 307 (by decide +kernel) rfl
theorem L_FR_137 : (Jvm.Cond.fieldLink "FieldRelay" (137 : Nat) "FieldRelay$Frame" "goal" "I") ∈ vTB := vTB_in 66 (by decide +kernel) rfl
theorem L_FR_142 : (Jvm.Cond.methodLink "FieldRelay" (142 : Nat) ({ cls := "FieldRelay$Relation", name := "receive", desc := "(LFieldRelay$Frame;)V" } : Jvm.MethodName)) ∈ vTB := vTB_in 491 (by decide +kernel) rfl
theorem L_FR_146 : (Jvm.Cond.methodLink "FieldRelay" (146 : Nat) ({ cls := "FieldRelay$Device", name := "receive", desc := "(LFieldRelay$Frame;)V" } : Jvm.MethodName)) ∈ vTB := vTB_in 556 (by decide +kernel) rfl
theorem L_FR_147 : (Jvm.Cond.fieldLink "FieldRelay" (147 : Nat) "FieldRelay$Wire" "size" "I") ∈ vTB := vTB_in 85 (by decide +kernel) rfl
theorem L_FR_150 : (Jvm.Cond.methodLink "FieldRelay" (150 : Nat) ({ cls := "FieldRelay$Wire", name := "isFull", desc := "()Z" } : Jvm.MethodName)) ∈ vTB := vTB_in 630 (by decide +kernel) rfl
theorem L_FR_153 : (Jvm.Cond.methodLink "FieldRelay" (153 : Nat) ({ cls := "FieldRelay$Wire", name := "copyToEnd", desc := "(I)V" } : Jvm.MethodName)) ∈ vTB := vTB_in 631 (by decide +kernel) rfl
theorem L_FR_156 : (Jvm.Cond.fieldLink "FieldRelay" (156 : Nat) "FieldRelay" "ticks" "I") ∈ vTB := vTB_in 306 (by decide +kernel) rfl
theorem L_FR_159 : (Jvm.Cond.methodLink "FieldRelay" (159 : Nat) ({ cls := "FieldRelay$Relation", name := "passTick", desc := "()V" } : Jvm.MethodName)) ∈ vTB := vTB_in 645 (by decide +kernel) rfl
theorem L_FR_162 : (Jvm.Cond.methodLink "FieldRelay" (162 : Nat) ({ cls := "FieldRelay$Device", name := "passTick", desc := "()V" } : Jvm.MethodName)) ∈ vTB := vTB_in 667 (by decide +kernel) rfl
theorem L_FR_163 : (Jvm.Cond.fieldLink "FieldRelay" (163 : Nat) "FieldRelay$Wire" "frames" "[LFieldRelay$Frame;") ∈ vTB := vTB_in 82 (by decide +kernel) rfl
theorem L_FR_167 : (Jvm.Cond.methodLink "FieldRelay" (167 : Nat) ({ cls := "FieldRelay$Frame", name := "tell", desc := "(I)I" } : Jvm.MethodName)) ∈ vTB := vTB_in 712 (by decide +kernel) rfl
theorem L_FR_171 : (Jvm.Cond.methodLink "FieldRelay" (171 : Nat) ({ cls := "FieldRelay$Relation", name := "tell", desc := "(I)I" } : Jvm.MethodName)) ∈ vTB := vTB_in 721 (by decide +kernel) rfl
theorem L_FR_172 : (Jvm.Cond.methodLink "FieldRelay" (172 : Nat) ({ cls := "FieldRelay$Device", name := "tell", desc := "(I)I" } : Jvm.MethodName)) ∈ vTB := vTB_in 729 (by decide +kernel) rfl
theorem L_FR_173 : (Jvm.Cond.fieldLink "FieldRelay" (173 : Nat) "FieldRelay$Device" "shown" "[I") ∈ vTB := vTB_in 251 (by decide +kernel) rfl
theorem L_FR_176 : (Jvm.Cond.fieldLink "FieldRelay" (176 : Nat) "FieldRelay$Relation" "got" "[I") ∈ vTB := vTB_in 150 (by decide +kernel) rfl
theorem L_FR_179 : (Jvm.Cond.methodLink "FieldRelay" (179 : Nat) ({ cls := "FieldRelay$AlarmLog", name := "latest", desc := "(I)I" } : Jvm.MethodName)) ∈ vTB := vTB_in 741 (by decide +kernel) rfl
theorem L_FR_182 : (Jvm.Cond.fieldLink "FieldRelay" (182 : Nat) "FieldRelay$Wire" "sent" "I") ∈ vTB := vTB_in 87 (by decide +kernel) rfl
theorem L_FR_185 : (Jvm.Cond.fieldLink "FieldRelay" (185 : Nat) "FieldRelay$Wire" "lostForRoom" "I") ∈ vTB := vTB_in 89 (by decide +kernel) rfl
theorem L_FR_188 : (Jvm.Cond.fieldLink "FieldRelay" (188 : Nat) "FieldRelay$AlarmLog" "told" "I") ∈ vTB := vTB_in 109 (by decide +kernel) rfl
theorem L_FR_191 : (Jvm.Cond.methodLink "FieldRelay" (191 : Nat) ({ cls := "FieldRelay", name := "watchEnds", desc := "()I" } : Jvm.MethodName)) ∈ vTB := vTB_in 753 (by decide +kernel) rfl
theorem L_FR_194 : (Jvm.Cond.methodLink "FieldRelay" (194 : Nat) ({ cls := "FieldRelay$Device", name := "isIdle", desc := "()Z" } : Jvm.MethodName)) ∈ vTB := vTB_in 346 (by decide +kernel) rfl
theorem L_FR_197 : (Jvm.Cond.fieldLink "FieldRelay" (197 : Nat) "FieldRelay$Relation" "watchEnds" "I") ∈ vTB := vTB_in 161 (by decide +kernel) rfl
theorem L_FR_199 : (Jvm.Cond.fieldLink "FieldRelay" (199 : Nat) "FieldRelay$Device" "watchEnds" "I") ∈ vTB := vTB_in 260 (by decide +kernel) rfl
theorem L_AL_11 : (Jvm.Cond.fieldLink "FieldRelay$AlarmLog" (11 : Nat) "FieldRelay$AlarmLog" "entries" "[I") ∈ vTB := vTB_in 107 (by decide +kernel) rfl
theorem L_AL_15 : (Jvm.Cond.fieldLink "FieldRelay$AlarmLog" (15 : Nat) "FieldRelay$AlarmLog" "told" "I") ∈ vTB := vTB_in 108 (by decide +kernel) rfl
theorem L_AL_19 : (Jvm.Cond.methodLink "FieldRelay$AlarmLog" (19 : Nat) ({ cls := "java/lang/Math", name := "min", desc := "(II)I" } : Jvm.MethodName)) ∈ vTB := vTB_in 745 (by decide +kernel) rfl
theorem L_AL_25 : (Jvm.Cond.methodLinkNest "FieldRelay$AlarmLog" (25 : Nat) ({ cls := "FieldRelay", name := "within", desc := "(III)Z" } : Jvm.MethodName) "FieldRelay") ∈ vNL := List.mem_of_getElem? (i := 16) rfl
theorem L_AQ_9 : (Jvm.Cond.fieldLink "FieldRelay$AlarmQueue" (9 : Nat) "FieldRelay$AlarmQueue" "slots" "[I") ∈ vTB := vTB_in 216 (by decide +kernel) rfl
theorem L_AQ_13 : (Jvm.Cond.fieldLink "FieldRelay$AlarmQueue" (13 : Nat) "FieldRelay$AlarmQueue" "kindsPlusOne" "[I") ∈ vTB := vTB_in 217 (by decide +kernel) rfl
theorem L_AQ_16 : (Jvm.Cond.fieldLink "FieldRelay$AlarmQueue" (16 : Nat) "FieldRelay$AlarmQueue" "size" "I") ∈ vTB := vTB_in 218 (by decide +kernel) rfl
theorem L_AQ_20 : (Jvm.Cond.fieldLink "FieldRelay$AlarmQueue" (20 : Nat) "FieldRelay$AlarmQueue" "onItsWay" "I") ∈ vTB := vTB_in 220 (by decide +kernel) rfl
theorem L_AQ_23 : (Jvm.Cond.fieldLink "FieldRelay$AlarmQueue" (23 : Nat) "FieldRelay$AlarmQueue" "latestNumber" "I") ∈ vTB := vTB_in 222 (by decide +kernel) rfl
theorem L_AQ_26 : (Jvm.Cond.fieldLink "FieldRelay$AlarmQueue" (26 : Nat) "FieldRelay$AlarmQueue" "sinceSent" "I") ∈ vTB := vTB_in 223 (by decide +kernel) rfl
theorem L_Cy_11 : (Jvm.Cond.fieldLink "FieldRelay$Cycle" (11 : Nat) "FieldRelay$Cycle" "taken" "I") ∈ vTB := vTB_in 131 (by decide +kernel) rfl
theorem L_Cy_15 : (Jvm.Cond.fieldLink "FieldRelay$Cycle" (15 : Nat) "FieldRelay$Cycle" "next" "I") ∈ vTB := vTB_in 130 (by decide +kernel) rfl
theorem L_Cy_18 : (Jvm.Cond.methodLinkNest "FieldRelay$Cycle" (18 : Nat) ({ cls := "FieldRelay", name := "within", desc := "(III)Z" } : Jvm.MethodName) "FieldRelay") ∈ vNL := List.mem_of_getElem? (i := 9) rfl
theorem L_De_12 : (Jvm.Cond.fieldLink "FieldRelay$Device" (12 : Nat) "FieldRelay$Device" "cycle" "LFieldRelay$Cycle;") ∈ vTB := vTB_in 241 (by decide +kernel) rfl
theorem L_De_21 : (Jvm.Cond.fieldLink "FieldRelay$Device" (21 : Nat) "FieldRelay$Device" "queue" "LFieldRelay$AlarmQueue;") ∈ vTB := vTB_in 242 (by decide +kernel) rfl
theorem L_De_25 : (Jvm.Cond.fieldLink "FieldRelay$Device" (25 : Nat) "FieldRelay$Device" "fallback" "I") ∈ vTB := vTB_in 245 (by decide +kernel) rfl
theorem L_De_29 : (Jvm.Cond.fieldLink "FieldRelay$Device" (29 : Nat) "FieldRelay$Device" "modules" "[I") ∈ vTB := vTB_in 247 (by decide +kernel) rfl
theorem L_De_33 : (Jvm.Cond.fieldLink "FieldRelay$Device" (33 : Nat) "FieldRelay$Device" "sensed" "[I") ∈ vTB := vTB_in 248 (by decide +kernel) rfl
theorem L_De_36 : (Jvm.Cond.fieldLink "FieldRelay$Device" (36 : Nat) "FieldRelay$Device" "shown" "[I") ∈ vTB := vTB_in 250 (by decide +kernel) rfl
theorem L_De_39 : (Jvm.Cond.fieldLink "FieldRelay$Device" (39 : Nat) "FieldRelay$Device" "expected" "[I") ∈ vTB := vTB_in 254 (by decide +kernel) rfl
theorem L_De_42 : (Jvm.Cond.fieldLink "FieldRelay$Device" (42 : Nat) "FieldRelay$Device" "written" "[I") ∈ vTB := vTB_in 255 (by decide +kernel) rfl
theorem L_De_45 : (Jvm.Cond.fieldLink "FieldRelay$Device" (45 : Nat) "FieldRelay$Device" "index" "I") ∈ vTB := vTB_in 238 (by decide +kernel) rfl
theorem L_De_48 : (Jvm.Cond.fieldLink "FieldRelay$Device" (48 : Nat) "FieldRelay$Device" "kinds" "LFieldRelay$KindTable;") ∈ vTB := vTB_in 239 (by decide +kernel) rfl
theorem L_De_52 : (Jvm.Cond.fieldLink "FieldRelay$Device" (52 : Nat) "FieldRelay$Device" "wire" "LFieldRelay$Wire;") ∈ vTB := vTB_in 240 (by decide +kernel) rfl
theorem L_De_56 : (Jvm.Cond.methodLink "FieldRelay$Device" (56 : Nat) ({ cls := "java/util/Arrays", name := "fill", desc := "([II)V" } : Jvm.MethodName)) ∈ vTB := vTB_in 237 (by decide +kernel) rfl
theorem L_De_62 : (Jvm.Cond.fieldLink "FieldRelay$Device" (62 : Nat) "FieldRelay$Device" "state" "I") ∈ vTB := vTB_in 252 (by decide +kernel) rfl
theorem L_De_65 : (Jvm.Cond.fieldLink "FieldRelay$Device" (65 : Nat) "FieldRelay$Device" "fallbackOctet" "I") ∈ vTB := vTB_in 246 (by decide +kernel) rfl
theorem L_De_68 : (Jvm.Cond.methodLink "FieldRelay$Device" (68 : Nat) ({ cls := "FieldRelay$Device", name := "showFallback", desc := "(I)V" } : Jvm.MethodName)) ∈ vTB := vTB_in 375 (by decide +kernel) rfl
theorem L_De_72 : (Jvm.Cond.fieldLink "FieldRelay$Device" (72 : Nat) "FieldRelay$Device" "differing" "I") ∈ vTB := vTB_in 256 (by decide +kernel) rfl
theorem L_De_75 : (Jvm.Cond.methodLinkNest "FieldRelay$Device" (75 : Nat) ({ cls := "FieldRelay", name := "withSlot", desc := "(IIZ)I" } : Jvm.MethodName) "FieldRelay") ∈ vNL := List.mem_of_getElem? (i := 6) rfl
theorem L_De_79 : (Jvm.Cond.methodLink "FieldRelay$Device" (79 : Nat) ({ cls := "FieldRelay$AlarmQueue", name := "add", desc := "(II)V" } : Jvm.MethodName)) ∈ vTB := vTB_in 389 (by decide +kernel) rfl
theorem L_De_83 : (Jvm.Cond.fieldLink "FieldRelay$Device" (83 : Nat) "FieldRelay$Frame" "type" "I") ∈ vTB := vTB_in 57 (by decide +kernel) rfl
theorem L_De_88 : (Jvm.Cond.fieldLink "FieldRelay$Device" (88 : Nat) "FieldRelay$Frame" "number" "I") ∈ vTB := vTB_in 63 (by decide +kernel) rfl
theorem L_De_91 : (Jvm.Cond.methodLink "FieldRelay$Device" (91 : Nat) ({ cls := "FieldRelay$Device", name := "answerSeek", desc := "(I)V" } : Jvm.MethodName)) ∈ vTB := vTB_in 560 (by decide +kernel) rfl
theorem L_De_94 : (Jvm.Cond.methodLink "FieldRelay$Device" (94 : Nat) ({ cls := "FieldRelay$Device", name := "answerConnect", desc := "(LFieldRelay$Frame;)V" } : Jvm.MethodName)) ∈ vTB := vTB_in 565 (by decide +kernel) rfl
theorem L_De_98 : (Jvm.Cond.fieldLink "FieldRelay$Device" (98 : Nat) "FieldRelay$Frame" "session" "I") ∈ vTB := vTB_in 60 (by decide +kernel) rfl
theorem L_De_101 : (Jvm.Cond.fieldLink "FieldRelay$Device" (101 : Nat) "FieldRelay$Device" "session" "I") ∈ vTB := vTB_in 253 (by decide +kernel) rfl
theorem L_De_102 : (Jvm.Cond.methodLink "FieldRelay$Device" (102 : Nat) ({ cls := "FieldRelay$Device", name := "keepParameter", desc := "(LFieldRelay$Frame;)V" } : Jvm.MethodName)) ∈ vTB := vTB_in 573 (by decide +kernel) rfl
theorem L_De_105 : (Jvm.Cond.methodLink "FieldRelay$Device" (105 : Nat) ({ cls := "FieldRelay$Device", name := "answerEnd", desc := "()V" } : Jvm.MethodName)) ∈ vTB := vTB_in 578 (by decide +kernel) rfl
theorem L_De_108 : (Jvm.Cond.methodLink "FieldRelay$Device" (108 : Nat) ({ cls := "FieldRelay$Device", name := "beginData", desc := "()V" } : Jvm.MethodName)) ∈ vTB := vTB_in 604 (by decide +kernel) rfl
theorem L_De_111 : (Jvm.Cond.methodLink "FieldRelay$Device" (111 : Nat) ({ cls := "FieldRelay$Device", name := "takeOutput", desc := "(LFieldRelay$Frame;)V" } : Jvm.MethodName)) ∈ vTB := vTB_in 609 (by decide +kernel) rfl
theorem L_De_114 : (Jvm.Cond.methodLink "FieldRelay$Device" (114 : Nat) ({ cls := "FieldRelay$AlarmQueue", name := "taken", desc := "(I)V" } : Jvm.MethodName)) ∈ vTB := vTB_in 618 (by decide +kernel) rfl
theorem L_De_117 : (Jvm.Cond.methodLink "FieldRelay$Device" (117 : Nat) ({ cls := "FieldRelay$Device", name := "becomeIdle", desc := "()V" } : Jvm.MethodName)) ∈ vTB := vTB_in 596 (by decide +kernel) rfl
theorem L_De_120 : (Jvm.Cond.fieldLink "FieldRelay$Device" (120 : Nat) "FieldRelay$Device" "ticks" "I") ∈ vTB := vTB_in 257 (by decide +kernel) rfl
theorem L_De_123 : (Jvm.Cond.methodLink "FieldRelay$Device" (123 : Nat) ({ cls := "FieldRelay$Device", name := "passTickInData", desc := "()V" } : Jvm.MethodName)) ∈ vTB := vTB_in 671 (by decide +kernel) rfl
theorem L_De_126 : (Jvm.Cond.methodLink "FieldRelay$Device" (126 : Nat) ({ cls := "FieldRelay$Device", name := "readyAgain", desc := "()V" } : Jvm.MethodName)) ∈ vTB := vTB_in 704 (by decide +kernel) rfl
theorem L_De_129 : (Jvm.Cond.fieldLink "FieldRelay$Device" (129 : Nat) "FieldRelay$AlarmQueue" "size" "I") ∈ vTB := vTB_in 219 (by decide +kernel) rfl
theorem L_De_132 : (Jvm.Cond.fieldLink "FieldRelay$Device" (132 : Nat) "FieldRelay$AlarmQueue" "onItsWay" "I") ∈ vTB := vTB_in 221 (by decide +kernel) rfl
theorem L_De_135 : (Jvm.Cond.fieldLink "FieldRelay$Device" (135 : Nat) "FieldRelay$Device" "label" "I") ∈ vTB := vTB_in 244 (by decide +kernel) rfl
theorem L_De_138 : (Jvm.Cond.methodLink "FieldRelay$Device" (138 : Nat) ({ cls := "FieldRelay$Wire", name := "send", desc := "(IIII)LFieldRelay$Frame;" } : Jvm.MethodName)) ∈ vTB := vTB_in 564 (by decide +kernel) rfl
theorem L_De_144 : (Jvm.Cond.fieldLink "FieldRelay$Device" (144 : Nat) "FieldRelay$Frame" "row" "[I") ∈ vTB := vTB_in 68 (by decide +kernel) rfl
theorem L_De_147 : (Jvm.Cond.methodLink "FieldRelay$Device" (147 : Nat) ({ cls := "FieldRelay$Device", name := "connect", desc := "(LFieldRelay$Frame;)V" } : Jvm.MethodName)) ∈ vTB := vTB_in 569 (by decide +kernel) rfl
theorem L_De_150 : (Jvm.Cond.methodLinkNest "FieldRelay$Device" (150 : Nat) ({ cls := "FieldRelay", name := "isSlot", desc := "(I)Z" } : Jvm.MethodName) "FieldRelay") ∈ vNL := List.mem_of_getElem? (i := 12) rfl
theorem L_De_154 : (Jvm.Cond.methodLink "FieldRelay$Device" (154 : Nat) ({ cls := "FieldRelay$Device", name := "lacksParameter", desc := "()Z" } : Jvm.MethodName)) ∈ vTB := vTB_in 582 (by decide +kernel) rfl
theorem L_De_158 : (Jvm.Cond.methodLink "FieldRelay$Device" (158 : Nat) ({ cls := "FieldRelay$Device", name := "abort", desc := "()V" } : Jvm.MethodName)) ∈ vTB := vTB_in 592 (by decide +kernel) rfl
theorem L_De_161 : (Jvm.Cond.fieldLink "FieldRelay$Device" (161 : Nat) "FieldRelay$Device" "timesAgain" "I") ∈ vTB := vTB_in 258 (by decide +kernel) rfl
theorem L_De_164 : (Jvm.Cond.methodLink "FieldRelay$Device" (164 : Nat) ({ cls := "FieldRelay$Device", name := "isGood", desc := "(I)Z" } : Jvm.MethodName)) ∈ vTB := vTB_in 586 (by decide +kernel) rfl
theorem L_De_167 : (Jvm.Cond.methodLink "FieldRelay$Device" (167 : Nat) ({ cls := "FieldRelay$KindTable", name := "needsParameter", desc := "(I)Z" } : Jvm.MethodName)) ∈ vTB := vTB_in 591 (by decide +kernel) rfl
theorem L_De_172 : (Jvm.Cond.methodLink "FieldRelay$Device" (172 : Nat) ({ cls := "FieldRelay$Cycle", name := "restart", desc := "()V" } : Jvm.MethodName)) ∈ vTB := vTB_in 608 (by decide +kernel) rfl
theorem L_De_175 : (Jvm.Cond.methodLink "FieldRelay$Device" (175 : Nat) ({ cls := "FieldRelay$Cycle", name := "takes", desc := "(I)Z" } : Jvm.MethodName)) ∈ vTB := vTB_in 613 (by decide +kernel) rfl
theorem L_De_178 : (Jvm.Cond.methodLink "FieldRelay$Device" (178 : Nat) ({ cls := "FieldRelay$Device", name := "showRow", desc := "(LFieldRelay$Frame;I)V" } : Jvm.MethodName)) ∈ vTB := vTB_in 614 (by decide +kernel) rfl
theorem L_De_182 : (Jvm.Cond.methodLink "FieldRelay$Device" (182 : Nat) ({ cls := "FieldRelay$KindTable", name := "outsOf", desc := "(I)I" } : Jvm.MethodName)) ∈ vTB := vTB_in 379 (by decide +kernel) rfl
theorem L_De_186 : (Jvm.Cond.methodLinkNest "FieldRelay$Device" (186 : Nat) ({ cls := "FieldRelay", name := "place", desc := "(II)I" } : Jvm.MethodName) "FieldRelay") ∈ vNL := List.mem_of_getElem? (i := 5) rfl
theorem L_De_190 : (Jvm.Cond.methodLinkNest "FieldRelay$Device" (190 : Nat) ({ cls := "FieldRelay", name := "hasSlot", desc := "(II)Z" } : Jvm.MethodName) "FieldRelay") ∈ vNL := List.mem_of_getElem? (i := 13) rfl
theorem L_De_194 : (Jvm.Cond.fieldLink "FieldRelay$Device" (194 : Nat) "FieldRelay$Device" "watchEnds" "I") ∈ vTB := vTB_in 259 (by decide +kernel) rfl
theorem L_De_197 : (Jvm.Cond.methodLink "FieldRelay$Device" (197 : Nat) ({ cls := "FieldRelay$AlarmQueue", name := "isDueThisTick", desc := "()Z" } : Jvm.MethodName)) ∈ vTB := vTB_in 675 (by decide +kernel) rfl
theorem L_De_200 : (Jvm.Cond.methodLink "FieldRelay$Device" (200 : Nat) ({ cls := "FieldRelay$Device", name := "sendAlarm", desc := "()V" } : Jvm.MethodName)) ∈ vTB := vTB_in 679 (by decide +kernel) rfl
theorem L_De_203 : (Jvm.Cond.methodLink "FieldRelay$Device" (203 : Nat) ({ cls := "FieldRelay$Device", name := "sendInput", desc := "()V" } : Jvm.MethodName)) ∈ vTB := vTB_in 691 (by decide +kernel) rfl
theorem L_De_206 : (Jvm.Cond.methodLink "FieldRelay$Device" (206 : Nat) ({ cls := "FieldRelay$AlarmQueue", name := "firstSlot", desc := "()I" } : Jvm.MethodName)) ∈ vTB := vTB_in 683 (by decide +kernel) rfl
theorem L_De_210 : (Jvm.Cond.methodLink "FieldRelay$Device" (210 : Nat) ({ cls := "FieldRelay$AlarmQueue", name := "firstKindPlusOne", desc := "()I" } : Jvm.MethodName)) ∈ vTB := vTB_in 687 (by decide +kernel) rfl
theorem L_De_213 : (Jvm.Cond.methodLink "FieldRelay$Device" (213 : Nat) ({ cls := "FieldRelay$Cycle", name := "nextToSend", desc := "()I" } : Jvm.MethodName)) ∈ vTB := vTB_in 695 (by decide +kernel) rfl
theorem L_De_216 : (Jvm.Cond.methodLink "FieldRelay$Device" (216 : Nat) ({ cls := "FieldRelay$Device", name := "copySensed", desc := "(LFieldRelay$Frame;I)V" } : Jvm.MethodName)) ∈ vTB := vTB_in 696 (by decide +kernel) rfl
theorem L_De_219 : (Jvm.Cond.methodLink "FieldRelay$Device" (219 : Nat) ({ cls := "FieldRelay$KindTable", name := "insOf", desc := "(I)I" } : Jvm.MethodName)) ∈ vTB := vTB_in 700 (by decide +kernel) rfl
theorem L_De_222 : (Jvm.Cond.methodLink "FieldRelay$Device" (222 : Nat) ({ cls := "FieldRelay$AlarmQueue", name := "clear", desc := "()V" } : Jvm.MethodName)) ∈ vTB := vTB_in 600 (by decide +kernel) rfl
theorem L_Fm_11 : (Jvm.Cond.fieldLink "FieldRelay$Frame" (11 : Nat) "FieldRelay$Frame" "row" "[I") ∈ vTB := vTB_in 67 (by decide +kernel) rfl
theorem L_Fm_15 : (Jvm.Cond.fieldLink "FieldRelay$Frame" (15 : Nat) "FieldRelay$Frame" "type" "I") ∈ vTB := vTB_in 56 (by decide +kernel) rfl
theorem L_Fm_19 : (Jvm.Cond.fieldLink "FieldRelay$Frame" (19 : Nat) "FieldRelay$Frame" "session" "I") ∈ vTB := vTB_in 59 (by decide +kernel) rfl
theorem L_Fm_22 : (Jvm.Cond.fieldLink "FieldRelay$Frame" (22 : Nat) "FieldRelay$Frame" "number" "I") ∈ vTB := vTB_in 62 (by decide +kernel) rfl
theorem L_Fm_25 : (Jvm.Cond.fieldLink "FieldRelay$Frame" (25 : Nat) "FieldRelay$Frame" "goal" "I") ∈ vTB := vTB_in 65 (by decide +kernel) rfl
theorem L_Fm_28 : (Jvm.Cond.methodLink "FieldRelay$Frame" (28 : Nat) ({ cls := "java/util/Arrays", name := "fill", desc := "([II)V" } : Jvm.MethodName)) ∈ vTB := vTB_in 457 (by decide +kernel) rfl
theorem L_Fm_34 : (Jvm.Cond.methodLink "FieldRelay$Frame" (34 : Nat) ({ cls := "FieldRelay$Frame", name := "set", desc := "(IIII)V" } : Jvm.MethodName)) ∈ vTB := vTB_in 639 (by decide +kernel) rfl
theorem L_Fm_38 : (Jvm.Cond.methodLink "FieldRelay$Frame" (38 : Nat) ({ cls := "java/lang/System", name := "arraycopy", desc := "(Ljava/lang/Object;ILjava/lang/Object;II)V" } : Jvm.MethodName)) ∈ vTB := vTB_in 640 (by decide +kernel) rfl
theorem L_Fm_44 : (Jvm.Cond.methodLinkNest "FieldRelay$Frame" (44 : Nat) ({ cls := "FieldRelay", name := "within", desc := "(III)Z" } : Jvm.MethodName) "FieldRelay") ∈ vNL := List.mem_of_getElem? (i := 15) rfl
theorem L_KT_9 : (Jvm.Cond.fieldLink "FieldRelay$KindTable" (9 : Nat) "FieldRelay$KindTable" "ins" "[I") ∈ vTB := vTB_in 31 (by decide +kernel) rfl
theorem L_KT_15 : (Jvm.Cond.fieldLink "FieldRelay$KindTable" (15 : Nat) "FieldRelay$KindTable" "outs" "[I") ∈ vTB := vTB_in 32 (by decide +kernel) rfl
theorem L_KT_18 : (Jvm.Cond.fieldLink "FieldRelay$KindTable" (18 : Nat) "FieldRelay$KindTable" "parameter" "[Z") ∈ vTB := vTB_in 33 (by decide +kernel) rfl
theorem L_Re_12 : (Jvm.Cond.fieldLink "FieldRelay$Relation" (12 : Nat) "FieldRelay$Relation" "cycle" "LFieldRelay$Cycle;") ∈ vTB := vTB_in 142 (by decide +kernel) rfl
theorem L_Re_18 : (Jvm.Cond.fieldLink "FieldRelay$Relation" (18 : Nat) "FieldRelay$Relation" "expected" "[I") ∈ vTB := vTB_in 145 (by decide +kernel) rfl
theorem L_Re_22 : (Jvm.Cond.fieldLink "FieldRelay$Relation" (22 : Nat) "FieldRelay$Relation" "parameters" "[I") ∈ vTB := vTB_in 146 (by decide +kernel) rfl
theorem L_Re_25 : (Jvm.Cond.fieldLink "FieldRelay$Relation" (25 : Nat) "FieldRelay$Relation" "given" "[I") ∈ vTB := vTB_in 147 (by decide +kernel) rfl
theorem L_Re_28 : (Jvm.Cond.fieldLink "FieldRelay$Relation" (28 : Nat) "FieldRelay$Relation" "got" "[I") ∈ vTB := vTB_in 149 (by decide +kernel) rfl
theorem L_Re_31 : (Jvm.Cond.fieldLink "FieldRelay$Relation" (31 : Nat) "FieldRelay$Relation" "found" "I") ∈ vTB := vTB_in 153 (by decide +kernel) rfl
theorem L_Re_35 : (Jvm.Cond.fieldLink "FieldRelay$Relation" (35 : Nat) "FieldRelay$Relation" "index" "I") ∈ vTB := vTB_in 138 (by decide +kernel) rfl
theorem L_Re_38 : (Jvm.Cond.fieldLink "FieldRelay$Relation" (38 : Nat) "FieldRelay$Relation" "kinds" "LFieldRelay$KindTable;") ∈ vTB := vTB_in 139 (by decide +kernel) rfl
theorem L_Re_42 : (Jvm.Cond.fieldLink "FieldRelay$Relation" (42 : Nat) "FieldRelay$Relation" "wire" "LFieldRelay$Wire;") ∈ vTB := vTB_in 140 (by decide +kernel) rfl
theorem L_Re_46 : (Jvm.Cond.fieldLink "FieldRelay$Relation" (46 : Nat) "FieldRelay$Relation" "log" "LFieldRelay$AlarmLog;") ∈ vTB := vTB_in 141 (by decide +kernel) rfl
theorem L_Re_50 : (Jvm.Cond.methodLink "FieldRelay$Relation" (50 : Nat) ({ cls := "java/util/Arrays", name := "fill", desc := "([II)V" } : Jvm.MethodName)) ∈ vTB := vTB_in 137 (by decide +kernel) rfl
theorem L_Re_56 : (Jvm.Cond.fieldLink "FieldRelay$Relation" (56 : Nat) "FieldRelay$Relation" "state" "I") ∈ vTB := vTB_in 151 (by decide +kernel) rfl
theorem L_Re_59 : (Jvm.Cond.fieldLink "FieldRelay$Relation" (59 : Nat) "FieldRelay$Relation" "session" "I") ∈ vTB := vTB_in 152 (by decide +kernel) rfl
theorem L_Re_62 : (Jvm.Cond.fieldLink "FieldRelay$Relation" (62 : Nat) "FieldRelay$Relation" "differing" "I") ∈ vTB := vTB_in 154 (by decide +kernel) rfl
theorem L_Re_65 : (Jvm.Cond.fieldLink "FieldRelay$Relation" (65 : Nat) "FieldRelay$Relation" "alarmTold" "I") ∈ vTB := vTB_in 159 (by decide +kernel) rfl
theorem L_Re_68 : (Jvm.Cond.methodLink "FieldRelay$Relation" (68 : Nat) ({ cls := "FieldRelay$Relation", name := "enter", desc := "(I)V" } : Jvm.MethodName)) ∈ vTB := vTB_in 437 (by decide +kernel) rfl
theorem L_Re_72 : (Jvm.Cond.methodLink "FieldRelay$Relation" (72 : Nat) ({ cls := "FieldRelay$Relation", name := "sendRequest", desc := "()V" } : Jvm.MethodName)) ∈ vTB := vTB_in 441 (by decide +kernel) rfl
theorem L_Re_75 : (Jvm.Cond.methodLink "FieldRelay$Relation" (75 : Nat) ({ cls := "FieldRelay$Relation", name := "abort", desc := "()V" } : Jvm.MethodName)) ∈ vTB := vTB_in 470 (by decide +kernel) rfl
theorem L_Re_78 : (Jvm.Cond.methodLink "FieldRelay$Relation" (78 : Nat) ({ cls := "FieldRelay$Relation", name := "shut", desc := "()V" } : Jvm.MethodName)) ∈ vTB := vTB_in 474 (by decide +kernel) rfl
theorem L_Re_81 : (Jvm.Cond.fieldLink "FieldRelay$Relation" (81 : Nat) "FieldRelay$Frame" "type" "I") ∈ vTB := vTB_in 58 (by decide +kernel) rfl
theorem L_Re_86 : (Jvm.Cond.methodLink "FieldRelay$Relation" (86 : Nat) ({ cls := "FieldRelay$Relation", name := "deviceFound", desc := "(LFieldRelay$Frame;)V" } : Jvm.MethodName)) ∈ vTB := vTB_in 495 (by decide +kernel) rfl
theorem L_Re_90 : (Jvm.Cond.fieldLink "FieldRelay$Relation" (90 : Nat) "FieldRelay$Frame" "session" "I") ∈ vTB := vTB_in 61 (by decide +kernel) rfl
theorem L_Re_91 : (Jvm.Cond.fieldLink "FieldRelay$Relation" (91 : Nat) "FieldRelay$Frame" "number" "I") ∈ vTB := vTB_in 64 (by decide +kernel) rfl
theorem L_Re_94 : (Jvm.Cond.methodLink "FieldRelay$Relation" (94 : Nat) ({ cls := "FieldRelay$Relation", name := "accepted", desc := "(I)V" } : Jvm.MethodName)) ∈ vTB := vTB_in 499 (by decide +kernel) rfl
theorem L_Re_97 : (Jvm.Cond.methodLink "FieldRelay$Relation" (97 : Nat) ({ cls := "FieldRelay$Relation", name := "refused", desc := "()V" } : Jvm.MethodName)) ∈ vTB := vTB_in 514 (by decide +kernel) rfl
theorem L_Re_100 : (Jvm.Cond.methodLink "FieldRelay$Relation" (100 : Nat) ({ cls := "FieldRelay$Relation", name := "written", desc := "(I)V" } : Jvm.MethodName)) ∈ vTB := vTB_in 518 (by decide +kernel) rfl
theorem L_Re_103 : (Jvm.Cond.methodLink "FieldRelay$Relation" (103 : Nat) ({ cls := "FieldRelay$Relation", name := "ended", desc := "()V" } : Jvm.MethodName)) ∈ vTB := vTB_in 522 (by decide +kernel) rfl
theorem L_Re_106 : (Jvm.Cond.methodLink "FieldRelay$Relation" (106 : Nat) ({ cls := "FieldRelay$Relation", name := "deviceReady", desc := "()V" } : Jvm.MethodName)) ∈ vTB := vTB_in 526 (by decide +kernel) rfl
theorem L_Re_109 : (Jvm.Cond.methodLink "FieldRelay$Relation" (109 : Nat) ({ cls := "FieldRelay$Relation", name := "takeInput", desc := "(LFieldRelay$Frame;)V" } : Jvm.MethodName)) ∈ vTB := vTB_in 534 (by decide +kernel) rfl
theorem L_Re_112 : (Jvm.Cond.methodLink "FieldRelay$Relation" (112 : Nat) ({ cls := "FieldRelay$Relation", name := "takeAlarm", desc := "(LFieldRelay$Frame;)V" } : Jvm.MethodName)) ∈ vTB := vTB_in 546 (by decide +kernel) rfl
theorem L_Re_115 : (Jvm.Cond.fieldLink "FieldRelay$Relation" (115 : Nat) "FieldRelay$Relation" "ticks" "I") ∈ vTB := vTB_in 156 (by decide +kernel) rfl
theorem L_Re_118 : (Jvm.Cond.methodLink "FieldRelay$Relation" (118 : Nat) ({ cls := "FieldRelay$Relation", name := "passTickInData", desc := "()V" } : Jvm.MethodName)) ∈ vTB := vTB_in 649 (by decide +kernel) rfl
theorem L_Re_121 : (Jvm.Cond.methodLink "FieldRelay$Relation" (121 : Nat) ({ cls := "FieldRelay$Relation", name := "requestAgain", desc := "()V" } : Jvm.MethodName)) ∈ vTB := vTB_in 663 (by decide +kernel) rfl
theorem L_Re_124 : (Jvm.Cond.fieldLink "FieldRelay$Relation" (124 : Nat) "FieldRelay$Relation" "good" "I") ∈ vTB := vTB_in 155 (by decide +kernel) rfl
theorem L_Re_127 : (Jvm.Cond.fieldLink "FieldRelay$Relation" (127 : Nat) "FieldRelay$Relation" "timesAgain" "I") ∈ vTB := vTB_in 157 (by decide +kernel) rfl
theorem L_Re_130 : (Jvm.Cond.fieldLink "FieldRelay$Relation" (130 : Nat) "FieldRelay$Frame" "row" "[I") ∈ vTB := vTB_in 69 (by decide +kernel) rfl
theorem L_Re_133 : (Jvm.Cond.fieldLink "FieldRelay$Relation" (133 : Nat) "FieldRelay$Relation" "wanted" "I") ∈ vTB := vTB_in 144 (by decide +kernel) rfl
theorem L_Re_136 : (Jvm.Cond.methodLink "FieldRelay$Relation" (136 : Nat) ({ cls := "FieldRelay$Relation", name := "goOnWriting", desc := "(I)V" } : Jvm.MethodName)) ∈ vTB := vTB_in 503 (by decide +kernel) rfl
theorem L_Re_139 : (Jvm.Cond.fieldLink "FieldRelay$Relation" (139 : Nat) "FieldRelay$Relation" "writingSlot" "I") ∈ vTB := vTB_in 158 (by decide +kernel) rfl
theorem L_Re_142 : (Jvm.Cond.methodLink "FieldRelay$Relation" (142 : Nat) ({ cls := "FieldRelay$Cycle", name := "restart", desc := "()V" } : Jvm.MethodName)) ∈ vTB := vTB_in 530 (by decide +kernel) rfl
theorem L_Re_145 : (Jvm.Cond.methodLink "FieldRelay$Relation" (145 : Nat) ({ cls := "FieldRelay$Wire", name := "send", desc := "(IIII)LFieldRelay$Frame;" } : Jvm.MethodName)) ∈ vTB := vTB_in 445 (by decide +kernel) rfl
theorem L_Re_151 : (Jvm.Cond.methodLink "FieldRelay$Relation" (151 : Nat) ({ cls := "FieldRelay$Cycle", name := "takes", desc := "(I)Z" } : Jvm.MethodName)) ∈ vTB := vTB_in 538 (by decide +kernel) rfl
theorem L_Re_155 : (Jvm.Cond.methodLink "FieldRelay$Relation" (155 : Nat) ({ cls := "java/lang/System", name := "arraycopy", desc := "(Ljava/lang/Object;ILjava/lang/Object;II)V" } : Jvm.MethodName)) ∈ vTB := vTB_in 543 (by decide +kernel) rfl
theorem L_Re_161 : (Jvm.Cond.methodLinkNest "FieldRelay$Relation" (161 : Nat) ({ cls := "FieldRelay", name := "isSlot", desc := "(I)Z" } : Jvm.MethodName) "FieldRelay") ∈ vNL := List.mem_of_getElem? (i := 10) rfl
theorem L_Re_164 : (Jvm.Cond.methodLink "FieldRelay$Relation" (164 : Nat) ({ cls := "FieldRelay$AlarmLog", name := "add", desc := "(III)V" } : Jvm.MethodName)) ∈ vTB := vTB_in 551 (by decide +kernel) rfl
theorem L_Re_170 : (Jvm.Cond.methodLinkNest "FieldRelay$Relation" (170 : Nat) ({ cls := "FieldRelay", name := "withSlot", desc := "(IIZ)I" } : Jvm.MethodName) "FieldRelay") ∈ vNL := List.mem_of_getElem? (i := 11) rfl
theorem L_Re_174 : (Jvm.Cond.methodLink "FieldRelay$Relation" (174 : Nat) ({ cls := "FieldRelay$KindTable", name := "needsParameter", desc := "(I)Z" } : Jvm.MethodName)) ∈ vTB := vTB_in 507 (by decide +kernel) rfl
theorem L_Re_179 : (Jvm.Cond.methodLinkNest "FieldRelay$Relation" (179 : Nat) ({ cls := "FieldRelay", name := "hasSlot", desc := "(II)Z" } : Jvm.MethodName) "FieldRelay") ∈ vNL := List.mem_of_getElem? (i := 8) rfl
theorem L_Re_183 : (Jvm.Cond.methodLink "FieldRelay$Relation" (183 : Nat) ({ cls := "FieldRelay$Relation", name := "sendConnect", desc := "()V" } : Jvm.MethodName)) ∈ vTB := vTB_in 458 (by decide +kernel) rfl
theorem L_Re_186 : (Jvm.Cond.fieldLink "FieldRelay$Relation" (186 : Nat) "FieldRelay$Relation" "watchEnds" "I") ∈ vTB := vTB_in 160 (by decide +kernel) rfl
theorem L_Re_189 : (Jvm.Cond.methodLink "FieldRelay$Relation" (189 : Nat) ({ cls := "FieldRelay$Relation", name := "sendOutput", desc := "()V" } : Jvm.MethodName)) ∈ vTB := vTB_in 653 (by decide +kernel) rfl
theorem L_Re_192 : (Jvm.Cond.methodLink "FieldRelay$Relation" (192 : Nat) ({ cls := "FieldRelay$Cycle", name := "nextToSend", desc := "()I" } : Jvm.MethodName)) ∈ vTB := vTB_in 657 (by decide +kernel) rfl
theorem L_Re_196 : (Jvm.Cond.methodLink "FieldRelay$Relation" (196 : Nat) ({ cls := "FieldRelay$KindTable", name := "outsOf", desc := "(I)I" } : Jvm.MethodName)) ∈ vTB := vTB_in 661 (by decide +kernel) rfl
theorem L_Re_200 : (Jvm.Cond.methodLinkNest "FieldRelay$Relation" (200 : Nat) ({ cls := "FieldRelay", name := "place", desc := "(II)I" } : Jvm.MethodName) "FieldRelay") ∈ vNL := List.mem_of_getElem? (i := 14) rfl
theorem L_Wi_11 : (Jvm.Cond.fieldLink "FieldRelay$Wire" (11 : Nat) "FieldRelay$Wire" "frames" "[LFieldRelay$Frame;") ∈ vTB := vTB_in 81 (by decide +kernel) rfl
theorem L_Wi_16 : (Jvm.Cond.fieldLink "FieldRelay$Wire" (16 : Nat) "FieldRelay$Wire" "scrap" "LFieldRelay$Frame;") ∈ vTB := vTB_in 83 (by decide +kernel) rfl
theorem L_Wi_20 : (Jvm.Cond.fieldLink "FieldRelay$Wire" (20 : Nat) "FieldRelay$Wire" "size" "I") ∈ vTB := vTB_in 84 (by decide +kernel) rfl
theorem L_Wi_24 : (Jvm.Cond.methodLinkNest "FieldRelay$Wire" (24 : Nat) ({ cls := "FieldRelay", name := "within", desc := "(III)Z" } : Jvm.MethodName) "FieldRelay") ∈ vNL := List.mem_of_getElem? (i := 7) rfl
theorem L_Wi_30 : (Jvm.Cond.fieldLink "FieldRelay$Wire" (30 : Nat) "FieldRelay$Wire" "sent" "I") ∈ vTB := vTB_in 86 (by decide +kernel) rfl
theorem L_Wi_33 : (Jvm.Cond.methodLink "FieldRelay$Wire" (33 : Nat) ({ cls := "FieldRelay$Wire", name := "isFull", desc := "()Z" } : Jvm.MethodName)) ∈ vTB := vTB_in 449 (by decide +kernel) rfl
theorem L_Wi_37 : (Jvm.Cond.fieldLink "FieldRelay$Wire" (37 : Nat) "FieldRelay$Wire" "lostForRoom" "I") ∈ vTB := vTB_in 88 (by decide +kernel) rfl
theorem L_Wi_40 : (Jvm.Cond.methodLink "FieldRelay$Wire" (40 : Nat) ({ cls := "FieldRelay$Frame", name := "set", desc := "(IIII)V" } : Jvm.MethodName)) ∈ vTB := vTB_in 453 (by decide +kernel) rfl
theorem L_Wi_44 : (Jvm.Cond.methodLink "FieldRelay$Wire" (44 : Nat) ({ cls := "FieldRelay$Frame", name := "copyFrom", desc := "(LFieldRelay$Frame;)V" } : Jvm.MethodName)) ∈ vTB := vTB_in 635 (by decide +kernel) rfl
theorem L_acN : Cond.native arraycopyName ∈ vTB := vTB_in 545 (by decide +kernel) rfl
theorem L_acS : Cond.static arraycopyName ∈ vTB := vTB_in 544 (by decide +kernel) rfl
theorem L_acI : Cond.initialized "java/lang/System" ∈ vTB := vTB_in 12 (by decide +kernel) rfl
theorem L_minS : Cond.static Lib.Math.min.name ∈ vTB := vTB_in 746 (by decide +kernel) rfl
theorem L_minI : Cond.initialized "java/lang/Math" ∈ vTB := vTB_in 13 (by decide +kernel) rfl
theorem L_minC : Cond.code Lib.Math.min.name Lib.Math.min.code 2 (some .int) ∈ vTB := vTB_in 747 (by decide +kernel) rfl
