def R_FR : String := "FieldRelay"
def F_FR : u_T := fun k => match k with
  | 0 => ("FieldRelay", "kinds", "LFieldRelay$KindTable;", true)
  | 1 => ("FieldRelay", "wire", "LFieldRelay$Wire;", true)
  | 2 => ("FieldRelay", "log", "LFieldRelay$AlarmLog;", true)
  | 3 => ("FieldRelay", "relations", "[LFieldRelay$Relation;", true)
  | 4 => ("FieldRelay", "devices", "[LFieldRelay$Device;", true)
  | 5 => ("FieldRelay", "session", "I", false)
  | 6 => ("FieldRelay", "ticks", "I", false)
  | 7 => ("FieldRelay", "delivered", "I", false)
  | _ => ("FieldRelay", "sessionsBegun", "I", false)
def t_FR : Nat → FieldType := fun k => match k with
  | 0 => (.object "FieldRelay$KindTable")
  | 1 => (.object "FieldRelay$Wire")
  | 2 => (.object "FieldRelay$AlarmLog")
  | 3 => (.array (.object "FieldRelay$Relation"))
  | 4 => (.array (.object "FieldRelay$Device"))
  | 5 => .int
  | 6 => .int
  | 7 => .int
  | _ => .int
theorem n_FR : ∀ a, a < 9 → ∀ b, b < 9 → a ≠ b → (F_FR a).2.1 ≠ (F_FR b).2.1 := by decide +kernel
theorem t_FR_ok : ∀ k, k < 9 → parseFieldDescriptor (F_FR k).2.2.1 = some (t_FR k) := by decide +kernel
theorem i_FR : ∀ w ∈ u_ws R_FR F_FR 9, w ∈ vTB := vTB_ix [309, 311, 313, 315, 317, 319, 321, 323, 325] (by decide +kernel) (by decide +kernel)
theorem N_FR : Cond.initialized R_FR ∈ vTB := vTB_in 1 (by decide +kernel) rfl
def R_KT : String := "FieldRelay$KindTable"
def F_KT : u_T := fun k => match k with
  | 0 => ("FieldRelay$KindTable", "ins", "[I", true)
  | 1 => ("FieldRelay$KindTable", "outs", "[I", true)
  | _ => ("FieldRelay$KindTable", "parameter", "[Z", true)
def t_KT : Nat → FieldType := fun k => match k with
  | 0 => (.array .int)
  | 1 => (.array .int)
  | _ => (.array .boolean)
theorem n_KT : ∀ a, a < 3 → ∀ b, b < 3 → a ≠ b → (F_KT a).2.1 ≠ (F_KT b).2.1 := by decide +kernel
theorem t_KT_ok : ∀ k, k < 3 → parseFieldDescriptor (F_KT k).2.2.1 = some (t_KT k) := by decide +kernel
theorem i_KT : ∀ w ∈ u_ws R_KT F_KT 3, w ∈ vTB := vTB_ix [34, 36, 38] (by decide +kernel) (by decide +kernel)
theorem N_KT : Cond.initialized R_KT ∈ vTB := vTB_in 2 (by decide +kernel) rfl
def R_Fm : String := "FieldRelay$Frame"
def F_Fm : u_T := fun k => match k with
  | 0 => ("FieldRelay$Frame", "type", "I", false)
  | 1 => ("FieldRelay$Frame", "session", "I", false)
  | 2 => ("FieldRelay$Frame", "number", "I", false)
  | 3 => ("FieldRelay$Frame", "goal", "I", false)
  | _ => ("FieldRelay$Frame", "row", "[I", true)
def t_Fm : Nat → FieldType := fun k => match k with
  | 0 => .int
  | 1 => .int
  | 2 => .int
  | 3 => .int
  | _ => (.array .int)
theorem n_Fm : ∀ a, a < 5 → ∀ b, b < 5 → a ≠ b → (F_Fm a).2.1 ≠ (F_Fm b).2.1 := by decide +kernel
theorem t_Fm_ok : ∀ k, k < 5 → parseFieldDescriptor (F_Fm k).2.2.1 = some (t_Fm k) := by decide +kernel
theorem i_Fm : ∀ w ∈ u_ws R_Fm F_Fm 5, w ∈ vTB := vTB_ix [70, 72, 74, 76, 78] (by decide +kernel) (by decide +kernel)
theorem N_Fm : Cond.initialized R_Fm ∈ vTB := vTB_in 5 (by decide +kernel) rfl
def R_Wi : String := "FieldRelay$Wire"
def F_Wi : u_T := fun k => match k with
  | 0 => ("FieldRelay$Wire", "frames", "[LFieldRelay$Frame;", true)
  | 1 => ("FieldRelay$Wire", "scrap", "LFieldRelay$Frame;", true)
  | 2 => ("FieldRelay$Wire", "size", "I", false)
  | 3 => ("FieldRelay$Wire", "sent", "I", false)
  | _ => ("FieldRelay$Wire", "lostForRoom", "I", false)
def t_Wi : Nat → FieldType := fun k => match k with
  | 0 => (.array (.object "FieldRelay$Frame"))
  | 1 => (.object "FieldRelay$Frame")
  | 2 => .int
  | 3 => .int
  | _ => .int
theorem n_Wi : ∀ a, a < 5 → ∀ b, b < 5 → a ≠ b → (F_Wi a).2.1 ≠ (F_Wi b).2.1 := by decide +kernel
theorem t_Wi_ok : ∀ k, k < 5 → parseFieldDescriptor (F_Wi k).2.2.1 = some (t_Wi k) := by decide +kernel
theorem i_Wi : ∀ w ∈ u_ws R_Wi F_Wi 5, w ∈ vTB := vTB_ix [90, 92, 94, 96, 98] (by decide +kernel) (by decide +kernel)
theorem N_Wi : Cond.initialized R_Wi ∈ vTB := vTB_in 4 (by decide +kernel) rfl
def R_Cy : String := "FieldRelay$Cycle"
def F_Cy : u_T := fun k => match k with
  | 0 => ("FieldRelay$Cycle", "next", "I", false)
  | _ => ("FieldRelay$Cycle", "taken", "I", false)
def t_Cy : Nat → FieldType := fun k => match k with
  | 0 => .int
  | _ => .int
theorem n_Cy : ∀ a, a < 2 → ∀ b, b < 2 → a ≠ b → (F_Cy a).2.1 ≠ (F_Cy b).2.1 := by decide +kernel
theorem t_Cy_ok : ∀ k, k < 2 → parseFieldDescriptor (F_Cy k).2.2.1 = some (t_Cy k) := by decide +kernel
theorem i_Cy : ∀ w ∈ u_ws R_Cy F_Cy 2, w ∈ vTB := vTB_ix [132, 134] (by decide +kernel) (by decide +kernel)
theorem N_Cy : Cond.initialized R_Cy ∈ vTB := vTB_in 8 (by decide +kernel) rfl
def R_AL : String := "FieldRelay$AlarmLog"
def F_AL : u_T := fun k => match k with
  | 0 => ("FieldRelay$AlarmLog", "entries", "[I", true)
  | _ => ("FieldRelay$AlarmLog", "told", "I", false)
def t_AL : Nat → FieldType := fun k => match k with
  | 0 => (.array .int)
  | _ => .int
theorem n_AL : ∀ a, a < 2 → ∀ b, b < 2 → a ≠ b → (F_AL a).2.1 ≠ (F_AL b).2.1 := by decide +kernel
theorem t_AL_ok : ∀ k, k < 2 → parseFieldDescriptor (F_AL k).2.2.1 = some (t_AL k) := by decide +kernel
theorem i_AL : ∀ w ∈ u_ws R_AL F_AL 2, w ∈ vTB := vTB_ix [110, 112] (by decide +kernel) (by decide +kernel)
theorem N_AL : Cond.initialized R_AL ∈ vTB := vTB_in 6 (by decide +kernel) rfl
def R_AQ : String := "FieldRelay$AlarmQueue"
def F_AQ : u_T := fun k => match k with
  | 0 => ("FieldRelay$AlarmQueue", "slots", "[I", true)
  | 1 => ("FieldRelay$AlarmQueue", "kindsPlusOne", "[I", true)
  | 2 => ("FieldRelay$AlarmQueue", "size", "I", false)
  | 3 => ("FieldRelay$AlarmQueue", "onItsWay", "I", false)
  | 4 => ("FieldRelay$AlarmQueue", "latestNumber", "I", false)
  | _ => ("FieldRelay$AlarmQueue", "sinceSent", "I", false)
def t_AQ : Nat → FieldType := fun k => match k with
  | 0 => (.array .int)
  | 1 => (.array .int)
  | 2 => .int
  | 3 => .int
  | 4 => .int
  | _ => .int
theorem n_AQ : ∀ a, a < 6 → ∀ b, b < 6 → a ≠ b → (F_AQ a).2.1 ≠ (F_AQ b).2.1 := by decide +kernel
theorem t_AQ_ok : ∀ k, k < 6 → parseFieldDescriptor (F_AQ k).2.2.1 = some (t_AQ k) := by decide +kernel
theorem i_AQ : ∀ w ∈ u_ws R_AQ F_AQ 6, w ∈ vTB := vTB_ix [224, 226, 228, 230, 232, 234] (by decide +kernel) (by decide +kernel)
theorem N_AQ : Cond.initialized R_AQ ∈ vTB := vTB_in 10 (by decide +kernel) rfl
def R_Re : String := "FieldRelay$Relation"
def F_Re : u_T := fun k => match k with
  | 0 => ("FieldRelay$Relation", "index", "I", true)
  | 1 => ("FieldRelay$Relation", "kinds", "LFieldRelay$KindTable;", true)
  | 2 => ("FieldRelay$Relation", "wire", "LFieldRelay$Wire;", true)
  | 3 => ("FieldRelay$Relation", "log", "LFieldRelay$AlarmLog;", true)
  | 4 => ("FieldRelay$Relation", "cycle", "LFieldRelay$Cycle;", true)
  | 5 => ("FieldRelay$Relation", "wanted", "I", false)
  | 6 => ("FieldRelay$Relation", "expected", "[I", true)
  | 7 => ("FieldRelay$Relation", "parameters", "[I", true)
  | 8 => ("FieldRelay$Relation", "given", "[I", true)
  | 9 => ("FieldRelay$Relation", "got", "[I", true)
  | 10 => ("FieldRelay$Relation", "state", "I", false)
  | 11 => ("FieldRelay$Relation", "session", "I", false)
  | 12 => ("FieldRelay$Relation", "found", "I", false)
  | 13 => ("FieldRelay$Relation", "differing", "I", false)
  | 14 => ("FieldRelay$Relation", "good", "I", false)
  | 15 => ("FieldRelay$Relation", "ticks", "I", false)
  | 16 => ("FieldRelay$Relation", "timesAgain", "I", false)
  | 17 => ("FieldRelay$Relation", "writingSlot", "I", false)
  | 18 => ("FieldRelay$Relation", "alarmTold", "I", false)
  | _ => ("FieldRelay$Relation", "watchEnds", "I", false)
def t_Re : Nat → FieldType := fun k => match k with
  | 0 => .int
  | 1 => (.object "FieldRelay$KindTable")
  | 2 => (.object "FieldRelay$Wire")
  | 3 => (.object "FieldRelay$AlarmLog")
  | 4 => (.object "FieldRelay$Cycle")
  | 5 => .int
  | 6 => (.array .int)
  | 7 => (.array .int)
  | 8 => (.array .int)
  | 9 => (.array .int)
  | 10 => .int
  | 11 => .int
  | 12 => .int
  | 13 => .int
  | 14 => .int
  | 15 => .int
  | 16 => .int
  | 17 => .int
  | 18 => .int
  | _ => .int
theorem n_Re : ∀ a, a < 20 → ∀ b, b < 20 → a ≠ b → (F_Re a).2.1 ≠ (F_Re b).2.1 := by decide +kernel
theorem t_Re_ok : ∀ k, k < 20 → parseFieldDescriptor (F_Re k).2.2.1 = some (t_Re k) := by decide +kernel
theorem i_Re : ∀ w ∈ u_ws R_Re F_Re 20, w ∈ vTB := vTB_ix [162, 164, 166, 168, 170, 172, 174, 176, 178, 180, 182, 184, 186, 188, 190, 192, 194, 196, 198, 200] (by decide +kernel) (by decide +kernel)
theorem N_Re : Cond.initialized R_Re ∈ vTB := vTB_in 7 (by decide +kernel) rfl
def R_De : String := "FieldRelay$Device"
def F_De : u_T := fun k => match k with
  | 0 => ("FieldRelay$Device", "index", "I", true)
  | 1 => ("FieldRelay$Device", "kinds", "LFieldRelay$KindTable;", true)
  | 2 => ("FieldRelay$Device", "wire", "LFieldRelay$Wire;", true)
  | 3 => ("FieldRelay$Device", "cycle", "LFieldRelay$Cycle;", true)
  | 4 => ("FieldRelay$Device", "queue", "LFieldRelay$AlarmQueue;", true)
  | 5 => ("FieldRelay$Device", "label", "I", false)
  | 6 => ("FieldRelay$Device", "fallback", "I", false)
  | 7 => ("FieldRelay$Device", "fallbackOctet", "I", false)
  | 8 => ("FieldRelay$Device", "modules", "[I", true)
  | 9 => ("FieldRelay$Device", "sensed", "[I", true)
  | 10 => ("FieldRelay$Device", "shown", "[I", true)
  | 11 => ("FieldRelay$Device", "state", "I", false)
  | 12 => ("FieldRelay$Device", "session", "I", false)
  | 13 => ("FieldRelay$Device", "expected", "[I", true)
  | 14 => ("FieldRelay$Device", "written", "[I", true)
  | 15 => ("FieldRelay$Device", "differing", "I", false)
  | 16 => ("FieldRelay$Device", "ticks", "I", false)
  | 17 => ("FieldRelay$Device", "timesAgain", "I", false)
  | _ => ("FieldRelay$Device", "watchEnds", "I", false)
def t_De : Nat → FieldType := fun k => match k with
  | 0 => .int
  | 1 => (.object "FieldRelay$KindTable")
  | 2 => (.object "FieldRelay$Wire")
  | 3 => (.object "FieldRelay$Cycle")
  | 4 => (.object "FieldRelay$AlarmQueue")
  | 5 => .int
  | 6 => .int
  | 7 => .int
  | 8 => (.array .int)
  | 9 => (.array .int)
  | 10 => (.array .int)
  | 11 => .int
  | 12 => .int
  | 13 => (.array .int)
  | 14 => (.array .int)
  | 15 => .int
  | 16 => .int
  | 17 => .int
  | _ => .int
theorem n_De : ∀ a, a < 19 → ∀ b, b < 19 → a ≠ b → (F_De a).2.1 ≠ (F_De b).2.1 := by decide +kernel
theorem t_De_ok : ∀ k, k < 19 → parseFieldDescriptor (F_De k).2.2.1 = some (t_De k) := by decide +kernel
theorem i_De : ∀ w ∈ u_ws R_De F_De 19, w ∈ vTB := vTB_ix [261, 263, 265, 267, 269, 271, 273, 275, 277, 279, 281, 283, 285, 287, 289, 291, 293, 295, 297] (by decide +kernel) (by decide +kernel)
theorem N_De : Cond.initialized R_De ∈ vTB := vTB_in 9 (by decide +kernel) rfl
def R_Mo : String := "FieldRelayModel"
def F_Mo : u_T := fun k => match k with
  | 0 => ("FieldRelayModel", "ins", "[I", true)
  | 1 => ("FieldRelayModel", "outs", "[I", true)
  | 2 => ("FieldRelayModel", "needs", "[Z", true)
  | 3 => ("FieldRelayModel", "type", "[I", true)
  | 4 => ("FieldRelayModel", "session", "[I", true)
  | 5 => ("FieldRelayModel", "number", "[I", true)
  | 6 => ("FieldRelayModel", "goal", "[I", true)
  | 7 => ("FieldRelayModel", "row", "[I", true)
  | 8 => ("FieldRelayModel", "at", "[I", true)
  | 9 => ("FieldRelayModel", "came", "[I", true)
  | 10 => ("FieldRelayModel", "wire", "I", false)
  | 11 => ("FieldRelayModel", "rState", "[I", true)
  | 12 => ("FieldRelayModel", "rSession", "[I", true)
  | 13 => ("FieldRelayModel", "rName", "[I", true)
  | 14 => ("FieldRelayModel", "rDevice", "[I", true)
  | 15 => ("FieldRelayModel", "rDiffer", "[I", true)
  | 16 => ("FieldRelayModel", "rGood", "[I", true)
  | 17 => ("FieldRelayModel", "rTicks", "[I", true)
  | 18 => ("FieldRelayModel", "rAgain", "[I", true)
  | 19 => ("FieldRelayModel", "rSlot", "[I", true)
  | 20 => ("FieldRelayModel", "rCount", "[I", true)
  | 21 => ("FieldRelayModel", "rLast", "[I", true)
  | 22 => ("FieldRelayModel", "rTold", "[I", true)
  | 23 => ("FieldRelayModel", "expected", "[I", true)
  | 24 => ("FieldRelayModel", "given", "[I", true)
  | 25 => ("FieldRelayModel", "gives", "[I", true)
  | 26 => ("FieldRelayModel", "got", "[I", true)
  | 27 => ("FieldRelayModel", "dState", "[I", true)
  | 28 => ("FieldRelayModel", "dSession", "[I", true)
  | 29 => ("FieldRelayModel", "dName", "[I", true)
  | 30 => ("FieldRelayModel", "dDiffer", "[I", true)
  | 31 => ("FieldRelayModel", "dTicks", "[I", true)
  | 32 => ("FieldRelayModel", "dAgain", "[I", true)
  | 33 => ("FieldRelayModel", "dCount", "[I", true)
  | 34 => ("FieldRelayModel", "dLast", "[I", true)
  | 35 => ("FieldRelayModel", "dWay", "[I", true)
  | 36 => ("FieldRelayModel", "dAlarms", "[I", true)
  | 37 => ("FieldRelayModel", "dAlarmTicks", "[I", true)
  | 38 => ("FieldRelayModel", "dNumber", "[I", true)
  | 39 => ("FieldRelayModel", "substitute", "[I", true)
  | 40 => ("FieldRelayModel", "octet", "[I", true)
  | 41 => ("FieldRelayModel", "module", "[I", true)
  | 42 => ("FieldRelayModel", "wanted", "[I", true)
  | 43 => ("FieldRelayModel", "written", "[I", true)
  | 44 => ("FieldRelayModel", "senses", "[I", true)
  | 45 => ("FieldRelayModel", "shows", "[I", true)
  | 46 => ("FieldRelayModel", "aSlot", "[I", true)
  | 47 => ("FieldRelayModel", "aKind", "[I", true)
  | 48 => ("FieldRelayModel", "told", "[I", true)
  | 49 => ("FieldRelayModel", "ticks", "I", false)
  | 50 => ("FieldRelayModel", "sent", "I", false)
  | 51 => ("FieldRelayModel", "lost", "I", false)
  | 52 => ("FieldRelayModel", "delivered", "I", false)
  | 53 => ("FieldRelayModel", "sessions", "I", false)
  | 54 => ("FieldRelayModel", "latest", "I", false)
  | 55 => ("FieldRelayModel", "tellings", "I", false)
  | _ => ("FieldRelayModel", "watched", "I", false)
def t_Mo : Nat → FieldType := fun k => match k with
  | 0 => (.array .int)
  | 1 => (.array .int)
  | 2 => (.array .boolean)
  | 3 => (.array .int)
  | 4 => (.array .int)
  | 5 => (.array .int)
  | 6 => (.array .int)
  | 7 => (.array .int)
  | 8 => (.array .int)
  | 9 => (.array .int)
  | 10 => .int
  | 11 => (.array .int)
  | 12 => (.array .int)
  | 13 => (.array .int)
  | 14 => (.array .int)
  | 15 => (.array .int)
  | 16 => (.array .int)
  | 17 => (.array .int)
  | 18 => (.array .int)
  | 19 => (.array .int)
  | 20 => (.array .int)
  | 21 => (.array .int)
  | 22 => (.array .int)
  | 23 => (.array .int)
  | 24 => (.array .int)
  | 25 => (.array .int)
  | 26 => (.array .int)
  | 27 => (.array .int)
  | 28 => (.array .int)
  | 29 => (.array .int)
  | 30 => (.array .int)
  | 31 => (.array .int)
  | 32 => (.array .int)
  | 33 => (.array .int)
  | 34 => (.array .int)
  | 35 => (.array .int)
  | 36 => (.array .int)
  | 37 => (.array .int)
  | 38 => (.array .int)
  | 39 => (.array .int)
  | 40 => (.array .int)
  | 41 => (.array .int)
  | 42 => (.array .int)
  | 43 => (.array .int)
  | 44 => (.array .int)
  | 45 => (.array .int)
  | 46 => (.array .int)
  | 47 => (.array .int)
  | 48 => (.array .int)
  | 49 => .int
  | 50 => .int
  | 51 => .int
  | 52 => .int
  | 53 => .int
  | 54 => .int
  | 55 => .int
  | _ => .int
theorem n_Mo : ∀ a, a < 57 → ∀ b, b < 57 → a ≠ b → (F_Mo a).2.1 ≠ (F_Mo b).2.1 := by decide +kernel
theorem t_Mo_ok : ∀ k, k < 57 → parseFieldDescriptor (F_Mo k).2.2.1 = some (t_Mo k) := by decide +kernel
theorem i_Mo : ∀ w ∈ u_ws R_Mo F_Mo 57, w ∈ vTB := vTB_ix [820, 822, 824, 826, 828, 830, 832, 834, 836, 838, 840, 842, 844, 846, 848, 850, 852, 854, 856, 858, 860, 862, 864, 866, 868, 870, 872, 874, 876, 878, 880, 882, 884, 886, 888, 890, 892, 894, 896, 898, 900, 902, 904, 906, 908, 910, 912, 914, 916, 918, 920, 922, 924, 926, 928, 930, 932] (by decide +kernel) (by decide +kernel)
theorem N_Mo : Cond.initialized R_Mo ∈ vTB := vTB_in 11 (by decide +kernel) rfl
abbrev vcls : List vw_C := [(R_FR, F_FR, 9), (R_KT, F_KT, 3), (R_Fm, F_Fm, 5), (R_Wi, F_Wi, 5), (R_Cy, F_Cy, 2), (R_AL, F_AL, 2), (R_AQ, F_AQ, 6), (R_Re, F_Re, 20), (R_De, F_De, 19), (R_Mo, F_Mo, 57)]
abbrev vtys (cA : Nat → ClassId) : List (ClassId × FieldType) := [(cA 0, .int), (cA 1, .boolean), (cA 2, .object R_Fm), (cA 3, .object R_Re), (cA 4, .object R_De)]
def xcnt : List (Nat × Nat) := [(0, 1), (1, 1), (2, 1), (3, 1), (4, 1), (5, 1), (6, 1), (7, 18), (8, 18), (9, 1), (10, 1), (11, 1), (12, 1), (13, 2), (14, 4), (15, 2), (16, 2), (17, 2), (18, 2), (19, 2), (20, 2), (21, 2), (22, 2), (23, 2), (24, 2), (25, 2), (26, 2), (27, 2)]
def xCL : List (Nat × Nat) := fw_cl xcnt
def xkd : fw_K := fun c i => match c with
  | 0 => .inr (0, [some (1, 0), some (5, 0), some (9, 0), some (11, 0), some (12, 0), none, none, none, none])
  | 1 => .inr (1, [some (2, 0), some (3, 0), some (4, 0)])
  | 2 => .inl (0, 8, none)
  | 3 => .inl (0, 8, none)
  | 4 => .inl (1, 8, none)
  | 5 => .inr (3, [some (6, 0), some (7, 17), none, none, none])
  | 6 => .inl (2, 17, some (true, 7))
  | 7 => .inr (2, [none, none, none, none, some (8, i)])
  | 8 => .inl (0, 7, none)
  | 9 => .inr (5, [some (10, 0), none])
  | 10 => .inl (0, 8, none)
  | 11 => .inl (3, 2, some (false, 13))
  | 12 => .inl (4, 2, some (false, 19))
  | 13 => .inr (7, [none, some (1, 0), some (5, 0), some (9, 0), some (14, i), none, some (15, i), some (16, i), some (17, i), some (18, i), none, none, none, none, none, none, none, none, none, none])
  | 14 => .inr (4, [none, none])
  | 15 => .inl (0, 3, none)
  | 16 => .inl (0, 3, none)
  | 17 => .inl (0, 6, none)
  | 18 => .inl (0, 6, none)
  | 19 => .inr (8, [none, some (1, 0), some (5, 0), some (14, i + 2), some (20, i), none, none, none, some (23, i), some (24, i), some (25, i), none, none, some (26, i), some (27, i), none, none, none, none])
  | 20 => .inr (6, [some (21, i), some (22, i), none, none, none, none])
  | 21 => .inl (0, 4, none)
  | 22 => .inl (0, 4, none)
  | 23 => .inl (0, 3, none)
  | 24 => .inl (0, 6, none)
  | 25 => .inl (0, 6, none)
  | 26 => .inl (0, 3, none)
  | 27 => .inl (0, 3, none)
  | _ => .inr (0, [])
theorem xk_0 (i : Nat) : xkd 0 i = .inr (0, [some (1, 0), some (5, 0), some (9, 0), some (11, 0), some (12, 0), none, none, none, none]) := rfl
theorem xk_1 (i : Nat) : xkd 1 i = .inr (1, [some (2, 0), some (3, 0), some (4, 0)]) := rfl
theorem xk_2 (i : Nat) : xkd 2 i = .inl (0, 8, none) := rfl
theorem xk_3 (i : Nat) : xkd 3 i = .inl (0, 8, none) := rfl
theorem xk_4 (i : Nat) : xkd 4 i = .inl (1, 8, none) := rfl
theorem xk_5 (i : Nat) : xkd 5 i = .inr (3, [some (6, 0), some (7, 17), none, none, none]) := rfl
theorem xk_6 (i : Nat) : xkd 6 i = .inl (2, 17, some (true, 7)) := rfl
theorem xk_7 (i : Nat) : xkd 7 i = .inr (2, [none, none, none, none, some (8, i)]) := rfl
theorem xk_8 (i : Nat) : xkd 8 i = .inl (0, 7, none) := rfl
theorem xk_9 (i : Nat) : xkd 9 i = .inr (5, [some (10, 0), none]) := rfl
theorem xk_10 (i : Nat) : xkd 10 i = .inl (0, 8, none) := rfl
theorem xk_11 (i : Nat) : xkd 11 i = .inl (3, 2, some (false, 13)) := rfl
theorem xk_12 (i : Nat) : xkd 12 i = .inl (4, 2, some (false, 19)) := rfl
theorem xk_13 (i : Nat) : xkd 13 i = .inr (7, [none, some (1, 0), some (5, 0), some (9, 0), some (14, i), none, some (15, i), some (16, i), some (17, i), some (18, i), none, none, none, none, none, none, none, none, none, none]) := rfl
theorem xk_14 (i : Nat) : xkd 14 i = .inr (4, [none, none]) := rfl
theorem xk_15 (i : Nat) : xkd 15 i = .inl (0, 3, none) := rfl
theorem xk_16 (i : Nat) : xkd 16 i = .inl (0, 3, none) := rfl
theorem xk_17 (i : Nat) : xkd 17 i = .inl (0, 6, none) := rfl
theorem xk_18 (i : Nat) : xkd 18 i = .inl (0, 6, none) := rfl
theorem xk_19 (i : Nat) : xkd 19 i = .inr (8, [none, some (1, 0), some (5, 0), some (14, i + 2), some (20, i), none, none, none, some (23, i), some (24, i), some (25, i), none, none, some (26, i), some (27, i), none, none, none, none]) := rfl
theorem xk_20 (i : Nat) : xkd 20 i = .inr (6, [some (21, i), some (22, i), none, none, none, none]) := rfl
theorem xk_21 (i : Nat) : xkd 21 i = .inl (0, 4, none) := rfl
theorem xk_22 (i : Nat) : xkd 22 i = .inl (0, 4, none) := rfl
theorem xk_23 (i : Nat) : xkd 23 i = .inl (0, 3, none) := rfl
theorem xk_24 (i : Nat) : xkd 24 i = .inl (0, 6, none) := rfl
theorem xk_25 (i : Nat) : xkd 25 i = .inl (0, 6, none) := rfl
theorem xk_26 (i : Nat) : xkd 26 i = .inl (0, 3, none) := rfl
theorem xk_27 (i : Nat) : xkd 27 i = .inl (0, 3, none) := rfl
theorem xm_0 {i : Nat} (h : i < 1) : (0, i) ∈ xCL := fw_mem (L := xcnt) (n := 1) (by decide) h
theorem xm_1 {i : Nat} (h : i < 1) : (1, i) ∈ xCL := fw_mem (L := xcnt) (n := 1) (by decide) h
theorem xm_2 {i : Nat} (h : i < 1) : (2, i) ∈ xCL := fw_mem (L := xcnt) (n := 1) (by decide) h
theorem xm_3 {i : Nat} (h : i < 1) : (3, i) ∈ xCL := fw_mem (L := xcnt) (n := 1) (by decide) h
theorem xm_4 {i : Nat} (h : i < 1) : (4, i) ∈ xCL := fw_mem (L := xcnt) (n := 1) (by decide) h
theorem xm_5 {i : Nat} (h : i < 1) : (5, i) ∈ xCL := fw_mem (L := xcnt) (n := 1) (by decide) h
theorem xm_6 {i : Nat} (h : i < 1) : (6, i) ∈ xCL := fw_mem (L := xcnt) (n := 1) (by decide) h
theorem xm_7 {i : Nat} (h : i < 18) : (7, i) ∈ xCL := fw_mem (L := xcnt) (n := 18) (by decide) h
theorem xm_8 {i : Nat} (h : i < 18) : (8, i) ∈ xCL := fw_mem (L := xcnt) (n := 18) (by decide) h
theorem xm_9 {i : Nat} (h : i < 1) : (9, i) ∈ xCL := fw_mem (L := xcnt) (n := 1) (by decide) h
theorem xm_10 {i : Nat} (h : i < 1) : (10, i) ∈ xCL := fw_mem (L := xcnt) (n := 1) (by decide) h
theorem xm_11 {i : Nat} (h : i < 1) : (11, i) ∈ xCL := fw_mem (L := xcnt) (n := 1) (by decide) h
theorem xm_12 {i : Nat} (h : i < 1) : (12, i) ∈ xCL := fw_mem (L := xcnt) (n := 1) (by decide) h
theorem xm_13 {i : Nat} (h : i < 2) : (13, i) ∈ xCL := fw_mem (L := xcnt) (n := 2) (by decide) h
theorem xm_14 {i : Nat} (h : i < 4) : (14, i) ∈ xCL := fw_mem (L := xcnt) (n := 4) (by decide) h
theorem xm_15 {i : Nat} (h : i < 2) : (15, i) ∈ xCL := fw_mem (L := xcnt) (n := 2) (by decide) h
theorem xm_16 {i : Nat} (h : i < 2) : (16, i) ∈ xCL := fw_mem (L := xcnt) (n := 2) (by decide) h
theorem xm_17 {i : Nat} (h : i < 2) : (17, i) ∈ xCL := fw_mem (L := xcnt) (n := 2) (by decide) h
theorem xm_18 {i : Nat} (h : i < 2) : (18, i) ∈ xCL := fw_mem (L := xcnt) (n := 2) (by decide) h
theorem xm_19 {i : Nat} (h : i < 2) : (19, i) ∈ xCL := fw_mem (L := xcnt) (n := 2) (by decide) h
theorem xm_20 {i : Nat} (h : i < 2) : (20, i) ∈ xCL := fw_mem (L := xcnt) (n := 2) (by decide) h
theorem xm_21 {i : Nat} (h : i < 2) : (21, i) ∈ xCL := fw_mem (L := xcnt) (n := 2) (by decide) h
theorem xm_22 {i : Nat} (h : i < 2) : (22, i) ∈ xCL := fw_mem (L := xcnt) (n := 2) (by decide) h
theorem xm_23 {i : Nat} (h : i < 2) : (23, i) ∈ xCL := fw_mem (L := xcnt) (n := 2) (by decide) h
theorem xm_24 {i : Nat} (h : i < 2) : (24, i) ∈ xCL := fw_mem (L := xcnt) (n := 2) (by decide) h
theorem xm_25 {i : Nat} (h : i < 2) : (25, i) ∈ xCL := fw_mem (L := xcnt) (n := 2) (by decide) h
theorem xm_26 {i : Nat} (h : i < 2) : (26, i) ∈ xCL := fw_mem (L := xcnt) (n := 2) (by decide) h
theorem xm_27 {i : Nat} (h : i < 2) : (27, i) ∈ xCL := fw_mem (L := xcnt) (n := 2) (by decide) h
theorem xCL_nd : xCL.Nodup := by decide +kernel
/-- what each int of the class's cells keeps to: b bounds the alarms told -/
def xok1 (b c k : Nat) (x : Int32) : Prop := match c with
  | 2 => vp_in x 3
  | 3 => vp_in x 3
  | 5 => (match k with
    | 2 => vp_in x 17
    | _ => True)
  | 6 => vp_in x 18
  | 9 => (match k with
    | 1 => 0 ≤ x.toInt ∧ x.toInt ≤ (b : Int)
    | _ => True)
  | 13 => (match k with
    | 17 => vp_in x 3
    | _ => True)
  | 20 => (match k with
    | 2 => vp_in x 5
    | _ => True)
  | _ => True
def xok2 (v : fw_V) (c i k : Nat) (x : Int32) : Prop := match c with
  | 20 => (match k with
    | 2 => v 20 i 3 = 0 ∨ 0 < x.toInt
    | 3 => x = 0 ∨ 0 < (v 20 i 2).toInt
    | _ => True)
  | _ => True
def xI (b : Nat) (v : fw_V) : Prop := (∀ c i k, xok1 b c k (v c i k)) ∧ ∀ i, v 20 i 3 = 0 ∨ 0 < (v 20 i 2).toInt
theorem xI_up {b : Nat} {v : fw_V} {c i k : Nat} {x : Int32} (h : xI b v) (ok1 : xok1 b c k x) (ok2 : xok2 v c i k x) : xI b (fw_up v c i k x) := by
  refine ⟨fun c' i' k' => ?_, fun i' => ?_⟩
  · by_cases hh : c' = c ∧ i' = i ∧ k' = k
    · obtain ⟨rfl, rfl, rfl⟩ := hh
      rw [fw_up_s]; exact ok1
    · rw [fw_up_ne hh]; exact h.1 c' i' k'
  · by_cases h2 : 20 = c ∧ i' = i ∧ 2 = k
    · obtain ⟨rfl, rfl, rfl⟩ := h2
      rw [fw_up_s, fw_up_k (by decide)]; exact ok2
    · rw [fw_up_ne h2]
      by_cases h3 : 20 = c ∧ i' = i ∧ 3 = k
      · obtain ⟨rfl, rfl, rfl⟩ := h3
        rw [fw_up_s]; exact ok2
      · rw [fw_up_ne h3]; exact h.2 i'
theorem xI_row {b : Nat} {v : fw_V} {c i : Nat} {g : Nat → Int32} (h : xI b v) (ok1 : ∀ k, xok1 b c k (g k)) (hc : c ≠ 20) : xI b (fw_row v c i g) := by
  refine ⟨fun c' i' k' => ?_, fun i' => ?_⟩
  · by_cases hh : c' = c ∧ i' = i
    · obtain ⟨rfl, rfl⟩ := hh
      rw [fw_row_s]; exact ok1 k'
    · rw [fw_row_ne hh]; exact h.1 c' i' k'
  · rw [fw_row_c (Ne.symm hc), fw_row_c (Ne.symm hc)]; exact h.2 i'
theorem xI_mono {b b' : Nat} {v : fw_V} (h : xI b v) (hb : b ≤ b') : xI b' v := by
  refine ⟨fun c i k => ?_, h.2⟩
  have h1 := h.1 c i k
  by_cases h9 : c = 9 ∧ k = 1
  · obtain ⟨rfl, rfl⟩ := h9
    have h2 : 0 ≤ (v 9 i 1).toInt ∧ (v 9 i 1).toInt ≤ (b : Int) := h1
    show 0 ≤ (v 9 i 1).toInt ∧ (v 9 i 1).toInt ≤ (b' : Int)
    omega
  · unfold xok1 at h1 ⊢
    split at h1 <;> first | exact h1 | skip
    split at h1 <;> first | exact h1 | skip
    exact absurd ⟨rfl, rfl⟩ h9
theorem xI_told {b : Nat} {v : fw_V} (h : xI b v) (hb : b < 2000) : xI (b + 1) (fw_up v 9 0 1 (v 9 0 1 + 1)) := by
  have h1 : 0 ≤ (v 9 0 1).toInt ∧ (v 9 0 1).toInt ≤ (b : Int) := h.1 9 0 1
  obtain ⟨j, hj, e, ej⟩ := fw_nI h1.1
  refine xI_up (xI_mono h (Nat.le_succ b)) ?_ trivial
  show 0 ≤ (v 9 0 1 + 1).toInt ∧ (v 9 0 1 + 1).toInt ≤ ((b + 1 : Nat) : Int)
  have e2 : (v 9 0 1 + 1).toInt = (v 9 0 1).toInt + 1 := by rw [ej, e, nI_1, nI_toInt (by omega)]; omega
  omega
theorem xI_clear {b : Nat} {v : fw_V} {r : Nat} (h : xI b v) : xI b (fw_up (fw_up v 20 r 2 0) 20 r 3 0) := by
  refine ⟨fun c' i' k' => ?_, fun i' => ?_⟩
  · by_cases h3 : c' = 20 ∧ i' = r ∧ k' = 3
    · obtain ⟨rfl, rfl, rfl⟩ := h3
      exact trivial
    · rw [fw_up_ne h3]
      by_cases h2 : c' = 20 ∧ i' = r ∧ k' = 2
      · obtain ⟨rfl, rfl, rfl⟩ := h2
        rw [fw_up_s]
        exact fw_inc (by decide)
      · rw [fw_up_ne h2]; exact h.1 c' i' k'
  · by_cases hi : i' = r
    · subst hi
      rw [fw_up_s]; exact Or.inl rfl
    · rw [fw_up_i hi, fw_up_i hi, fw_up_i hi, fw_up_i hi]; exact h.2 i'

