theorem LI_AL : Cond.instantiable R_AL 2 ∈ vTB := vTB_in 102 (by decide +kernel) rfl
theorem LI_AQ : Cond.instantiable R_AQ 6 ∈ vTB := vTB_in 211 (by decide +kernel) rfl
theorem LI_Cy : Cond.instantiable R_Cy 2 ∈ vTB := vTB_in 125 (by decide +kernel) rfl
theorem LI_De : Cond.instantiable R_De 19 ∈ vTB := vTB_in 203 (by decide +kernel) rfl
theorem LI_Fm : Cond.instantiable R_Fm 5 ∈ vTB := vTB_in 51 (by decide +kernel) rfl
theorem LI_KT : Cond.instantiable R_KT 3 ∈ vTB := vTB_in 23 (by decide +kernel) rfl
theorem LI_Re : Cond.instantiable R_Re 20 ∈ vTB := vTB_in 119 (by decide +kernel) rfl
theorem LI_Wi : Cond.instantiable R_Wi 5 ∈ vTB := vTB_in 44 (by decide +kernel) rfl
theorem LC_FR_9 : Cond.classLink R_FR 9 R_KT ∈ vTB := vTB_in 22 (by decide +kernel) rfl
theorem LC_FR_16 : Cond.classLink R_FR 16 R_Wi ∈ vTB := vTB_in 43 (by decide +kernel) rfl
theorem LC_FR_23 : Cond.classLink R_FR 23 R_AL ∈ vTB := vTB_in 101 (by decide +kernel) rfl
theorem LC_FR_30 : Cond.classLink R_FR 30 R_Re ∈ vTB := vTB_in 115 (by decide +kernel) rfl
theorem LC_FR_36 : Cond.classLink R_FR 36 R_De ∈ vTB := vTB_in 117 (by decide +kernel) rfl
theorem LC_De_9 : Cond.classLink R_De 9 R_Cy ∈ vTB := vTB_in 208 (by decide +kernel) rfl
theorem LC_De_18 : Cond.classLink R_De 18 R_AQ ∈ vTB := vTB_in 210 (by decide +kernel) rfl
theorem LC_Re_9 : Cond.classLink R_Re 9 R_Cy ∈ vTB := vTB_in 124 (by decide +kernel) rfl
theorem LC_Wi_9 : Cond.classLink R_Wi 9 R_Fm ∈ vTB := vTB_in 49 (by decide +kernel) rfl
theorem L_FR_3 : (Jvm.Cond.methodLink "FieldRelay" (3 : Nat) ({ cls := "java/lang/Object", name := "<init>", desc := "()V" } : Jvm.MethodName)) ∈ vTB := vTB_in 19 (by decide +kernel) rfl
theorem L_FR_11 : (Jvm.Cond.methodLink "FieldRelay" (11 : Nat) ({ cls := "FieldRelay$KindTable", name := "<init>", desc := "()V" } : Jvm.MethodName)) ∈ vTB := vTB_in 24 (by decide +kernel) rfl
theorem L_FR_18 : (Jvm.Cond.methodLink "FieldRelay" (18 : Nat) ({ cls := "FieldRelay$Wire", name := "<init>", desc := "()V" } : Jvm.MethodName)) ∈ vTB := vTB_in 45 (by decide +kernel) rfl
theorem L_FR_25 : (Jvm.Cond.methodLinkNest "FieldRelay" (25 : Nat) ({ cls := "FieldRelay$AlarmLog", name := "<init>", desc := "()V" } : Jvm.MethodName) "FieldRelay") ∈ vNL := List.mem_of_getElem? (i := 1) rfl
theorem L_FR_42 : (Jvm.Cond.methodLink "FieldRelay" (42 : Nat) ({ cls := "FieldRelay$Relation", name := "<init>", desc := "(ILFieldRelay$KindTable;LFieldRelay$Wire;LFieldRelay$AlarmLog;)V" } : Jvm.MethodName)) ∈ vTB := vTB_in 120 (by decide +kernel) rfl
theorem L_FR_45 : (Jvm.Cond.methodLink "FieldRelay" (45 : Nat) ({ cls := "FieldRelay$Device", name := "<init>", desc := "(ILFieldRelay$KindTable;LFieldRelay$Wire;)V" } : Jvm.MethodName)) ∈ vTB := vTB_in 204 (by decide +kernel) rfl
theorem L_AL_3 : (Jvm.Cond.methodLink "FieldRelay$AlarmLog" (3 : Nat) ({ cls := "java/lang/Object", name := "<init>", desc := "()V" } : Jvm.MethodName)) ∈ vTB := vTB_in 106 (by decide +kernel) rfl
theorem L_AQ_1 : (Jvm.Cond.methodLink "FieldRelay$AlarmQueue" (1 : Nat) ({ cls := "java/lang/Object", name := "<init>", desc := "()V" } : Jvm.MethodName)) ∈ vTB := vTB_in 215 (by decide +kernel) rfl
theorem L_Cy_3 : (Jvm.Cond.methodLink "FieldRelay$Cycle" (3 : Nat) ({ cls := "java/lang/Object", name := "<init>", desc := "()V" } : Jvm.MethodName)) ∈ vTB := vTB_in 129 (by decide +kernel) rfl
theorem L_De_3 : (Jvm.Cond.methodLink "FieldRelay$Device" (3 : Nat) ({ cls := "java/lang/Object", name := "<init>", desc := "()V" } : Jvm.MethodName)) ∈ vTB := vTB_in 207 (by decide +kernel) rfl
theorem L_De_11 : (Jvm.Cond.methodLinkNest "FieldRelay$Device" (11 : Nat) ({ cls := "FieldRelay$Cycle", name := "<init>", desc := "()V" } : Jvm.MethodName) "FieldRelay") ∈ vNL := List.mem_of_getElem? (i := 3) rfl
theorem L_De_20 : (Jvm.Cond.methodLinkNest "FieldRelay$Device" (20 : Nat) ({ cls := "FieldRelay$AlarmQueue", name := "<init>", desc := "()V" } : Jvm.MethodName) "FieldRelay") ∈ vNL := List.mem_of_getElem? (i := 4) rfl
theorem L_Fm_3 : (Jvm.Cond.methodLink "FieldRelay$Frame" (3 : Nat) ({ cls := "java/lang/Object", name := "<init>", desc := "()V" } : Jvm.MethodName)) ∈ vTB := vTB_in 55 (by decide +kernel) rfl
theorem L_KT_3 : (Jvm.Cond.methodLink "FieldRelay$KindTable" (3 : Nat) ({ cls := "java/lang/Object", name := "<init>", desc := "()V" } : Jvm.MethodName)) ∈ vTB := vTB_in 27 (by decide +kernel) rfl
theorem L_KT_22 : (Jvm.Cond.methodLink "FieldRelay$KindTable" (22 : Nat) ({ cls := "java/util/Arrays", name := "fill", desc := "([II)V" } : Jvm.MethodName)) ∈ vTB := vTB_in 28 (by decide +kernel) rfl
theorem L_Re_3 : (Jvm.Cond.methodLink "FieldRelay$Relation" (3 : Nat) ({ cls := "java/lang/Object", name := "<init>", desc := "()V" } : Jvm.MethodName)) ∈ vTB := vTB_in 123 (by decide +kernel) rfl
theorem L_Re_11 : (Jvm.Cond.methodLinkNest "FieldRelay$Relation" (11 : Nat) ({ cls := "FieldRelay$Cycle", name := "<init>", desc := "()V" } : Jvm.MethodName) "FieldRelay") ∈ vNL := List.mem_of_getElem? (i := 2) rfl
theorem L_Wi_1 : (Jvm.Cond.methodLink "FieldRelay$Wire" (1 : Nat) ({ cls := "java/lang/Object", name := "<init>", desc := "()V" } : Jvm.MethodName)) ∈ vTB := vTB_in 48 (by decide +kernel) rfl
theorem L_Wi_15 : (Jvm.Cond.methodLinkNest "FieldRelay$Wire" (15 : Nat) ({ cls := "FieldRelay$Frame", name := "<init>", desc := "()V" } : Jvm.MethodName) "FieldRelay") ∈ vNL := List.mem_of_getElem? (i := 0) rfl

def xp_Cy (cA : Nat → ClassId) (h0 : Nat)  (u : Nat → Nat) : va_W := [(h0, .inr (4, [.int 0, .int (-1 : Int32)]))]
abbrev xb_Cy_init : ByteArray := prog_4_method_1_code
def xy_Cy_init : MethodName := ⟨R_Cy, "<init>", "()V"⟩
abbrev xrm_Cy_init : Room := { frames := 1, cells := 0, slots := 0, locals := 12 }
theorem xK_Cy_init : Cond.code xy_Cy_init xb_Cy_init 1 none ∈ vTB := vTB_in 128 (by decide +kernel) rfl
theorem xI_Cy_init : Cond.instanceMethod xy_Cy_init ∈ vTB := vTB_in 127 (by decide +kernel) rfl
theorem xw_Cy_init {R : Room} {s : State} {args : Array Value} {own : String} {index : Nat} (hts : ∀ w ∈ vTB, w.before args s = true) (hl : Cond.methodLink own index xy_Cy_init ∈ vTB) (hR : xrm_Cy_init.frames + 1 ≤ R.frames ∧ 8 + (1 + 11) + xrm_Cy_init.locals ≤ R.locals) : CallB R s args own index xy_Cy_init xb_Cy_init 1 none (Cond.code xy_Cy_init xb_Cy_init 1 none :: vTB) xrm_Cy_init 0 0 0 ∧ xy_Cy_init.name = "<init>" ∧ (Cond.instanceMethod xy_Cy_init).before args s = true := cwI 0 hts (fw_gI vTB_good xK_Cy_init) rfl rfl rfl (hts _ N_Cy) (hts _ hl) (hts _ xI_Cy_init) rfl (by decide +kernel) hR
theorem xwn_Cy_init {R : Room} {s : State} {args : Array Value} {own host : String} {index : Nat} (hts : ∀ w ∈ vTB, w.before args s = true) (hl : va_Nw (.methodLinkNest own index xy_Cy_init host) s) (hR : xrm_Cy_init.frames + 1 ≤ R.frames ∧ 8 + (1 + 11) + xrm_Cy_init.locals ≤ R.locals) : va_CN R s args own index xy_Cy_init host xb_Cy_init 1 none (Cond.code xy_Cy_init xb_Cy_init 1 none :: vTB) xrm_Cy_init 0 0 0 ∧ xy_Cy_init.name = "<init>" ∧ (Cond.instanceMethod xy_Cy_init).before args s = true := ⟨va_cnB 0 hts (fw_gI vTB_good xK_Cy_init) rfl rfl rfl hl (hts _ N_Cy) (by decide +kernel) hR, rfl, hts _ xI_Cy_init⟩
theorem xd_Cy_init_0 : decode xb_Cy_init 0 = .ok (.aload_n 0, 1) := by decide +kernel
theorem xd_Cy_init_1 : decode xb_Cy_init 1 = .ok (.invokespecial 3, 3) := by decide +kernel
theorem xd_Cy_init_4 : decode xb_Cy_init 4 = .ok (.aload_n 0, 1) := by decide +kernel
theorem xd_Cy_init_5 : decode xb_Cy_init 5 = .ok (.iconst (-1), 1) := by decide +kernel
theorem xd_Cy_init_6 : decode xb_Cy_init 6 = .ok (.putfield 11, 3) := by decide +kernel
theorem xd_Cy_init_9 : decode xb_Cy_init 9 = .ok (.return_, 1) := by decide +kernel
def xp_Fm (cA : Nat → ClassId) (h0 : Nat)  (u : Nat → Nat) : va_W := [(h0, .inr (2, [.int 0, .int 0, .int 0, .int 0, .ref (u 0)])), ((u 0), .inl (cA 0, 7, .inl (fun _ => 0)))]
abbrev xb_Fm_init : ByteArray := prog_6_method_1_code
def xy_Fm_init : MethodName := ⟨R_Fm, "<init>", "()V"⟩
abbrev xrm_Fm_init : Room := { frames := 1, cells := 1, slots := 7, locals := 12 }
theorem xK_Fm_init : Cond.code xy_Fm_init xb_Fm_init 1 none ∈ vTB := vTB_in 54 (by decide +kernel) rfl
theorem xI_Fm_init : Cond.instanceMethod xy_Fm_init ∈ vTB := vTB_in 53 (by decide +kernel) rfl
theorem xw_Fm_init {R : Room} {s : State} {args : Array Value} {own : String} {index : Nat} (hts : ∀ w ∈ vTB, w.before args s = true) (hl : Cond.methodLink own index xy_Fm_init ∈ vTB) (hR : xrm_Fm_init.frames + 1 ≤ R.frames ∧ 8 + (1 + 11) + xrm_Fm_init.locals ≤ R.locals) : CallB R s args own index xy_Fm_init xb_Fm_init 1 none (Cond.code xy_Fm_init xb_Fm_init 1 none :: vTB) xrm_Fm_init 1 7 0 ∧ xy_Fm_init.name = "<init>" ∧ (Cond.instanceMethod xy_Fm_init).before args s = true := cwI 0 hts (fw_gI vTB_good xK_Fm_init) rfl rfl rfl (hts _ N_Fm) (hts _ hl) (hts _ xI_Fm_init) rfl (by decide +kernel) hR
theorem xwn_Fm_init {R : Room} {s : State} {args : Array Value} {own host : String} {index : Nat} (hts : ∀ w ∈ vTB, w.before args s = true) (hl : va_Nw (.methodLinkNest own index xy_Fm_init host) s) (hR : xrm_Fm_init.frames + 1 ≤ R.frames ∧ 8 + (1 + 11) + xrm_Fm_init.locals ≤ R.locals) : va_CN R s args own index xy_Fm_init host xb_Fm_init 1 none (Cond.code xy_Fm_init xb_Fm_init 1 none :: vTB) xrm_Fm_init 1 7 0 ∧ xy_Fm_init.name = "<init>" ∧ (Cond.instanceMethod xy_Fm_init).before args s = true := ⟨va_cnB 0 hts (fw_gI vTB_good xK_Fm_init) rfl rfl rfl hl (hts _ N_Fm) (by decide +kernel) hR, rfl, hts _ xI_Fm_init⟩
theorem xd_Fm_init_0 : decode xb_Fm_init 0 = .ok (.aload_n 0, 1) := by decide +kernel
theorem xd_Fm_init_1 : decode xb_Fm_init 1 = .ok (.invokespecial 3, 3) := by decide +kernel
theorem xd_Fm_init_4 : decode xb_Fm_init 4 = .ok (.aload_n 0, 1) := by decide +kernel
theorem xd_Fm_init_5 : decode xb_Fm_init 5 = .ok (.bipush 7, 2) := by decide +kernel
theorem xd_Fm_init_7 : decode xb_Fm_init 7 = .ok (.newarray .int, 2) := by decide +kernel
theorem xd_Fm_init_9 : decode xb_Fm_init 9 = .ok (.putfield 11, 3) := by decide +kernel
theorem xd_Fm_init_12 : decode xb_Fm_init 12 = .ok (.return_, 1) := by decide +kernel
def xp_AL (cA : Nat → ClassId) (h0 : Nat)  (u : Nat → Nat) : va_W := [(h0, .inr (5, [.ref (u 0), .int 0])), ((u 0), .inl (cA 0, 8, .inl (fun _ => 0)))]
abbrev xb_AL_init : ByteArray := prog_2_method_1_code
def xy_AL_init : MethodName := ⟨R_AL, "<init>", "()V"⟩
abbrev xrm_AL_init : Room := { frames := 1, cells := 1, slots := 8, locals := 12 }
theorem xK_AL_init : Cond.code xy_AL_init xb_AL_init 1 none ∈ vTB := vTB_in 105 (by decide +kernel) rfl
theorem xI_AL_init : Cond.instanceMethod xy_AL_init ∈ vTB := vTB_in 104 (by decide +kernel) rfl
theorem xw_AL_init {R : Room} {s : State} {args : Array Value} {own : String} {index : Nat} (hts : ∀ w ∈ vTB, w.before args s = true) (hl : Cond.methodLink own index xy_AL_init ∈ vTB) (hR : xrm_AL_init.frames + 1 ≤ R.frames ∧ 8 + (1 + 11) + xrm_AL_init.locals ≤ R.locals) : CallB R s args own index xy_AL_init xb_AL_init 1 none (Cond.code xy_AL_init xb_AL_init 1 none :: vTB) xrm_AL_init 1 8 0 ∧ xy_AL_init.name = "<init>" ∧ (Cond.instanceMethod xy_AL_init).before args s = true := cwI 0 hts (fw_gI vTB_good xK_AL_init) rfl rfl rfl (hts _ N_AL) (hts _ hl) (hts _ xI_AL_init) rfl (by decide +kernel) hR
theorem xwn_AL_init {R : Room} {s : State} {args : Array Value} {own host : String} {index : Nat} (hts : ∀ w ∈ vTB, w.before args s = true) (hl : va_Nw (.methodLinkNest own index xy_AL_init host) s) (hR : xrm_AL_init.frames + 1 ≤ R.frames ∧ 8 + (1 + 11) + xrm_AL_init.locals ≤ R.locals) : va_CN R s args own index xy_AL_init host xb_AL_init 1 none (Cond.code xy_AL_init xb_AL_init 1 none :: vTB) xrm_AL_init 1 8 0 ∧ xy_AL_init.name = "<init>" ∧ (Cond.instanceMethod xy_AL_init).before args s = true := ⟨va_cnB 0 hts (fw_gI vTB_good xK_AL_init) rfl rfl rfl hl (hts _ N_AL) (by decide +kernel) hR, rfl, hts _ xI_AL_init⟩
theorem xd_AL_init_0 : decode xb_AL_init 0 = .ok (.aload_n 0, 1) := by decide +kernel
theorem xd_AL_init_1 : decode xb_AL_init 1 = .ok (.invokespecial 3, 3) := by decide +kernel
theorem xd_AL_init_4 : decode xb_AL_init 4 = .ok (.aload_n 0, 1) := by decide +kernel
theorem xd_AL_init_5 : decode xb_AL_init 5 = .ok (.bipush 8, 2) := by decide +kernel
theorem xd_AL_init_7 : decode xb_AL_init 7 = .ok (.newarray .int, 2) := by decide +kernel
theorem xd_AL_init_9 : decode xb_AL_init 9 = .ok (.putfield 11, 3) := by decide +kernel
theorem xd_AL_init_12 : decode xb_AL_init 12 = .ok (.return_, 1) := by decide +kernel
def xp_AQ (cA : Nat → ClassId) (h0 : Nat)  (u : Nat → Nat) : va_W := [(h0, .inr (6, [.ref (u 0), .ref (u 1), .int 0, .int 0, .int 0, .int 0])), ((u 0), .inl (cA 0, 4, .inl (fun _ => 0))), ((u 1), .inl (cA 0, 4, .inl (fun _ => 0)))]
abbrev xb_AQ_init : ByteArray := prog_3_method_1_code
def xy_AQ_init : MethodName := ⟨R_AQ, "<init>", "()V"⟩
abbrev xrm_AQ_init : Room := { frames := 1, cells := 2, slots := 8, locals := 12 }
theorem xK_AQ_init : Cond.code xy_AQ_init xb_AQ_init 1 none ∈ vTB := vTB_in 214 (by decide +kernel) rfl
theorem xI_AQ_init : Cond.instanceMethod xy_AQ_init ∈ vTB := vTB_in 213 (by decide +kernel) rfl
theorem xw_AQ_init {R : Room} {s : State} {args : Array Value} {own : String} {index : Nat} (hts : ∀ w ∈ vTB, w.before args s = true) (hl : Cond.methodLink own index xy_AQ_init ∈ vTB) (hR : xrm_AQ_init.frames + 1 ≤ R.frames ∧ 8 + (1 + 11) + xrm_AQ_init.locals ≤ R.locals) : CallB R s args own index xy_AQ_init xb_AQ_init 1 none (Cond.code xy_AQ_init xb_AQ_init 1 none :: vTB) xrm_AQ_init 2 8 0 ∧ xy_AQ_init.name = "<init>" ∧ (Cond.instanceMethod xy_AQ_init).before args s = true := cwI 0 hts (fw_gI vTB_good xK_AQ_init) rfl rfl rfl (hts _ N_AQ) (hts _ hl) (hts _ xI_AQ_init) rfl (by decide +kernel) hR
theorem xwn_AQ_init {R : Room} {s : State} {args : Array Value} {own host : String} {index : Nat} (hts : ∀ w ∈ vTB, w.before args s = true) (hl : va_Nw (.methodLinkNest own index xy_AQ_init host) s) (hR : xrm_AQ_init.frames + 1 ≤ R.frames ∧ 8 + (1 + 11) + xrm_AQ_init.locals ≤ R.locals) : va_CN R s args own index xy_AQ_init host xb_AQ_init 1 none (Cond.code xy_AQ_init xb_AQ_init 1 none :: vTB) xrm_AQ_init 2 8 0 ∧ xy_AQ_init.name = "<init>" ∧ (Cond.instanceMethod xy_AQ_init).before args s = true := ⟨va_cnB 0 hts (fw_gI vTB_good xK_AQ_init) rfl rfl rfl hl (hts _ N_AQ) (by decide +kernel) hR, rfl, hts _ xI_AQ_init⟩
theorem xd_AQ_init_0 : decode xb_AQ_init 0 = .ok (.aload_n 0, 1) := by decide +kernel
theorem xd_AQ_init_1 : decode xb_AQ_init 1 = .ok (.invokespecial 1, 3) := by decide +kernel
theorem xd_AQ_init_4 : decode xb_AQ_init 4 = .ok (.aload_n 0, 1) := by decide +kernel
theorem xd_AQ_init_5 : decode xb_AQ_init 5 = .ok (.iconst 4, 1) := by decide +kernel
theorem xd_AQ_init_6 : decode xb_AQ_init 6 = .ok (.newarray .int, 2) := by decide +kernel
theorem xd_AQ_init_8 : decode xb_AQ_init 8 = .ok (.putfield 9, 3) := by decide +kernel
theorem xd_AQ_init_11 : decode xb_AQ_init 11 = .ok (.aload_n 0, 1) := by decide +kernel
theorem xd_AQ_init_12 : decode xb_AQ_init 12 = .ok (.iconst 4, 1) := by decide +kernel
theorem xd_AQ_init_13 : decode xb_AQ_init 13 = .ok (.newarray .int, 2) := by decide +kernel
theorem xd_AQ_init_15 : decode xb_AQ_init 15 = .ok (.putfield 13, 3) := by decide +kernel
theorem xd_AQ_init_18 : decode xb_AQ_init 18 = .ok (.return_, 1) := by decide +kernel
def xp_KT (cA : Nat → ClassId) (h0 : Nat)  (u : Nat → Nat) : va_W := [(h0, .inr (1, [.ref (u 1), .ref (u 2), .ref (u 0)])), ((u 0), .inl (cA 1, 8, .inl (fun _ => 0))), ((u 1), .inl (cA 0, 8, .inl (fun _ => (1 : Int32)))), ((u 2), .inl (cA 0, 8, .inl (fun _ => (1 : Int32))))]
abbrev xb_KT_init : ByteArray := prog_7_method_1_code
def xy_KT_init : MethodName := ⟨R_KT, "<init>", "()V"⟩
abbrev xrm_KT_init : Room := { frames := 1, cells := 3, slots := 24, locals := 23 }
theorem xK_KT_init : Cond.code xy_KT_init xb_KT_init 1 none ∈ vTB := vTB_in 26 (by decide +kernel) rfl
theorem xI_KT_init : Cond.instanceMethod xy_KT_init ∈ vTB := vTB_in 25 (by decide +kernel) rfl
theorem xw_KT_init {R : Room} {s : State} {args : Array Value} {own : String} {index : Nat} (hts : ∀ w ∈ vTB, w.before args s = true) (hl : Cond.methodLink own index xy_KT_init ∈ vTB) (hR : xrm_KT_init.frames + 1 ≤ R.frames ∧ 8 + (1 + 11) + xrm_KT_init.locals ≤ R.locals) : CallB R s args own index xy_KT_init xb_KT_init 1 none (Cond.code xy_KT_init xb_KT_init 1 none :: vTB) xrm_KT_init 3 24 0 ∧ xy_KT_init.name = "<init>" ∧ (Cond.instanceMethod xy_KT_init).before args s = true := cwI 0 hts (fw_gI vTB_good xK_KT_init) rfl rfl rfl (hts _ N_KT) (hts _ hl) (hts _ xI_KT_init) rfl (by decide +kernel) hR
theorem xwn_KT_init {R : Room} {s : State} {args : Array Value} {own host : String} {index : Nat} (hts : ∀ w ∈ vTB, w.before args s = true) (hl : va_Nw (.methodLinkNest own index xy_KT_init host) s) (hR : xrm_KT_init.frames + 1 ≤ R.frames ∧ 8 + (1 + 11) + xrm_KT_init.locals ≤ R.locals) : va_CN R s args own index xy_KT_init host xb_KT_init 1 none (Cond.code xy_KT_init xb_KT_init 1 none :: vTB) xrm_KT_init 3 24 0 ∧ xy_KT_init.name = "<init>" ∧ (Cond.instanceMethod xy_KT_init).before args s = true := ⟨va_cnB 0 hts (fw_gI vTB_good xK_KT_init) rfl rfl rfl hl (hts _ N_KT) (by decide +kernel) hR, rfl, hts _ xI_KT_init⟩
theorem xd_KT_init_0 : decode xb_KT_init 0 = .ok (.aload_n 0, 1) := by decide +kernel
theorem xd_KT_init_1 : decode xb_KT_init 1 = .ok (.invokespecial 3, 3) := by decide +kernel
theorem xd_KT_init_4 : decode xb_KT_init 4 = .ok (.aload_n 0, 1) := by decide +kernel
theorem xd_KT_init_5 : decode xb_KT_init 5 = .ok (.bipush 8, 2) := by decide +kernel
theorem xd_KT_init_7 : decode xb_KT_init 7 = .ok (.newarray .int, 2) := by decide +kernel
theorem xd_KT_init_9 : decode xb_KT_init 9 = .ok (.putfield 9, 3) := by decide +kernel
theorem xd_KT_init_12 : decode xb_KT_init 12 = .ok (.aload_n 0, 1) := by decide +kernel
theorem xd_KT_init_13 : decode xb_KT_init 13 = .ok (.bipush 8, 2) := by decide +kernel
theorem xd_KT_init_15 : decode xb_KT_init 15 = .ok (.newarray .int, 2) := by decide +kernel
theorem xd_KT_init_17 : decode xb_KT_init 17 = .ok (.putfield 15, 3) := by decide +kernel
theorem xd_KT_init_20 : decode xb_KT_init 20 = .ok (.aload_n 0, 1) := by decide +kernel
theorem xd_KT_init_21 : decode xb_KT_init 21 = .ok (.bipush 8, 2) := by decide +kernel
theorem xd_KT_init_23 : decode xb_KT_init 23 = .ok (.newarray .boolean, 2) := by decide +kernel
theorem xd_KT_init_25 : decode xb_KT_init 25 = .ok (.putfield 18, 3) := by decide +kernel
theorem xd_KT_init_28 : decode xb_KT_init 28 = .ok (.aload_n 0, 1) := by decide +kernel
theorem xd_KT_init_29 : decode xb_KT_init 29 = .ok (.getfield 9, 3) := by decide +kernel
theorem xd_KT_init_32 : decode xb_KT_init 32 = .ok (.iconst 1, 1) := by decide +kernel
theorem xd_KT_init_33 : decode xb_KT_init 33 = .ok (.invokestatic 22, 3) := by decide +kernel
theorem xd_KT_init_36 : decode xb_KT_init 36 = .ok (.aload_n 0, 1) := by decide +kernel
theorem xd_KT_init_37 : decode xb_KT_init 37 = .ok (.getfield 15, 3) := by decide +kernel
theorem xd_KT_init_40 : decode xb_KT_init 40 = .ok (.iconst 1, 1) := by decide +kernel
theorem xd_KT_init_41 : decode xb_KT_init 41 = .ok (.invokestatic 22, 3) := by decide +kernel
theorem xd_KT_init_44 : decode xb_KT_init 44 = .ok (.return_, 1) := by decide +kernel
def xp_Re (cA : Nat → ClassId) (h0 : Nat) (a1 : Int32) (k2 : Nat) (k3 : Nat) (k4 : Nat) (u : Nat → Nat) : va_W := [(h0, .inr (7, [.int a1, .ref k2, .ref k3, .ref k4, .ref (u 0), .int 0, .ref (u 4), .ref (u 1), .ref (u 2), .ref (u 3), .int 0, .int 0, .int (-1 : Int32), .int 0, .int 0, .int 0, .int 0, .int 0, .int 0, .int 0])), ((u 0), .inr (4, [.int 0, .int (-1 : Int32)])), ((u 1), .inl (cA 0, 3, .inl (fun _ => 0))), ((u 2), .inl (cA 0, 6, .inl (fun _ => 0))), ((u 3), .inl (cA 0, 6, .inl (fun _ => 0))), ((u 4), .inl (cA 0, 3, .inl (fun _ => (-1 : Int32))))]
abbrev xb_Re_init : ByteArray := prog_8_method_1_code
def xy_Re_init : MethodName := ⟨R_Re, "<init>", "(ILFieldRelay$KindTable;LFieldRelay$Wire;LFieldRelay$AlarmLog;)V"⟩
abbrev xrm_Re_init : Room := { frames := 2, cells := 5, slots := 20, locals := 32 }
theorem xK_Re_init : Cond.code xy_Re_init xb_Re_init 5 none ∈ vTB := vTB_in 122 (by decide +kernel) rfl
theorem xI_Re_init : Cond.instanceMethod xy_Re_init ∈ vTB := vTB_in 121 (by decide +kernel) rfl
theorem xw_Re_init {R : Room} {s : State} {args : Array Value} {own : String} {index : Nat} (hts : ∀ w ∈ vTB, w.before args s = true) (hl : Cond.methodLink own index xy_Re_init ∈ vTB) (hR : xrm_Re_init.frames + 1 ≤ R.frames ∧ 8 + (5 + 11) + xrm_Re_init.locals ≤ R.locals) : CallB R s args own index xy_Re_init xb_Re_init 5 none (Cond.code xy_Re_init xb_Re_init 5 none :: vTB) xrm_Re_init 5 20 4 ∧ xy_Re_init.name = "<init>" ∧ (Cond.instanceMethod xy_Re_init).before args s = true := cwI 4 hts (fw_gI vTB_good xK_Re_init) rfl rfl rfl (hts _ N_Re) (hts _ hl) (hts _ xI_Re_init) rfl (by decide +kernel) hR
theorem xwn_Re_init {R : Room} {s : State} {args : Array Value} {own host : String} {index : Nat} (hts : ∀ w ∈ vTB, w.before args s = true) (hl : va_Nw (.methodLinkNest own index xy_Re_init host) s) (hR : xrm_Re_init.frames + 1 ≤ R.frames ∧ 8 + (5 + 11) + xrm_Re_init.locals ≤ R.locals) : va_CN R s args own index xy_Re_init host xb_Re_init 5 none (Cond.code xy_Re_init xb_Re_init 5 none :: vTB) xrm_Re_init 5 20 4 ∧ xy_Re_init.name = "<init>" ∧ (Cond.instanceMethod xy_Re_init).before args s = true := ⟨va_cnB 4 hts (fw_gI vTB_good xK_Re_init) rfl rfl rfl hl (hts _ N_Re) (by decide +kernel) hR, rfl, hts _ xI_Re_init⟩
theorem xd_Re_init_0 : decode xb_Re_init 0 = .ok (.aload_n 0, 1) := by decide +kernel
theorem xd_Re_init_1 : decode xb_Re_init 1 = .ok (.invokespecial 3, 3) := by decide +kernel
theorem xd_Re_init_4 : decode xb_Re_init 4 = .ok (.aload_n 0, 1) := by decide +kernel
theorem xd_Re_init_5 : decode xb_Re_init 5 = .ok (.new 9, 3) := by decide +kernel
theorem xd_Re_init_8 : decode xb_Re_init 8 = .ok (.dup, 1) := by decide +kernel
theorem xd_Re_init_9 : decode xb_Re_init 9 = .ok (.invokespecial 11, 3) := by decide +kernel
theorem xd_Re_init_12 : decode xb_Re_init 12 = .ok (.putfield 12, 3) := by decide +kernel
theorem xd_Re_init_15 : decode xb_Re_init 15 = .ok (.aload_n 0, 1) := by decide +kernel
theorem xd_Re_init_16 : decode xb_Re_init 16 = .ok (.iconst 3, 1) := by decide +kernel
theorem xd_Re_init_17 : decode xb_Re_init 17 = .ok (.newarray .int, 2) := by decide +kernel
theorem xd_Re_init_19 : decode xb_Re_init 19 = .ok (.putfield 18, 3) := by decide +kernel
theorem xd_Re_init_22 : decode xb_Re_init 22 = .ok (.aload_n 0, 1) := by decide +kernel
theorem xd_Re_init_23 : decode xb_Re_init 23 = .ok (.iconst 3, 1) := by decide +kernel
theorem xd_Re_init_24 : decode xb_Re_init 24 = .ok (.newarray .int, 2) := by decide +kernel
theorem xd_Re_init_26 : decode xb_Re_init 26 = .ok (.putfield 22, 3) := by decide +kernel
theorem xd_Re_init_29 : decode xb_Re_init 29 = .ok (.aload_n 0, 1) := by decide +kernel
theorem xd_Re_init_30 : decode xb_Re_init 30 = .ok (.bipush 6, 2) := by decide +kernel
theorem xd_Re_init_32 : decode xb_Re_init 32 = .ok (.newarray .int, 2) := by decide +kernel
theorem xd_Re_init_34 : decode xb_Re_init 34 = .ok (.putfield 25, 3) := by decide +kernel
theorem xd_Re_init_37 : decode xb_Re_init 37 = .ok (.aload_n 0, 1) := by decide +kernel
theorem xd_Re_init_38 : decode xb_Re_init 38 = .ok (.bipush 6, 2) := by decide +kernel
theorem xd_Re_init_40 : decode xb_Re_init 40 = .ok (.newarray .int, 2) := by decide +kernel
theorem xd_Re_init_42 : decode xb_Re_init 42 = .ok (.putfield 28, 3) := by decide +kernel
theorem xd_Re_init_45 : decode xb_Re_init 45 = .ok (.aload_n 0, 1) := by decide +kernel
theorem xd_Re_init_46 : decode xb_Re_init 46 = .ok (.iconst (-1), 1) := by decide +kernel
theorem xd_Re_init_47 : decode xb_Re_init 47 = .ok (.putfield 31, 3) := by decide +kernel
theorem xd_Re_init_50 : decode xb_Re_init 50 = .ok (.aload_n 0, 1) := by decide +kernel
theorem xd_Re_init_51 : decode xb_Re_init 51 = .ok (.iload_n 1, 1) := by decide +kernel
theorem xd_Re_init_52 : decode xb_Re_init 52 = .ok (.putfield 35, 3) := by decide +kernel
theorem xd_Re_init_55 : decode xb_Re_init 55 = .ok (.aload_n 0, 1) := by decide +kernel
theorem xd_Re_init_56 : decode xb_Re_init 56 = .ok (.aload_n 2, 1) := by decide +kernel
theorem xd_Re_init_57 : decode xb_Re_init 57 = .ok (.putfield 38, 3) := by decide +kernel
theorem xd_Re_init_60 : decode xb_Re_init 60 = .ok (.aload_n 0, 1) := by decide +kernel
theorem xd_Re_init_61 : decode xb_Re_init 61 = .ok (.aload_n 3, 1) := by decide +kernel
theorem xd_Re_init_62 : decode xb_Re_init 62 = .ok (.putfield 42, 3) := by decide +kernel
theorem xd_Re_init_65 : decode xb_Re_init 65 = .ok (.aload_n 0, 1) := by decide +kernel
theorem xd_Re_init_66 : decode xb_Re_init 66 = .ok (.aload 4, 2) := by decide +kernel
theorem xd_Re_init_68 : decode xb_Re_init 68 = .ok (.putfield 46, 3) := by decide +kernel
theorem xd_Re_init_71 : decode xb_Re_init 71 = .ok (.aload_n 0, 1) := by decide +kernel
theorem xd_Re_init_72 : decode xb_Re_init 72 = .ok (.getfield 18, 3) := by decide +kernel
theorem xd_Re_init_75 : decode xb_Re_init 75 = .ok (.iconst (-1), 1) := by decide +kernel
theorem xd_Re_init_76 : decode xb_Re_init 76 = .ok (.invokestatic 50, 3) := by decide +kernel
theorem xd_Re_init_79 : decode xb_Re_init 79 = .ok (.return_, 1) := by decide +kernel
def xp_De (cA : Nat → ClassId) (h0 : Nat) (a1 : Int32) (k2 : Nat) (k3 : Nat) (u : Nat → Nat) : va_W := [(h0, .inr (8, [.int a1, .ref k2, .ref k3, .ref (u 0), .ref (u 1), .int 0, .int (0 : Int32), .int 0, .ref (u 6), .ref (u 4), .ref (u 5), .int 0, .int 0, .ref (u 7), .ref (u 8), .int 0, .int 0, .int 0, .int 0])), ((u 0), .inr (4, [.int 0, .int (-1 : Int32)])), ((u 1), .inr (6, [.ref (u 2), .ref (u 3), .int 0, .int 0, .int 0, .int 0])), ((u 2), .inl (cA 0, 4, .inl (fun _ => 0))), ((u 3), .inl (cA 0, 4, .inl (fun _ => 0))), ((u 4), .inl (cA 0, 6, .inl (fun _ => 0))), ((u 5), .inl (cA 0, 6, .inl (fun _ => 0))), ((u 6), .inl (cA 0, 3, .inl (fun _ => (-1 : Int32)))), ((u 7), .inl (cA 0, 3, .inl (fun _ => (-1 : Int32)))), ((u 8), .inl (cA 0, 3, .inl (fun _ => (-1 : Int32))))]
abbrev xb_De_init : ByteArray := prog_5_method_1_code
def xy_De_init : MethodName := ⟨R_De, "<init>", "(ILFieldRelay$KindTable;LFieldRelay$Wire;)V"⟩
abbrev xrm_De_init : Room := { frames := 2, cells := 9, slots := 37, locals := 32 }
theorem xK_De_init : Cond.code xy_De_init xb_De_init 4 none ∈ vTB := vTB_in 206 (by decide +kernel) rfl
theorem xI_De_init : Cond.instanceMethod xy_De_init ∈ vTB := vTB_in 205 (by decide +kernel) rfl
theorem xw_De_init {R : Room} {s : State} {args : Array Value} {own : String} {index : Nat} (hts : ∀ w ∈ vTB, w.before args s = true) (hl : Cond.methodLink own index xy_De_init ∈ vTB) (hR : xrm_De_init.frames + 1 ≤ R.frames ∧ 8 + (4 + 11) + xrm_De_init.locals ≤ R.locals) : CallB R s args own index xy_De_init xb_De_init 4 none (Cond.code xy_De_init xb_De_init 4 none :: vTB) xrm_De_init 9 37 3 ∧ xy_De_init.name = "<init>" ∧ (Cond.instanceMethod xy_De_init).before args s = true := cwI 3 hts (fw_gI vTB_good xK_De_init) rfl rfl rfl (hts _ N_De) (hts _ hl) (hts _ xI_De_init) rfl (by decide +kernel) hR
theorem xwn_De_init {R : Room} {s : State} {args : Array Value} {own host : String} {index : Nat} (hts : ∀ w ∈ vTB, w.before args s = true) (hl : va_Nw (.methodLinkNest own index xy_De_init host) s) (hR : xrm_De_init.frames + 1 ≤ R.frames ∧ 8 + (4 + 11) + xrm_De_init.locals ≤ R.locals) : va_CN R s args own index xy_De_init host xb_De_init 4 none (Cond.code xy_De_init xb_De_init 4 none :: vTB) xrm_De_init 9 37 3 ∧ xy_De_init.name = "<init>" ∧ (Cond.instanceMethod xy_De_init).before args s = true := ⟨va_cnB 3 hts (fw_gI vTB_good xK_De_init) rfl rfl rfl hl (hts _ N_De) (by decide +kernel) hR, rfl, hts _ xI_De_init⟩
theorem xd_De_init_0 : decode xb_De_init 0 = .ok (.aload_n 0, 1) := by decide +kernel
theorem xd_De_init_1 : decode xb_De_init 1 = .ok (.invokespecial 3, 3) := by decide +kernel
theorem xd_De_init_4 : decode xb_De_init 4 = .ok (.aload_n 0, 1) := by decide +kernel
theorem xd_De_init_5 : decode xb_De_init 5 = .ok (.new 9, 3) := by decide +kernel
theorem xd_De_init_8 : decode xb_De_init 8 = .ok (.dup, 1) := by decide +kernel
theorem xd_De_init_9 : decode xb_De_init 9 = .ok (.invokespecial 11, 3) := by decide +kernel
theorem xd_De_init_12 : decode xb_De_init 12 = .ok (.putfield 12, 3) := by decide +kernel
theorem xd_De_init_15 : decode xb_De_init 15 = .ok (.aload_n 0, 1) := by decide +kernel
theorem xd_De_init_16 : decode xb_De_init 16 = .ok (.new 18, 3) := by decide +kernel
theorem xd_De_init_19 : decode xb_De_init 19 = .ok (.dup, 1) := by decide +kernel
theorem xd_De_init_20 : decode xb_De_init 20 = .ok (.invokespecial 20, 3) := by decide +kernel
theorem xd_De_init_23 : decode xb_De_init 23 = .ok (.putfield 21, 3) := by decide +kernel
theorem xd_De_init_26 : decode xb_De_init 26 = .ok (.aload_n 0, 1) := by decide +kernel
theorem xd_De_init_27 : decode xb_De_init 27 = .ok (.iconst 0, 1) := by decide +kernel
theorem xd_De_init_28 : decode xb_De_init 28 = .ok (.putfield 25, 3) := by decide +kernel
theorem xd_De_init_31 : decode xb_De_init 31 = .ok (.aload_n 0, 1) := by decide +kernel
theorem xd_De_init_32 : decode xb_De_init 32 = .ok (.iconst 3, 1) := by decide +kernel
theorem xd_De_init_33 : decode xb_De_init 33 = .ok (.newarray .int, 2) := by decide +kernel
theorem xd_De_init_35 : decode xb_De_init 35 = .ok (.putfield 29, 3) := by decide +kernel
theorem xd_De_init_38 : decode xb_De_init 38 = .ok (.aload_n 0, 1) := by decide +kernel
theorem xd_De_init_39 : decode xb_De_init 39 = .ok (.bipush 6, 2) := by decide +kernel
theorem xd_De_init_41 : decode xb_De_init 41 = .ok (.newarray .int, 2) := by decide +kernel
theorem xd_De_init_43 : decode xb_De_init 43 = .ok (.putfield 33, 3) := by decide +kernel
theorem xd_De_init_46 : decode xb_De_init 46 = .ok (.aload_n 0, 1) := by decide +kernel
theorem xd_De_init_47 : decode xb_De_init 47 = .ok (.bipush 6, 2) := by decide +kernel
theorem xd_De_init_49 : decode xb_De_init 49 = .ok (.newarray .int, 2) := by decide +kernel
theorem xd_De_init_51 : decode xb_De_init 51 = .ok (.putfield 36, 3) := by decide +kernel
theorem xd_De_init_54 : decode xb_De_init 54 = .ok (.aload_n 0, 1) := by decide +kernel
theorem xd_De_init_55 : decode xb_De_init 55 = .ok (.iconst 3, 1) := by decide +kernel
theorem xd_De_init_56 : decode xb_De_init 56 = .ok (.newarray .int, 2) := by decide +kernel
theorem xd_De_init_58 : decode xb_De_init 58 = .ok (.putfield 39, 3) := by decide +kernel
theorem xd_De_init_61 : decode xb_De_init 61 = .ok (.aload_n 0, 1) := by decide +kernel
theorem xd_De_init_62 : decode xb_De_init 62 = .ok (.iconst 3, 1) := by decide +kernel
theorem xd_De_init_63 : decode xb_De_init 63 = .ok (.newarray .int, 2) := by decide +kernel
theorem xd_De_init_65 : decode xb_De_init 65 = .ok (.putfield 42, 3) := by decide +kernel
theorem xd_De_init_68 : decode xb_De_init 68 = .ok (.aload_n 0, 1) := by decide +kernel
theorem xd_De_init_69 : decode xb_De_init 69 = .ok (.iload_n 1, 1) := by decide +kernel
theorem xd_De_init_70 : decode xb_De_init 70 = .ok (.putfield 45, 3) := by decide +kernel
theorem xd_De_init_73 : decode xb_De_init 73 = .ok (.aload_n 0, 1) := by decide +kernel
theorem xd_De_init_74 : decode xb_De_init 74 = .ok (.aload_n 2, 1) := by decide +kernel
theorem xd_De_init_75 : decode xb_De_init 75 = .ok (.putfield 48, 3) := by decide +kernel
theorem xd_De_init_78 : decode xb_De_init 78 = .ok (.aload_n 0, 1) := by decide +kernel
theorem xd_De_init_79 : decode xb_De_init 79 = .ok (.aload_n 3, 1) := by decide +kernel
theorem xd_De_init_80 : decode xb_De_init 80 = .ok (.putfield 52, 3) := by decide +kernel
theorem xd_De_init_83 : decode xb_De_init 83 = .ok (.aload_n 0, 1) := by decide +kernel
theorem xd_De_init_84 : decode xb_De_init 84 = .ok (.getfield 29, 3) := by decide +kernel
theorem xd_De_init_87 : decode xb_De_init 87 = .ok (.iconst (-1), 1) := by decide +kernel
theorem xd_De_init_88 : decode xb_De_init 88 = .ok (.invokestatic 56, 3) := by decide +kernel
theorem xd_De_init_91 : decode xb_De_init 91 = .ok (.aload_n 0, 1) := by decide +kernel
theorem xd_De_init_92 : decode xb_De_init 92 = .ok (.getfield 39, 3) := by decide +kernel
theorem xd_De_init_95 : decode xb_De_init 95 = .ok (.iconst (-1), 1) := by decide +kernel
theorem xd_De_init_96 : decode xb_De_init 96 = .ok (.invokestatic 56, 3) := by decide +kernel
theorem xd_De_init_99 : decode xb_De_init 99 = .ok (.aload_n 0, 1) := by decide +kernel
theorem xd_De_init_100 : decode xb_De_init 100 = .ok (.getfield 42, 3) := by decide +kernel
theorem xd_De_init_103 : decode xb_De_init 103 = .ok (.iconst (-1), 1) := by decide +kernel
theorem xd_De_init_104 : decode xb_De_init 104 = .ok (.invokestatic 56, 3) := by decide +kernel
theorem xd_De_init_107 : decode xb_De_init 107 = .ok (.return_, 1) := by decide +kernel
abbrev xb_Wi_init : ByteArray := prog_9_method_1_code
def xy_Wi_init : MethodName := ⟨R_Wi, "<init>", "()V"⟩
abbrev xrm_Wi_init : Room := { frames := 2, cells := 37, slots := 233, locals := 32 }
theorem xK_Wi_init : Cond.code xy_Wi_init xb_Wi_init 2 none ∈ vTB := vTB_in 47 (by decide +kernel) rfl
theorem xI_Wi_init : Cond.instanceMethod xy_Wi_init ∈ vTB := vTB_in 46 (by decide +kernel) rfl
theorem xw_Wi_init {R : Room} {s : State} {args : Array Value} {own : String} {index : Nat} (hts : ∀ w ∈ vTB, w.before args s = true) (hl : Cond.methodLink own index xy_Wi_init ∈ vTB) (hR : xrm_Wi_init.frames + 1 ≤ R.frames ∧ 8 + (2 + 11) + xrm_Wi_init.locals ≤ R.locals) : CallB R s args own index xy_Wi_init xb_Wi_init 2 none (Cond.code xy_Wi_init xb_Wi_init 2 none :: vTB) xrm_Wi_init 37 233 0 ∧ xy_Wi_init.name = "<init>" ∧ (Cond.instanceMethod xy_Wi_init).before args s = true := cwI 0 hts (fw_gI vTB_good xK_Wi_init) rfl rfl rfl (hts _ N_Wi) (hts _ hl) (hts _ xI_Wi_init) rfl (by decide +kernel) hR
theorem xwn_Wi_init {R : Room} {s : State} {args : Array Value} {own host : String} {index : Nat} (hts : ∀ w ∈ vTB, w.before args s = true) (hl : va_Nw (.methodLinkNest own index xy_Wi_init host) s) (hR : xrm_Wi_init.frames + 1 ≤ R.frames ∧ 8 + (2 + 11) + xrm_Wi_init.locals ≤ R.locals) : va_CN R s args own index xy_Wi_init host xb_Wi_init 2 none (Cond.code xy_Wi_init xb_Wi_init 2 none :: vTB) xrm_Wi_init 37 233 0 ∧ xy_Wi_init.name = "<init>" ∧ (Cond.instanceMethod xy_Wi_init).before args s = true := ⟨va_cnB 0 hts (fw_gI vTB_good xK_Wi_init) rfl rfl rfl hl (hts _ N_Wi) (by decide +kernel) hR, rfl, hts _ xI_Wi_init⟩
theorem xd_Wi_init_0 : decode xb_Wi_init 0 = .ok (.aload_n 0, 1) := by decide +kernel
theorem xd_Wi_init_1 : decode xb_Wi_init 1 = .ok (.invokespecial 1, 3) := by decide +kernel
theorem xd_Wi_init_4 : decode xb_Wi_init 4 = .ok (.aload_n 0, 1) := by decide +kernel
theorem xd_Wi_init_5 : decode xb_Wi_init 5 = .ok (.bipush 17, 2) := by decide +kernel
theorem xd_Wi_init_7 : decode xb_Wi_init 7 = .ok (.anewarray 9, 3) := by decide +kernel
theorem xd_Wi_init_10 : decode xb_Wi_init 10 = .ok (.putfield 11, 3) := by decide +kernel
theorem xd_Wi_init_13 : decode xb_Wi_init 13 = .ok (.aload_n 0, 1) := by decide +kernel
theorem xd_Wi_init_14 : decode xb_Wi_init 14 = .ok (.new 9, 3) := by decide +kernel
theorem xd_Wi_init_17 : decode xb_Wi_init 17 = .ok (.dup, 1) := by decide +kernel
theorem xd_Wi_init_18 : decode xb_Wi_init 18 = .ok (.invokespecial 15, 3) := by decide +kernel
theorem xd_Wi_init_21 : decode xb_Wi_init 21 = .ok (.putfield 16, 3) := by decide +kernel
theorem xd_Wi_init_24 : decode xb_Wi_init 24 = .ok (.iconst 0, 1) := by decide +kernel
theorem xd_Wi_init_25 : decode xb_Wi_init 25 = .ok (.istore_n 1, 1) := by decide +kernel
theorem xd_Wi_init_26 : decode xb_Wi_init 26 = .ok (.iload_n 1, 1) := by decide +kernel
theorem xd_Wi_init_27 : decode xb_Wi_init 27 = .ok (.bipush 16, 2) := by decide +kernel
theorem xd_Wi_init_29 : decode xb_Wi_init 29 = .ok (.if_icmp .gt 22, 3) := by decide +kernel
theorem xd_Wi_init_32 : decode xb_Wi_init 32 = .ok (.aload_n 0, 1) := by decide +kernel
theorem xd_Wi_init_33 : decode xb_Wi_init 33 = .ok (.getfield 11, 3) := by decide +kernel
theorem xd_Wi_init_36 : decode xb_Wi_init 36 = .ok (.iload_n 1, 1) := by decide +kernel
theorem xd_Wi_init_37 : decode xb_Wi_init 37 = .ok (.new 9, 3) := by decide +kernel
theorem xd_Wi_init_40 : decode xb_Wi_init 40 = .ok (.dup, 1) := by decide +kernel
theorem xd_Wi_init_41 : decode xb_Wi_init 41 = .ok (.invokespecial 15, 3) := by decide +kernel
theorem xd_Wi_init_44 : decode xb_Wi_init 44 = .ok (.aastore, 1) := by decide +kernel
theorem xd_Wi_init_45 : decode xb_Wi_init 45 = .ok (.iinc 1 1, 3) := by decide +kernel
theorem xd_Wi_init_48 : decode xb_Wi_init 48 = .ok (.goto (-22), 3) := by decide +kernel
theorem xd_Wi_init_51 : decode xb_Wi_init 51 = .ok (.return_, 1) := by decide +kernel
abbrev xb_FR_init : ByteArray := prog_1_method_1_code
def xy_FR_init : MethodName := ⟨R_FR, "<init>", "()V"⟩
abbrev xrm_FR_init : Room := { frames := 3, cells := 78, slots := 471, locals := 56 }
theorem xK_FR_init : Cond.code xy_FR_init xb_FR_init 2 none ∈ vTB := vTB_in 18 (by decide +kernel) rfl
theorem xI_FR_init : Cond.instanceMethod xy_FR_init ∈ vTB := vTB_in 17 (by decide +kernel) rfl
theorem xw_FR_init {R : Room} {s : State} {args : Array Value} {own : String} {index : Nat} (hts : ∀ w ∈ vTB, w.before args s = true) (hl : Cond.methodLink own index xy_FR_init ∈ vTB) (hR : xrm_FR_init.frames + 1 ≤ R.frames ∧ 8 + (2 + 11) + xrm_FR_init.locals ≤ R.locals) : CallB R s args own index xy_FR_init xb_FR_init 2 none (Cond.code xy_FR_init xb_FR_init 2 none :: vTB) xrm_FR_init 78 471 0 ∧ xy_FR_init.name = "<init>" ∧ (Cond.instanceMethod xy_FR_init).before args s = true := cwI 0 hts (fw_gI vTB_good xK_FR_init) rfl rfl rfl (hts _ N_FR) (hts _ hl) (hts _ xI_FR_init) rfl (by decide +kernel) hR
theorem xwn_FR_init {R : Room} {s : State} {args : Array Value} {own host : String} {index : Nat} (hts : ∀ w ∈ vTB, w.before args s = true) (hl : va_Nw (.methodLinkNest own index xy_FR_init host) s) (hR : xrm_FR_init.frames + 1 ≤ R.frames ∧ 8 + (2 + 11) + xrm_FR_init.locals ≤ R.locals) : va_CN R s args own index xy_FR_init host xb_FR_init 2 none (Cond.code xy_FR_init xb_FR_init 2 none :: vTB) xrm_FR_init 78 471 0 ∧ xy_FR_init.name = "<init>" ∧ (Cond.instanceMethod xy_FR_init).before args s = true := ⟨va_cnB 0 hts (fw_gI vTB_good xK_FR_init) rfl rfl rfl hl (hts _ N_FR) (by decide +kernel) hR, rfl, hts _ xI_FR_init⟩
theorem xd_FR_init_0 : decode xb_FR_init 0 = .ok (.aload_n 0, 1) := by decide +kernel
theorem xd_FR_init_1 : decode xb_FR_init 1 = .ok (.invokespecial 3, 3) := by decide +kernel
theorem xd_FR_init_4 : decode xb_FR_init 4 = .ok (.aload_n 0, 1) := by decide +kernel
theorem xd_FR_init_5 : decode xb_FR_init 5 = .ok (.new 9, 3) := by decide +kernel
theorem xd_FR_init_8 : decode xb_FR_init 8 = .ok (.dup, 1) := by decide +kernel
theorem xd_FR_init_9 : decode xb_FR_init 9 = .ok (.invokespecial 11, 3) := by decide +kernel
theorem xd_FR_init_12 : decode xb_FR_init 12 = .ok (.putfield 12, 3) := by decide +kernel
theorem xd_FR_init_15 : decode xb_FR_init 15 = .ok (.aload_n 0, 1) := by decide +kernel
theorem xd_FR_init_16 : decode xb_FR_init 16 = .ok (.new 16, 3) := by decide +kernel
theorem xd_FR_init_19 : decode xb_FR_init 19 = .ok (.dup, 1) := by decide +kernel
theorem xd_FR_init_20 : decode xb_FR_init 20 = .ok (.invokespecial 18, 3) := by decide +kernel
theorem xd_FR_init_23 : decode xb_FR_init 23 = .ok (.putfield 19, 3) := by decide +kernel
theorem xd_FR_init_26 : decode xb_FR_init 26 = .ok (.aload_n 0, 1) := by decide +kernel
theorem xd_FR_init_27 : decode xb_FR_init 27 = .ok (.new 23, 3) := by decide +kernel
theorem xd_FR_init_30 : decode xb_FR_init 30 = .ok (.dup, 1) := by decide +kernel
theorem xd_FR_init_31 : decode xb_FR_init 31 = .ok (.invokespecial 25, 3) := by decide +kernel
theorem xd_FR_init_34 : decode xb_FR_init 34 = .ok (.putfield 26, 3) := by decide +kernel
theorem xd_FR_init_37 : decode xb_FR_init 37 = .ok (.aload_n 0, 1) := by decide +kernel
theorem xd_FR_init_38 : decode xb_FR_init 38 = .ok (.iconst 2, 1) := by decide +kernel
theorem xd_FR_init_39 : decode xb_FR_init 39 = .ok (.anewarray 30, 3) := by decide +kernel
theorem xd_FR_init_42 : decode xb_FR_init 42 = .ok (.putfield 32, 3) := by decide +kernel
theorem xd_FR_init_45 : decode xb_FR_init 45 = .ok (.aload_n 0, 1) := by decide +kernel
theorem xd_FR_init_46 : decode xb_FR_init 46 = .ok (.iconst 2, 1) := by decide +kernel
theorem xd_FR_init_47 : decode xb_FR_init 47 = .ok (.anewarray 36, 3) := by decide +kernel
theorem xd_FR_init_50 : decode xb_FR_init 50 = .ok (.putfield 38, 3) := by decide +kernel
theorem xd_FR_init_53 : decode xb_FR_init 53 = .ok (.iconst 0, 1) := by decide +kernel
theorem xd_FR_init_54 : decode xb_FR_init 54 = .ok (.istore_n 1, 1) := by decide +kernel
theorem xd_FR_init_55 : decode xb_FR_init 55 = .ok (.iload_n 1, 1) := by decide +kernel
theorem xd_FR_init_56 : decode xb_FR_init 56 = .ok (.iconst 2, 1) := by decide +kernel
theorem xd_FR_init_57 : decode xb_FR_init 57 = .ok (.if_icmp .ge 57, 3) := by decide +kernel
theorem xd_FR_init_60 : decode xb_FR_init 60 = .ok (.aload_n 0, 1) := by decide +kernel
theorem xd_FR_init_61 : decode xb_FR_init 61 = .ok (.getfield 32, 3) := by decide +kernel
theorem xd_FR_init_64 : decode xb_FR_init 64 = .ok (.iload_n 1, 1) := by decide +kernel
theorem xd_FR_init_65 : decode xb_FR_init 65 = .ok (.new 30, 3) := by decide +kernel
theorem xd_FR_init_68 : decode xb_FR_init 68 = .ok (.dup, 1) := by decide +kernel
theorem xd_FR_init_69 : decode xb_FR_init 69 = .ok (.iload_n 1, 1) := by decide +kernel
theorem xd_FR_init_70 : decode xb_FR_init 70 = .ok (.aload_n 0, 1) := by decide +kernel
theorem xd_FR_init_71 : decode xb_FR_init 71 = .ok (.getfield 12, 3) := by decide +kernel
theorem xd_FR_init_74 : decode xb_FR_init 74 = .ok (.aload_n 0, 1) := by decide +kernel
theorem xd_FR_init_75 : decode xb_FR_init 75 = .ok (.getfield 19, 3) := by decide +kernel
theorem xd_FR_init_78 : decode xb_FR_init 78 = .ok (.aload_n 0, 1) := by decide +kernel
theorem xd_FR_init_79 : decode xb_FR_init 79 = .ok (.getfield 26, 3) := by decide +kernel
theorem xd_FR_init_82 : decode xb_FR_init 82 = .ok (.invokespecial 42, 3) := by decide +kernel
theorem xd_FR_init_85 : decode xb_FR_init 85 = .ok (.aastore, 1) := by decide +kernel
theorem xd_FR_init_86 : decode xb_FR_init 86 = .ok (.aload_n 0, 1) := by decide +kernel
theorem xd_FR_init_87 : decode xb_FR_init 87 = .ok (.getfield 38, 3) := by decide +kernel
theorem xd_FR_init_90 : decode xb_FR_init 90 = .ok (.iload_n 1, 1) := by decide +kernel
theorem xd_FR_init_91 : decode xb_FR_init 91 = .ok (.new 36, 3) := by decide +kernel
theorem xd_FR_init_94 : decode xb_FR_init 94 = .ok (.dup, 1) := by decide +kernel
theorem xd_FR_init_95 : decode xb_FR_init 95 = .ok (.iload_n 1, 1) := by decide +kernel
theorem xd_FR_init_96 : decode xb_FR_init 96 = .ok (.aload_n 0, 1) := by decide +kernel
theorem xd_FR_init_97 : decode xb_FR_init 97 = .ok (.getfield 12, 3) := by decide +kernel
theorem xd_FR_init_100 : decode xb_FR_init 100 = .ok (.aload_n 0, 1) := by decide +kernel
theorem xd_FR_init_101 : decode xb_FR_init 101 = .ok (.getfield 19, 3) := by decide +kernel
theorem xd_FR_init_104 : decode xb_FR_init 104 = .ok (.invokespecial 45, 3) := by decide +kernel
theorem xd_FR_init_107 : decode xb_FR_init 107 = .ok (.aastore, 1) := by decide +kernel
theorem xd_FR_init_108 : decode xb_FR_init 108 = .ok (.iinc 1 1, 3) := by decide +kernel
theorem xd_FR_init_111 : decode xb_FR_init 111 = .ok (.goto (-56), 3) := by decide +kernel
theorem xd_FR_init_114 : decode xb_FR_init 114 = .ok (.return_, 1) := by decide +kernel
