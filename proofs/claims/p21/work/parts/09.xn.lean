abbrev xb_FR_within : ByteArray := prog_1_method_24_code
def xy_FR_within : MethodName := ⟨R_FR, "within", "(III)Z"⟩
abbrev xrm_FR_within : Room := { frames := 0, cells := 0, slots := 0, locals := 0 }
theorem xK_FR_within : Cond.code xy_FR_within xb_FR_within 3 (some .boolean) ∈ vTB := vTB_in 337 (by decide +kernel) rfl
theorem xS_FR_within : Cond.static xy_FR_within ∈ vTB := vTB_in 336 (by decide +kernel) rfl
theorem xw_FR_within {R : Room} {s : State} {args : Array Value} {own : String} {index : Nat} (hts : ∀ w ∈ vTB, w.before args s = true) (hl : Cond.methodLink own index xy_FR_within ∈ vTB) (hR : xrm_FR_within.frames + 1 ≤ R.frames ∧ 8 + (3 + 11) + xrm_FR_within.locals ≤ R.locals) : CallB R s args own index xy_FR_within xb_FR_within 3 (some .boolean) (Cond.code xy_FR_within xb_FR_within 3 (some .boolean) :: vTB) xrm_FR_within 0 0 3 ∧ (Cond.static xy_FR_within).before args s = true := va_cwS 3 hts (fw_gS2 vTB_good xK_FR_within hl xS_FR_within N_FR) rfl rfl rfl (by decide +kernel) hR
theorem xwn_FR_within {R : Room} {s : State} {args : Array Value} {own host : String} {index : Nat} (hts : ∀ w ∈ vTB, w.before args s = true) (hl : va_Nw (.methodLinkNest own index xy_FR_within host) s) (hR : xrm_FR_within.frames + 1 ≤ R.frames ∧ 8 + (3 + 11) + xrm_FR_within.locals ≤ R.locals) : va_CN R s args own index xy_FR_within host xb_FR_within 3 (some .boolean) (Cond.code xy_FR_within xb_FR_within 3 (some .boolean) :: vTB) xrm_FR_within 0 0 3 ∧ (Cond.static xy_FR_within).before args s = true ∧ True := ⟨va_cnB 3 hts (fw_gI vTB_good xK_FR_within) rfl rfl rfl hl (hts _ N_FR) (by decide +kernel) hR, hts _ xS_FR_within, trivial⟩
theorem xd_FR_within_0 : decode xb_FR_within 0 = .ok (.iload_n 0, 1) := by decide +kernel
theorem xd_FR_within_1 : decode xb_FR_within 1 = .ok (.iload_n 1, 1) := by decide +kernel
theorem xd_FR_within_2 : decode xb_FR_within 2 = .ok (.if_icmp .lt 12, 3) := by decide +kernel
theorem xd_FR_within_5 : decode xb_FR_within 5 = .ok (.iload_n 0, 1) := by decide +kernel
theorem xd_FR_within_6 : decode xb_FR_within 6 = .ok (.iload_n 2, 1) := by decide +kernel
theorem xd_FR_within_7 : decode xb_FR_within 7 = .ok (.if_icmp .gt 7, 3) := by decide +kernel
theorem xd_FR_within_10 : decode xb_FR_within 10 = .ok (.iconst 1, 1) := by decide +kernel
theorem xd_FR_within_11 : decode xb_FR_within 11 = .ok (.goto 4, 3) := by decide +kernel
theorem xd_FR_within_14 : decode xb_FR_within 14 = .ok (.iconst 0, 1) := by decide +kernel
theorem xd_FR_within_15 : decode xb_FR_within 15 = .ok (.ireturn, 1) := by decide +kernel
abbrev xb_FR_isKind : ByteArray := prog_1_method_28_code
def xy_FR_isKind : MethodName := ⟨R_FR, "isKind", "(I)Z"⟩
abbrev xrm_FR_isKind : Room := { frames := 1, cells := 0, slots := 0, locals := 22 }
theorem xK_FR_isKind : Cond.code xy_FR_isKind xb_FR_isKind 1 (some .boolean) ∈ vTB := vTB_in 334 (by decide +kernel) rfl
theorem xS_FR_isKind : Cond.static xy_FR_isKind ∈ vTB := vTB_in 333 (by decide +kernel) rfl
theorem xw_FR_isKind {R : Room} {s : State} {args : Array Value} {own : String} {index : Nat} (hts : ∀ w ∈ vTB, w.before args s = true) (hl : Cond.methodLink own index xy_FR_isKind ∈ vTB) (hR : xrm_FR_isKind.frames + 1 ≤ R.frames ∧ 8 + (1 + 11) + xrm_FR_isKind.locals ≤ R.locals) : CallB R s args own index xy_FR_isKind xb_FR_isKind 1 (some .boolean) (Cond.code xy_FR_isKind xb_FR_isKind 1 (some .boolean) :: vTB) xrm_FR_isKind 0 0 1 ∧ (Cond.static xy_FR_isKind).before args s = true := va_cwS 1 hts (fw_gS2 vTB_good xK_FR_isKind hl xS_FR_isKind N_FR) rfl rfl rfl (by decide +kernel) hR
theorem xwn_FR_isKind {R : Room} {s : State} {args : Array Value} {own host : String} {index : Nat} (hts : ∀ w ∈ vTB, w.before args s = true) (hl : va_Nw (.methodLinkNest own index xy_FR_isKind host) s) (hR : xrm_FR_isKind.frames + 1 ≤ R.frames ∧ 8 + (1 + 11) + xrm_FR_isKind.locals ≤ R.locals) : va_CN R s args own index xy_FR_isKind host xb_FR_isKind 1 (some .boolean) (Cond.code xy_FR_isKind xb_FR_isKind 1 (some .boolean) :: vTB) xrm_FR_isKind 0 0 1 ∧ (Cond.static xy_FR_isKind).before args s = true ∧ True := ⟨va_cnB 1 hts (fw_gI vTB_good xK_FR_isKind) rfl rfl rfl hl (hts _ N_FR) (by decide +kernel) hR, hts _ xS_FR_isKind, trivial⟩
theorem xd_FR_isKind_0 : decode xb_FR_isKind 0 = .ok (.iload_n 0, 1) := by decide +kernel
theorem xd_FR_isKind_1 : decode xb_FR_isKind 1 = .ok (.iconst 0, 1) := by decide +kernel
theorem xd_FR_isKind_2 : decode xb_FR_isKind 2 = .ok (.bipush 7, 2) := by decide +kernel
theorem xd_FR_isKind_4 : decode xb_FR_isKind 4 = .ok (.invokestatic 52, 3) := by decide +kernel
theorem xd_FR_isKind_7 : decode xb_FR_isKind 7 = .ok (.ireturn, 1) := by decide +kernel
abbrev xb_Re_isClosed : ByteArray := prog_8_method_2_code
def xy_Re_isClosed : MethodName := ⟨R_Re, "isClosed", "()Z"⟩
abbrev xrm_Re_isClosed : Room := { frames := 0, cells := 0, slots := 0, locals := 0 }
theorem xK_Re_isClosed : Cond.code xy_Re_isClosed xb_Re_isClosed 1 (some .boolean) ∈ vTB := vTB_in 345 (by decide +kernel) rfl
theorem xI_Re_isClosed : Cond.instanceMethod xy_Re_isClosed ∈ vTB := vTB_in 343 (by decide +kernel) rfl
theorem xS_Re_isClosed : Cond.selects R_Re xy_Re_isClosed xy_Re_isClosed ∈ vTB := vTB_in 344 (by decide +kernel) rfl
theorem xw_Re_isClosed {R : Room} {s : State} {args : Array Value} {own : String} {index : Nat} (hts : ∀ w ∈ vTB, w.before args s = true) (hl : Cond.methodLink own index xy_Re_isClosed ∈ vTB) (hR : xrm_Re_isClosed.frames + 1 ≤ R.frames ∧ 8 + (1 + 11) + xrm_Re_isClosed.locals ≤ R.locals) : CallW R s args own R_Re index xy_Re_isClosed xb_Re_isClosed 1 (some .boolean) (Cond.code xy_Re_isClosed xb_Re_isClosed 1 (some .boolean) :: vTB) xrm_Re_isClosed 0 0 0 := cwV 0 hts (fw_gV vTB_good xK_Re_isClosed hl xI_Re_isClosed xS_Re_isClosed N_Re) rfl rfl rfl (by decide +kernel) hR
theorem xd_Re_isClosed_0 : decode xb_Re_isClosed 0 = .ok (.aload_n 0, 1) := by decide +kernel
theorem xd_Re_isClosed_1 : decode xb_Re_isClosed 1 = .ok (.getfield 56, 3) := by decide +kernel
theorem xd_Re_isClosed_4 : decode xb_Re_isClosed 4 = .ok (.ifCond .ne 7, 3) := by decide +kernel
theorem xd_Re_isClosed_7 : decode xb_Re_isClosed 7 = .ok (.iconst 1, 1) := by decide +kernel
theorem xd_Re_isClosed_8 : decode xb_Re_isClosed 8 = .ok (.goto 4, 3) := by decide +kernel
theorem xd_Re_isClosed_11 : decode xb_Re_isClosed 11 = .ok (.iconst 0, 1) := by decide +kernel
theorem xd_Re_isClosed_12 : decode xb_Re_isClosed 12 = .ok (.ireturn, 1) := by decide +kernel
abbrev xb_De_isIdle : ByteArray := prog_5_method_2_code
def xy_De_isIdle : MethodName := ⟨R_De, "isIdle", "()Z"⟩
abbrev xrm_De_isIdle : Room := { frames := 0, cells := 0, slots := 0, locals := 0 }
theorem xK_De_isIdle : Cond.code xy_De_isIdle xb_De_isIdle 1 (some .boolean) ∈ vTB := vTB_in 349 (by decide +kernel) rfl
theorem xI_De_isIdle : Cond.instanceMethod xy_De_isIdle ∈ vTB := vTB_in 347 (by decide +kernel) rfl
theorem xS_De_isIdle : Cond.selects R_De xy_De_isIdle xy_De_isIdle ∈ vTB := vTB_in 348 (by decide +kernel) rfl
theorem xw_De_isIdle {R : Room} {s : State} {args : Array Value} {own : String} {index : Nat} (hts : ∀ w ∈ vTB, w.before args s = true) (hl : Cond.methodLink own index xy_De_isIdle ∈ vTB) (hR : xrm_De_isIdle.frames + 1 ≤ R.frames ∧ 8 + (1 + 11) + xrm_De_isIdle.locals ≤ R.locals) : CallW R s args own R_De index xy_De_isIdle xb_De_isIdle 1 (some .boolean) (Cond.code xy_De_isIdle xb_De_isIdle 1 (some .boolean) :: vTB) xrm_De_isIdle 0 0 0 := cwV 0 hts (fw_gV vTB_good xK_De_isIdle hl xI_De_isIdle xS_De_isIdle N_De) rfl rfl rfl (by decide +kernel) hR
theorem xd_De_isIdle_0 : decode xb_De_isIdle 0 = .ok (.aload_n 0, 1) := by decide +kernel
theorem xd_De_isIdle_1 : decode xb_De_isIdle 1 = .ok (.getfield 62, 3) := by decide +kernel
theorem xd_De_isIdle_4 : decode xb_De_isIdle 4 = .ok (.ifCond .ne 7, 3) := by decide +kernel
theorem xd_De_isIdle_7 : decode xb_De_isIdle 7 = .ok (.iconst 1, 1) := by decide +kernel
theorem xd_De_isIdle_8 : decode xb_De_isIdle 8 = .ok (.goto 4, 3) := by decide +kernel
theorem xd_De_isIdle_11 : decode xb_De_isIdle 11 = .ok (.iconst 0, 1) := by decide +kernel
theorem xd_De_isIdle_12 : decode xb_De_isIdle 12 = .ok (.ireturn, 1) := by decide +kernel
abbrev xb_FR_allAtRest : ByteArray := prog_1_method_22_code
def xy_FR_allAtRest : MethodName := ⟨R_FR, "allAtRest", "()Z"⟩
abbrev xrm_FR_allAtRest : Room := { frames := 1, cells := 0, slots := 0, locals := 20 }
theorem xK_FR_allAtRest : Cond.code xy_FR_allAtRest xb_FR_allAtRest 2 (some .boolean) ∈ vTB := vTB_in 341 (by decide +kernel) rfl
theorem xI_FR_allAtRest : Cond.instanceMethod xy_FR_allAtRest ∈ vTB := vTB_in 340 (by decide +kernel) rfl
theorem xS_FR_allAtRest : Cond.selects R_FR xy_FR_allAtRest xy_FR_allAtRest ∈ vTB := vTB_sel (q := (xy_FR_allAtRest, 9)) 0 (by decide +kernel)
theorem xw_FR_allAtRest {R : Room} {s : State} {args : Array Value} {own : String} {index : Nat} (hts : ∀ w ∈ vTB, w.before args s = true) (hl : Cond.methodLink own index xy_FR_allAtRest ∈ vTB) (hR : xrm_FR_allAtRest.frames + 1 ≤ R.frames ∧ 8 + (2 + 11) + xrm_FR_allAtRest.locals ≤ R.locals) : CallW R s args own R_FR index xy_FR_allAtRest xb_FR_allAtRest 2 (some .boolean) (Cond.code xy_FR_allAtRest xb_FR_allAtRest 2 (some .boolean) :: vTB) xrm_FR_allAtRest 0 0 0 := cwV 0 hts (fw_gV vTB_good xK_FR_allAtRest hl xI_FR_allAtRest xS_FR_allAtRest N_FR) rfl rfl rfl (by decide +kernel) hR
theorem xd_FR_allAtRest_0 : decode xb_FR_allAtRest 0 = .ok (.iconst 0, 1) := by decide +kernel
theorem xd_FR_allAtRest_1 : decode xb_FR_allAtRest 1 = .ok (.istore_n 1, 1) := by decide +kernel
theorem xd_FR_allAtRest_2 : decode xb_FR_allAtRest 2 = .ok (.iload_n 1, 1) := by decide +kernel
theorem xd_FR_allAtRest_3 : decode xb_FR_allAtRest 3 = .ok (.iconst 2, 1) := by decide +kernel
theorem xd_FR_allAtRest_4 : decode xb_FR_allAtRest 4 = .ok (.if_icmp .ge 35, 3) := by decide +kernel
theorem xd_FR_allAtRest_7 : decode xb_FR_allAtRest 7 = .ok (.aload_n 0, 1) := by decide +kernel
theorem xd_FR_allAtRest_8 : decode xb_FR_allAtRest 8 = .ok (.getfield 32, 3) := by decide +kernel
theorem xd_FR_allAtRest_11 : decode xb_FR_allAtRest 11 = .ok (.iload_n 1, 1) := by decide +kernel
theorem xd_FR_allAtRest_12 : decode xb_FR_allAtRest 12 = .ok (.aaload, 1) := by decide +kernel
theorem xd_FR_allAtRest_13 : decode xb_FR_allAtRest 13 = .ok (.invokevirtual 99, 3) := by decide +kernel
theorem xd_FR_allAtRest_16 : decode xb_FR_allAtRest 16 = .ok (.ifCond .eq 15, 3) := by decide +kernel
theorem xd_FR_allAtRest_19 : decode xb_FR_allAtRest 19 = .ok (.aload_n 0, 1) := by decide +kernel
theorem xd_FR_allAtRest_20 : decode xb_FR_allAtRest 20 = .ok (.getfield 38, 3) := by decide +kernel
theorem xd_FR_allAtRest_23 : decode xb_FR_allAtRest 23 = .ok (.iload_n 1, 1) := by decide +kernel
theorem xd_FR_allAtRest_24 : decode xb_FR_allAtRest 24 = .ok (.aaload, 1) := by decide +kernel
theorem xd_FR_allAtRest_25 : decode xb_FR_allAtRest 25 = .ok (.invokevirtual 194, 3) := by decide +kernel
theorem xd_FR_allAtRest_28 : decode xb_FR_allAtRest 28 = .ok (.ifCond .ne 5, 3) := by decide +kernel
theorem xd_FR_allAtRest_31 : decode xb_FR_allAtRest 31 = .ok (.iconst 0, 1) := by decide +kernel
theorem xd_FR_allAtRest_32 : decode xb_FR_allAtRest 32 = .ok (.ireturn, 1) := by decide +kernel
theorem xd_FR_allAtRest_33 : decode xb_FR_allAtRest 33 = .ok (.iinc 1 1, 3) := by decide +kernel
theorem xd_FR_allAtRest_36 : decode xb_FR_allAtRest 36 = .ok (.goto (-34), 3) := by decide +kernel
theorem xd_FR_allAtRest_39 : decode xb_FR_allAtRest 39 = .ok (.iconst 1, 1) := by decide +kernel
theorem xd_FR_allAtRest_40 : decode xb_FR_allAtRest 40 = .ok (.ireturn, 1) := by decide +kernel
abbrev xb_KT_define : ByteArray := prog_7_method_2_code
def xy_KT_define : MethodName := ⟨R_KT, "define", "(IIIZ)V"⟩
abbrev xrm_KT_define : Room := { frames := 0, cells := 0, slots := 0, locals := 0 }
theorem xK_KT_define : Cond.code xy_KT_define xb_KT_define 5 none ∈ vTB := vTB_in 353 (by decide +kernel) rfl
theorem xI_KT_define : Cond.instanceMethod xy_KT_define ∈ vTB := vTB_in 351 (by decide +kernel) rfl
theorem xS_KT_define : Cond.selects R_KT xy_KT_define xy_KT_define ∈ vTB := vTB_in 352 (by decide +kernel) rfl
theorem xw_KT_define {R : Room} {s : State} {args : Array Value} {own : String} {index : Nat} (hts : ∀ w ∈ vTB, w.before args s = true) (hl : Cond.methodLink own index xy_KT_define ∈ vTB) (hR : xrm_KT_define.frames + 1 ≤ R.frames ∧ 8 + (5 + 11) + xrm_KT_define.locals ≤ R.locals) : CallW R s args own R_KT index xy_KT_define xb_KT_define 5 none (Cond.code xy_KT_define xb_KT_define 5 none :: vTB) xrm_KT_define 0 0 4 := cwV 4 hts (fw_gV vTB_good xK_KT_define hl xI_KT_define xS_KT_define N_KT) rfl rfl rfl (by decide +kernel) hR
theorem xd_KT_define_0 : decode xb_KT_define 0 = .ok (.aload_n 0, 1) := by decide +kernel
theorem xd_KT_define_1 : decode xb_KT_define 1 = .ok (.getfield 9, 3) := by decide +kernel
theorem xd_KT_define_4 : decode xb_KT_define 4 = .ok (.iload_n 1, 1) := by decide +kernel
theorem xd_KT_define_5 : decode xb_KT_define 5 = .ok (.iload_n 2, 1) := by decide +kernel
theorem xd_KT_define_6 : decode xb_KT_define 6 = .ok (.iastore, 1) := by decide +kernel
theorem xd_KT_define_7 : decode xb_KT_define 7 = .ok (.aload_n 0, 1) := by decide +kernel
theorem xd_KT_define_8 : decode xb_KT_define 8 = .ok (.getfield 15, 3) := by decide +kernel
theorem xd_KT_define_11 : decode xb_KT_define 11 = .ok (.iload_n 1, 1) := by decide +kernel
theorem xd_KT_define_12 : decode xb_KT_define 12 = .ok (.iload_n 3, 1) := by decide +kernel
theorem xd_KT_define_13 : decode xb_KT_define 13 = .ok (.iastore, 1) := by decide +kernel
theorem xd_KT_define_14 : decode xb_KT_define 14 = .ok (.aload_n 0, 1) := by decide +kernel
theorem xd_KT_define_15 : decode xb_KT_define 15 = .ok (.getfield 18, 3) := by decide +kernel
theorem xd_KT_define_18 : decode xb_KT_define 18 = .ok (.iload_n 1, 1) := by decide +kernel
theorem xd_KT_define_19 : decode xb_KT_define 19 = .ok (.iload 4, 2) := by decide +kernel
theorem xd_KT_define_21 : decode xb_KT_define 21 = .ok (.bastore, 1) := by decide +kernel
theorem xd_KT_define_22 : decode xb_KT_define 22 = .ok (.return_, 1) := by decide +kernel
abbrev xb_FR_kind : ByteArray := prog_1_method_2_code
def xy_FR_kind : MethodName := ⟨R_FR, "kind", "(IIIZ)Z"⟩
abbrev xrm_FR_kind : Room := { frames := 2, cells := 0, slots := 0, locals := 42 }
theorem xK_FR_kind : Cond.code xy_FR_kind xb_FR_kind 5 (some .boolean) ∈ vTB := vTB_in 331 (by decide +kernel) rfl
theorem xI_FR_kind : Cond.instanceMethod xy_FR_kind ∈ vTB := vTB_in 329 (by decide +kernel) rfl
theorem xS_FR_kind : Cond.selects R_FR xy_FR_kind xy_FR_kind ∈ vTB := vTB_in 330 (by decide +kernel) rfl
theorem xw_FR_kind {R : Room} {s : State} {args : Array Value} {own : String} {index : Nat} (hts : ∀ w ∈ vTB, w.before args s = true) (hl : Cond.methodLink own index xy_FR_kind ∈ vTB) (hR : xrm_FR_kind.frames + 1 ≤ R.frames ∧ 8 + (5 + 11) + xrm_FR_kind.locals ≤ R.locals) : CallW R s args own R_FR index xy_FR_kind xb_FR_kind 5 (some .boolean) (Cond.code xy_FR_kind xb_FR_kind 5 (some .boolean) :: vTB) xrm_FR_kind 0 0 4 := cwV 4 hts (fw_gV vTB_good xK_FR_kind hl xI_FR_kind xS_FR_kind N_FR) rfl rfl rfl (by decide +kernel) hR
theorem xd_FR_kind_0 : decode xb_FR_kind 0 = .ok (.iload_n 1, 1) := by decide +kernel
theorem xd_FR_kind_1 : decode xb_FR_kind 1 = .ok (.invokestatic 48, 3) := by decide +kernel
theorem xd_FR_kind_4 : decode xb_FR_kind 4 = .ok (.ifCond .eq 28, 3) := by decide +kernel
theorem xd_FR_kind_7 : decode xb_FR_kind 7 = .ok (.iload_n 2, 1) := by decide +kernel
theorem xd_FR_kind_8 : decode xb_FR_kind 8 = .ok (.iconst 0, 1) := by decide +kernel
theorem xd_FR_kind_9 : decode xb_FR_kind 9 = .ok (.iconst 2, 1) := by decide +kernel
theorem xd_FR_kind_10 : decode xb_FR_kind 10 = .ok (.invokestatic 52, 3) := by decide +kernel
theorem xd_FR_kind_13 : decode xb_FR_kind 13 = .ok (.ifCond .eq 19, 3) := by decide +kernel
theorem xd_FR_kind_16 : decode xb_FR_kind 16 = .ok (.iload_n 3, 1) := by decide +kernel
theorem xd_FR_kind_17 : decode xb_FR_kind 17 = .ok (.iconst 0, 1) := by decide +kernel
theorem xd_FR_kind_18 : decode xb_FR_kind 18 = .ok (.iconst 2, 1) := by decide +kernel
theorem xd_FR_kind_19 : decode xb_FR_kind 19 = .ok (.invokestatic 52, 3) := by decide +kernel
theorem xd_FR_kind_22 : decode xb_FR_kind 22 = .ok (.ifCond .eq 10, 3) := by decide +kernel
theorem xd_FR_kind_25 : decode xb_FR_kind 25 = .ok (.aload_n 0, 1) := by decide +kernel
theorem xd_FR_kind_26 : decode xb_FR_kind 26 = .ok (.invokevirtual 56, 3) := by decide +kernel
theorem xd_FR_kind_29 : decode xb_FR_kind 29 = .ok (.ifCond .ne 5, 3) := by decide +kernel
theorem xd_FR_kind_32 : decode xb_FR_kind 32 = .ok (.iconst 0, 1) := by decide +kernel
theorem xd_FR_kind_33 : decode xb_FR_kind 33 = .ok (.ireturn, 1) := by decide +kernel
theorem xd_FR_kind_34 : decode xb_FR_kind 34 = .ok (.aload_n 0, 1) := by decide +kernel
theorem xd_FR_kind_35 : decode xb_FR_kind 35 = .ok (.getfield 12, 3) := by decide +kernel
theorem xd_FR_kind_38 : decode xb_FR_kind 38 = .ok (.iload_n 1, 1) := by decide +kernel
theorem xd_FR_kind_39 : decode xb_FR_kind 39 = .ok (.iload_n 2, 1) := by decide +kernel
theorem xd_FR_kind_40 : decode xb_FR_kind 40 = .ok (.iload_n 3, 1) := by decide +kernel
theorem xd_FR_kind_41 : decode xb_FR_kind 41 = .ok (.iload 4, 2) := by decide +kernel
theorem xd_FR_kind_43 : decode xb_FR_kind 43 = .ok (.invokevirtual 60, 3) := by decide +kernel
theorem xd_FR_kind_46 : decode xb_FR_kind 46 = .ok (.iconst 1, 1) := by decide +kernel
theorem xd_FR_kind_47 : decode xb_FR_kind 47 = .ok (.ireturn, 1) := by decide +kernel
abbrev xb_FR_isDevice : ByteArray := prog_1_method_25_code
def xy_FR_isDevice : MethodName := ⟨R_FR, "isDevice", "(I)Z"⟩
abbrev xrm_FR_isDevice : Room := { frames := 1, cells := 0, slots := 0, locals := 22 }
theorem xK_FR_isDevice : Cond.code xy_FR_isDevice xb_FR_isDevice 1 (some .boolean) ∈ vTB := vTB_in 360 (by decide +kernel) rfl
theorem xS_FR_isDevice : Cond.static xy_FR_isDevice ∈ vTB := vTB_in 359 (by decide +kernel) rfl
theorem xw_FR_isDevice {R : Room} {s : State} {args : Array Value} {own : String} {index : Nat} (hts : ∀ w ∈ vTB, w.before args s = true) (hl : Cond.methodLink own index xy_FR_isDevice ∈ vTB) (hR : xrm_FR_isDevice.frames + 1 ≤ R.frames ∧ 8 + (1 + 11) + xrm_FR_isDevice.locals ≤ R.locals) : CallB R s args own index xy_FR_isDevice xb_FR_isDevice 1 (some .boolean) (Cond.code xy_FR_isDevice xb_FR_isDevice 1 (some .boolean) :: vTB) xrm_FR_isDevice 0 0 1 ∧ (Cond.static xy_FR_isDevice).before args s = true := va_cwS 1 hts (fw_gS2 vTB_good xK_FR_isDevice hl xS_FR_isDevice N_FR) rfl rfl rfl (by decide +kernel) hR
theorem xwn_FR_isDevice {R : Room} {s : State} {args : Array Value} {own host : String} {index : Nat} (hts : ∀ w ∈ vTB, w.before args s = true) (hl : va_Nw (.methodLinkNest own index xy_FR_isDevice host) s) (hR : xrm_FR_isDevice.frames + 1 ≤ R.frames ∧ 8 + (1 + 11) + xrm_FR_isDevice.locals ≤ R.locals) : va_CN R s args own index xy_FR_isDevice host xb_FR_isDevice 1 (some .boolean) (Cond.code xy_FR_isDevice xb_FR_isDevice 1 (some .boolean) :: vTB) xrm_FR_isDevice 0 0 1 ∧ (Cond.static xy_FR_isDevice).before args s = true ∧ True := ⟨va_cnB 1 hts (fw_gI vTB_good xK_FR_isDevice) rfl rfl rfl hl (hts _ N_FR) (by decide +kernel) hR, hts _ xS_FR_isDevice, trivial⟩
theorem xd_FR_isDevice_0 : decode xb_FR_isDevice 0 = .ok (.iload_n 0, 1) := by decide +kernel
theorem xd_FR_isDevice_1 : decode xb_FR_isDevice 1 = .ok (.iconst 0, 1) := by decide +kernel
theorem xd_FR_isDevice_2 : decode xb_FR_isDevice 2 = .ok (.iconst 1, 1) := by decide +kernel
theorem xd_FR_isDevice_3 : decode xb_FR_isDevice 3 = .ok (.invokestatic 52, 3) := by decide +kernel
theorem xd_FR_isDevice_6 : decode xb_FR_isDevice 6 = .ok (.ireturn, 1) := by decide +kernel
abbrev xb_FR_name : ByteArray := prog_1_method_3_code
def xy_FR_name : MethodName := ⟨R_FR, "name", "(II)Z"⟩
abbrev xrm_FR_name : Room := { frames := 2, cells := 0, slots := 0, locals := 42 }
theorem xK_FR_name : Cond.code xy_FR_name xb_FR_name 3 (some .boolean) ∈ vTB := vTB_in 357 (by decide +kernel) rfl
theorem xI_FR_name : Cond.instanceMethod xy_FR_name ∈ vTB := vTB_in 355 (by decide +kernel) rfl
theorem xS_FR_name : Cond.selects R_FR xy_FR_name xy_FR_name ∈ vTB := vTB_in 356 (by decide +kernel) rfl
theorem xw_FR_name {R : Room} {s : State} {args : Array Value} {own : String} {index : Nat} (hts : ∀ w ∈ vTB, w.before args s = true) (hl : Cond.methodLink own index xy_FR_name ∈ vTB) (hR : xrm_FR_name.frames + 1 ≤ R.frames ∧ 8 + (3 + 11) + xrm_FR_name.locals ≤ R.locals) : CallW R s args own R_FR index xy_FR_name xb_FR_name 3 (some .boolean) (Cond.code xy_FR_name xb_FR_name 3 (some .boolean) :: vTB) xrm_FR_name 0 0 2 := cwV 2 hts (fw_gV vTB_good xK_FR_name hl xI_FR_name xS_FR_name N_FR) rfl rfl rfl (by decide +kernel) hR
theorem xd_FR_name_0 : decode xb_FR_name 0 = .ok (.iload_n 1, 1) := by decide +kernel
theorem xd_FR_name_1 : decode xb_FR_name 1 = .ok (.invokestatic 64, 3) := by decide +kernel
theorem xd_FR_name_4 : decode xb_FR_name 4 = .ok (.ifCond .eq 13, 3) := by decide +kernel
theorem xd_FR_name_7 : decode xb_FR_name 7 = .ok (.iload_n 2, 1) := by decide +kernel
theorem xd_FR_name_8 : decode xb_FR_name 8 = .ok (.iconst 0, 1) := by decide +kernel
theorem xd_FR_name_9 : decode xb_FR_name 9 = .ok (.bipush 15, 2) := by decide +kernel
theorem xd_FR_name_11 : decode xb_FR_name 11 = .ok (.invokestatic 52, 3) := by decide +kernel
theorem xd_FR_name_14 : decode xb_FR_name 14 = .ok (.ifCond .ne 5, 3) := by decide +kernel
theorem xd_FR_name_17 : decode xb_FR_name 17 = .ok (.iconst 0, 1) := by decide +kernel
theorem xd_FR_name_18 : decode xb_FR_name 18 = .ok (.ireturn, 1) := by decide +kernel
theorem xd_FR_name_19 : decode xb_FR_name 19 = .ok (.aload_n 0, 1) := by decide +kernel
theorem xd_FR_name_20 : decode xb_FR_name 20 = .ok (.getfield 38, 3) := by decide +kernel
theorem xd_FR_name_23 : decode xb_FR_name 23 = .ok (.iload_n 1, 1) := by decide +kernel
theorem xd_FR_name_24 : decode xb_FR_name 24 = .ok (.aaload, 1) := by decide +kernel
theorem xd_FR_name_25 : decode xb_FR_name 25 = .ok (.iload_n 2, 1) := by decide +kernel
theorem xd_FR_name_26 : decode xb_FR_name 26 = .ok (.putfield 67, 3) := by decide +kernel
theorem xd_FR_name_29 : decode xb_FR_name 29 = .ok (.iconst 1, 1) := by decide +kernel
theorem xd_FR_name_30 : decode xb_FR_name 30 = .ok (.ireturn, 1) := by decide +kernel
abbrev xb_FR_isSlot : ByteArray := prog_1_method_26_code
def xy_FR_isSlot : MethodName := ⟨R_FR, "isSlot", "(I)Z"⟩
abbrev xrm_FR_isSlot : Room := { frames := 1, cells := 0, slots := 0, locals := 22 }
theorem xK_FR_isSlot : Cond.code xy_FR_isSlot xb_FR_isSlot 1 (some .boolean) ∈ vTB := vTB_in 367 (by decide +kernel) rfl
theorem xS_FR_isSlot : Cond.static xy_FR_isSlot ∈ vTB := vTB_in 366 (by decide +kernel) rfl
theorem xw_FR_isSlot {R : Room} {s : State} {args : Array Value} {own : String} {index : Nat} (hts : ∀ w ∈ vTB, w.before args s = true) (hl : Cond.methodLink own index xy_FR_isSlot ∈ vTB) (hR : xrm_FR_isSlot.frames + 1 ≤ R.frames ∧ 8 + (1 + 11) + xrm_FR_isSlot.locals ≤ R.locals) : CallB R s args own index xy_FR_isSlot xb_FR_isSlot 1 (some .boolean) (Cond.code xy_FR_isSlot xb_FR_isSlot 1 (some .boolean) :: vTB) xrm_FR_isSlot 0 0 1 ∧ (Cond.static xy_FR_isSlot).before args s = true := va_cwS 1 hts (fw_gS2 vTB_good xK_FR_isSlot hl xS_FR_isSlot N_FR) rfl rfl rfl (by decide +kernel) hR
theorem xwn_FR_isSlot {R : Room} {s : State} {args : Array Value} {own host : String} {index : Nat} (hts : ∀ w ∈ vTB, w.before args s = true) (hl : va_Nw (.methodLinkNest own index xy_FR_isSlot host) s) (hR : xrm_FR_isSlot.frames + 1 ≤ R.frames ∧ 8 + (1 + 11) + xrm_FR_isSlot.locals ≤ R.locals) : va_CN R s args own index xy_FR_isSlot host xb_FR_isSlot 1 (some .boolean) (Cond.code xy_FR_isSlot xb_FR_isSlot 1 (some .boolean) :: vTB) xrm_FR_isSlot 0 0 1 ∧ (Cond.static xy_FR_isSlot).before args s = true ∧ True := ⟨va_cnB 1 hts (fw_gI vTB_good xK_FR_isSlot) rfl rfl rfl hl (hts _ N_FR) (by decide +kernel) hR, hts _ xS_FR_isSlot, trivial⟩
theorem xd_FR_isSlot_0 : decode xb_FR_isSlot 0 = .ok (.iload_n 0, 1) := by decide +kernel
theorem xd_FR_isSlot_1 : decode xb_FR_isSlot 1 = .ok (.iconst 0, 1) := by decide +kernel
theorem xd_FR_isSlot_2 : decode xb_FR_isSlot 2 = .ok (.iconst 2, 1) := by decide +kernel
theorem xd_FR_isSlot_3 : decode xb_FR_isSlot 3 = .ok (.invokestatic 52, 3) := by decide +kernel
theorem xd_FR_isSlot_6 : decode xb_FR_isSlot 6 = .ok (.ireturn, 1) := by decide +kernel
abbrev xb_FR_isKindOrNone : ByteArray := prog_1_method_29_code
def xy_FR_isKindOrNone : MethodName := ⟨R_FR, "isKindOrNone", "(I)Z"⟩
abbrev xrm_FR_isKindOrNone : Room := { frames := 2, cells := 0, slots := 0, locals := 42 }
theorem xK_FR_isKindOrNone : Cond.code xy_FR_isKindOrNone xb_FR_isKindOrNone 1 (some .boolean) ∈ vTB := vTB_in 370 (by decide +kernel) rfl
theorem xS_FR_isKindOrNone : Cond.static xy_FR_isKindOrNone ∈ vTB := vTB_in 369 (by decide +kernel) rfl
theorem xw_FR_isKindOrNone {R : Room} {s : State} {args : Array Value} {own : String} {index : Nat} (hts : ∀ w ∈ vTB, w.before args s = true) (hl : Cond.methodLink own index xy_FR_isKindOrNone ∈ vTB) (hR : xrm_FR_isKindOrNone.frames + 1 ≤ R.frames ∧ 8 + (1 + 11) + xrm_FR_isKindOrNone.locals ≤ R.locals) : CallB R s args own index xy_FR_isKindOrNone xb_FR_isKindOrNone 1 (some .boolean) (Cond.code xy_FR_isKindOrNone xb_FR_isKindOrNone 1 (some .boolean) :: vTB) xrm_FR_isKindOrNone 0 0 1 ∧ (Cond.static xy_FR_isKindOrNone).before args s = true := va_cwS 1 hts (fw_gS2 vTB_good xK_FR_isKindOrNone hl xS_FR_isKindOrNone N_FR) rfl rfl rfl (by decide +kernel) hR
theorem xwn_FR_isKindOrNone {R : Room} {s : State} {args : Array Value} {own host : String} {index : Nat} (hts : ∀ w ∈ vTB, w.before args s = true) (hl : va_Nw (.methodLinkNest own index xy_FR_isKindOrNone host) s) (hR : xrm_FR_isKindOrNone.frames + 1 ≤ R.frames ∧ 8 + (1 + 11) + xrm_FR_isKindOrNone.locals ≤ R.locals) : va_CN R s args own index xy_FR_isKindOrNone host xb_FR_isKindOrNone 1 (some .boolean) (Cond.code xy_FR_isKindOrNone xb_FR_isKindOrNone 1 (some .boolean) :: vTB) xrm_FR_isKindOrNone 0 0 1 ∧ (Cond.static xy_FR_isKindOrNone).before args s = true ∧ True := ⟨va_cnB 1 hts (fw_gI vTB_good xK_FR_isKindOrNone) rfl rfl rfl hl (hts _ N_FR) (by decide +kernel) hR, hts _ xS_FR_isKindOrNone, trivial⟩
theorem xd_FR_isKindOrNone_0 : decode xb_FR_isKindOrNone 0 = .ok (.iload_n 0, 1) := by decide +kernel
theorem xd_FR_isKindOrNone_1 : decode xb_FR_isKindOrNone 1 = .ok (.iconst (-1), 1) := by decide +kernel
theorem xd_FR_isKindOrNone_2 : decode xb_FR_isKindOrNone 2 = .ok (.if_icmp .eq 10, 3) := by decide +kernel
theorem xd_FR_isKindOrNone_5 : decode xb_FR_isKindOrNone 5 = .ok (.iload_n 0, 1) := by decide +kernel
theorem xd_FR_isKindOrNone_6 : decode xb_FR_isKindOrNone 6 = .ok (.invokestatic 48, 3) := by decide +kernel
theorem xd_FR_isKindOrNone_9 : decode xb_FR_isKindOrNone 9 = .ok (.ifCond .eq 7, 3) := by decide +kernel
theorem xd_FR_isKindOrNone_12 : decode xb_FR_isKindOrNone 12 = .ok (.iconst 1, 1) := by decide +kernel
theorem xd_FR_isKindOrNone_13 : decode xb_FR_isKindOrNone 13 = .ok (.goto 4, 3) := by decide +kernel
theorem xd_FR_isKindOrNone_16 : decode xb_FR_isKindOrNone 16 = .ok (.iconst 0, 1) := by decide +kernel
theorem xd_FR_isKindOrNone_17 : decode xb_FR_isKindOrNone 17 = .ok (.ireturn, 1) := by decide +kernel
abbrev xb_KT_outsOf : ByteArray := prog_7_method_4_code
def xy_KT_outsOf : MethodName := ⟨R_KT, "outsOf", "(I)I"⟩
abbrev xrm_KT_outsOf : Room := { frames := 0, cells := 0, slots := 0, locals := 0 }
theorem xK_KT_outsOf : Cond.code xy_KT_outsOf xb_KT_outsOf 2 (some .int) ∈ vTB := vTB_in 382 (by decide +kernel) rfl
theorem xI_KT_outsOf : Cond.instanceMethod xy_KT_outsOf ∈ vTB := vTB_in 380 (by decide +kernel) rfl
theorem xS_KT_outsOf : Cond.selects R_KT xy_KT_outsOf xy_KT_outsOf ∈ vTB := vTB_in 381 (by decide +kernel) rfl
theorem xw_KT_outsOf {R : Room} {s : State} {args : Array Value} {own : String} {index : Nat} (hts : ∀ w ∈ vTB, w.before args s = true) (hl : Cond.methodLink own index xy_KT_outsOf ∈ vTB) (hR : xrm_KT_outsOf.frames + 1 ≤ R.frames ∧ 8 + (2 + 11) + xrm_KT_outsOf.locals ≤ R.locals) : CallW R s args own R_KT index xy_KT_outsOf xb_KT_outsOf 2 (some .int) (Cond.code xy_KT_outsOf xb_KT_outsOf 2 (some .int) :: vTB) xrm_KT_outsOf 0 0 1 := cwV 1 hts (fw_gV vTB_good xK_KT_outsOf hl xI_KT_outsOf xS_KT_outsOf N_KT) rfl rfl rfl (by decide +kernel) hR
theorem xd_KT_outsOf_0 : decode xb_KT_outsOf 0 = .ok (.iload_n 1, 1) := by decide +kernel
theorem xd_KT_outsOf_1 : decode xb_KT_outsOf 1 = .ok (.ifCond .lt 18, 3) := by decide +kernel
theorem xd_KT_outsOf_4 : decode xb_KT_outsOf 4 = .ok (.iload_n 1, 1) := by decide +kernel
theorem xd_KT_outsOf_5 : decode xb_KT_outsOf 5 = .ok (.bipush 8, 2) := by decide +kernel
theorem xd_KT_outsOf_7 : decode xb_KT_outsOf 7 = .ok (.if_icmp .ge 12, 3) := by decide +kernel
theorem xd_KT_outsOf_10 : decode xb_KT_outsOf 10 = .ok (.aload_n 0, 1) := by decide +kernel
theorem xd_KT_outsOf_11 : decode xb_KT_outsOf 11 = .ok (.getfield 15, 3) := by decide +kernel
theorem xd_KT_outsOf_14 : decode xb_KT_outsOf 14 = .ok (.iload_n 1, 1) := by decide +kernel
theorem xd_KT_outsOf_15 : decode xb_KT_outsOf 15 = .ok (.iaload, 1) := by decide +kernel
theorem xd_KT_outsOf_16 : decode xb_KT_outsOf 16 = .ok (.goto 4, 3) := by decide +kernel
theorem xd_KT_outsOf_19 : decode xb_KT_outsOf 19 = .ok (.iconst 0, 1) := by decide +kernel
theorem xd_KT_outsOf_20 : decode xb_KT_outsOf 20 = .ok (.ireturn, 1) := by decide +kernel
abbrev xb_FR_place : ByteArray := prog_1_method_31_code
def xy_FR_place : MethodName := ⟨R_FR, "place", "(II)I"⟩
abbrev xrm_FR_place : Room := { frames := 0, cells := 0, slots := 0, locals := 0 }
theorem xK_FR_place : Cond.code xy_FR_place xb_FR_place 2 (some .int) ∈ vTB := vTB_in 385 (by decide +kernel) rfl
theorem xS_FR_place : Cond.static xy_FR_place ∈ vTB := vTB_in 384 (by decide +kernel) rfl
theorem xw_FR_place {R : Room} {s : State} {args : Array Value} {own : String} {index : Nat} (hts : ∀ w ∈ vTB, w.before args s = true) (hl : Cond.methodLink own index xy_FR_place ∈ vTB) (hR : xrm_FR_place.frames + 1 ≤ R.frames ∧ 8 + (2 + 11) + xrm_FR_place.locals ≤ R.locals) : CallB R s args own index xy_FR_place xb_FR_place 2 (some .int) (Cond.code xy_FR_place xb_FR_place 2 (some .int) :: vTB) xrm_FR_place 0 0 2 ∧ (Cond.static xy_FR_place).before args s = true := va_cwS 2 hts (fw_gS2 vTB_good xK_FR_place hl xS_FR_place N_FR) rfl rfl rfl (by decide +kernel) hR
theorem xwn_FR_place {R : Room} {s : State} {args : Array Value} {own host : String} {index : Nat} (hts : ∀ w ∈ vTB, w.before args s = true) (hl : va_Nw (.methodLinkNest own index xy_FR_place host) s) (hR : xrm_FR_place.frames + 1 ≤ R.frames ∧ 8 + (2 + 11) + xrm_FR_place.locals ≤ R.locals) : va_CN R s args own index xy_FR_place host xb_FR_place 2 (some .int) (Cond.code xy_FR_place xb_FR_place 2 (some .int) :: vTB) xrm_FR_place 0 0 2 ∧ (Cond.static xy_FR_place).before args s = true ∧ True := ⟨va_cnB 2 hts (fw_gI vTB_good xK_FR_place) rfl rfl rfl hl (hts _ N_FR) (by decide +kernel) hR, hts _ xS_FR_place, trivial⟩
theorem xd_FR_place_0 : decode xb_FR_place 0 = .ok (.iload_n 0, 1) := by decide +kernel
theorem xd_FR_place_1 : decode xb_FR_place 1 = .ok (.iconst 2, 1) := by decide +kernel
theorem xd_FR_place_2 : decode xb_FR_place 2 = .ok (.imul, 1) := by decide +kernel
theorem xd_FR_place_3 : decode xb_FR_place 3 = .ok (.iload_n 1, 1) := by decide +kernel
theorem xd_FR_place_4 : decode xb_FR_place 4 = .ok (.iadd, 1) := by decide +kernel
theorem xd_FR_place_5 : decode xb_FR_place 5 = .ok (.ireturn, 1) := by decide +kernel
abbrev xb_De_showFallback : ByteArray := prog_5_method_18_code
def xy_De_showFallback : MethodName := ⟨R_De, "showFallback", "(I)V"⟩
abbrev xrm_De_showFallback : Room := { frames := 1, cells := 0, slots := 0, locals := 21 }
theorem xK_De_showFallback : Cond.code xy_De_showFallback xb_De_showFallback 5 none ∈ vTB := vTB_in 378 (by decide +kernel) rfl
theorem xI_De_showFallback : Cond.instanceMethod xy_De_showFallback ∈ vTB := vTB_in 377 (by decide +kernel) rfl
theorem xS_De_showFallback : Cond.selects R_De xy_De_showFallback xy_De_showFallback ∈ vTB := vTB_sel (q := (xy_De_showFallback, 19)) 1 (by decide +kernel)
theorem xw_De_showFallback {R : Room} {s : State} {args : Array Value} {own : String} {index : Nat} (hts : ∀ w ∈ vTB, w.before args s = true) (hl : Cond.methodLink own index xy_De_showFallback ∈ vTB) (hR : xrm_De_showFallback.frames + 1 ≤ R.frames ∧ 8 + (5 + 11) + xrm_De_showFallback.locals ≤ R.locals) : CallW R s args own R_De index xy_De_showFallback xb_De_showFallback 5 none (Cond.code xy_De_showFallback xb_De_showFallback 5 none :: vTB) xrm_De_showFallback 0 0 1 := cwV 1 hts (fw_gV vTB_good xK_De_showFallback hl xI_De_showFallback xS_De_showFallback N_De) rfl rfl rfl (by decide +kernel) hR
theorem xd_De_showFallback_0 : decode xb_De_showFallback 0 = .ok (.aload_n 0, 1) := by decide +kernel
theorem xd_De_showFallback_1 : decode xb_De_showFallback 1 = .ok (.getfield 48, 3) := by decide +kernel
theorem xd_De_showFallback_4 : decode xb_De_showFallback 4 = .ok (.aload_n 0, 1) := by decide +kernel
theorem xd_De_showFallback_5 : decode xb_De_showFallback 5 = .ok (.getfield 29, 3) := by decide +kernel
theorem xd_De_showFallback_8 : decode xb_De_showFallback 8 = .ok (.iload_n 1, 1) := by decide +kernel
theorem xd_De_showFallback_9 : decode xb_De_showFallback 9 = .ok (.iaload, 1) := by decide +kernel
theorem xd_De_showFallback_10 : decode xb_De_showFallback 10 = .ok (.invokevirtual 182, 3) := by decide +kernel
theorem xd_De_showFallback_13 : decode xb_De_showFallback 13 = .ok (.istore_n 2, 1) := by decide +kernel
theorem xd_De_showFallback_14 : decode xb_De_showFallback 14 = .ok (.iconst 0, 1) := by decide +kernel
theorem xd_De_showFallback_15 : decode xb_De_showFallback 15 = .ok (.istore_n 3, 1) := by decide +kernel
theorem xd_De_showFallback_16 : decode xb_De_showFallback 16 = .ok (.iload_n 3, 1) := by decide +kernel
theorem xd_De_showFallback_17 : decode xb_De_showFallback 17 = .ok (.iconst 2, 1) := by decide +kernel
theorem xd_De_showFallback_18 : decode xb_De_showFallback 18 = .ok (.if_icmp .ge 58, 3) := by decide +kernel
theorem xd_De_showFallback_21 : decode xb_De_showFallback 21 = .ok (.iload_n 1, 1) := by decide +kernel
theorem xd_De_showFallback_22 : decode xb_De_showFallback 22 = .ok (.iload_n 3, 1) := by decide +kernel
theorem xd_De_showFallback_23 : decode xb_De_showFallback 23 = .ok (.invokestatic 186, 3) := by decide +kernel
theorem xd_De_showFallback_26 : decode xb_De_showFallback 26 = .ok (.istore 4, 2) := by decide +kernel
theorem xd_De_showFallback_28 : decode xb_De_showFallback 28 = .ok (.iload_n 3, 1) := by decide +kernel
theorem xd_De_showFallback_29 : decode xb_De_showFallback 29 = .ok (.iload_n 2, 1) := by decide +kernel
theorem xd_De_showFallback_30 : decode xb_De_showFallback 30 = .ok (.if_icmp .ge 10, 3) := by decide +kernel
theorem xd_De_showFallback_33 : decode xb_De_showFallback 33 = .ok (.aload_n 0, 1) := by decide +kernel
theorem xd_De_showFallback_34 : decode xb_De_showFallback 34 = .ok (.getfield 25, 3) := by decide +kernel
theorem xd_De_showFallback_37 : decode xb_De_showFallback 37 = .ok (.ifCond .ne 14, 3) := by decide +kernel
theorem xd_De_showFallback_40 : decode xb_De_showFallback 40 = .ok (.aload_n 0, 1) := by decide +kernel
theorem xd_De_showFallback_41 : decode xb_De_showFallback 41 = .ok (.getfield 36, 3) := by decide +kernel
theorem xd_De_showFallback_44 : decode xb_De_showFallback 44 = .ok (.iload 4, 2) := by decide +kernel
theorem xd_De_showFallback_46 : decode xb_De_showFallback 46 = .ok (.iconst 0, 1) := by decide +kernel
theorem xd_De_showFallback_47 : decode xb_De_showFallback 47 = .ok (.iastore, 1) := by decide +kernel
theorem xd_De_showFallback_48 : decode xb_De_showFallback 48 = .ok (.goto 22, 3) := by decide +kernel
theorem xd_De_showFallback_51 : decode xb_De_showFallback 51 = .ok (.aload_n 0, 1) := by decide +kernel
theorem xd_De_showFallback_52 : decode xb_De_showFallback 52 = .ok (.getfield 25, 3) := by decide +kernel
theorem xd_De_showFallback_55 : decode xb_De_showFallback 55 = .ok (.iconst 1, 1) := by decide +kernel
theorem xd_De_showFallback_56 : decode xb_De_showFallback 56 = .ok (.if_icmp .eq 14, 3) := by decide +kernel
theorem xd_De_showFallback_59 : decode xb_De_showFallback 59 = .ok (.aload_n 0, 1) := by decide +kernel
theorem xd_De_showFallback_60 : decode xb_De_showFallback 60 = .ok (.getfield 36, 3) := by decide +kernel
theorem xd_De_showFallback_63 : decode xb_De_showFallback 63 = .ok (.iload 4, 2) := by decide +kernel
theorem xd_De_showFallback_65 : decode xb_De_showFallback 65 = .ok (.aload_n 0, 1) := by decide +kernel
theorem xd_De_showFallback_66 : decode xb_De_showFallback 66 = .ok (.getfield 65, 3) := by decide +kernel
theorem xd_De_showFallback_69 : decode xb_De_showFallback 69 = .ok (.iastore, 1) := by decide +kernel
theorem xd_De_showFallback_70 : decode xb_De_showFallback 70 = .ok (.iinc 3 1, 3) := by decide +kernel
theorem xd_De_showFallback_73 : decode xb_De_showFallback 73 = .ok (.goto (-57), 3) := by decide +kernel
theorem xd_De_showFallback_76 : decode xb_De_showFallback 76 = .ok (.return_, 1) := by decide +kernel
abbrev xb_FR_withSlot : ByteArray := prog_1_method_33_code
def xy_FR_withSlot : MethodName := ⟨R_FR, "withSlot", "(IIZ)I"⟩
abbrev xrm_FR_withSlot : Room := { frames := 0, cells := 0, slots := 0, locals := 0 }
theorem xK_FR_withSlot : Cond.code xy_FR_withSlot xb_FR_withSlot 3 (some .int) ∈ vTB := vTB_in 388 (by decide +kernel) rfl
theorem xS_FR_withSlot : Cond.static xy_FR_withSlot ∈ vTB := vTB_in 387 (by decide +kernel) rfl
theorem xw_FR_withSlot {R : Room} {s : State} {args : Array Value} {own : String} {index : Nat} (hts : ∀ w ∈ vTB, w.before args s = true) (hl : Cond.methodLink own index xy_FR_withSlot ∈ vTB) (hR : xrm_FR_withSlot.frames + 1 ≤ R.frames ∧ 8 + (3 + 11) + xrm_FR_withSlot.locals ≤ R.locals) : CallB R s args own index xy_FR_withSlot xb_FR_withSlot 3 (some .int) (Cond.code xy_FR_withSlot xb_FR_withSlot 3 (some .int) :: vTB) xrm_FR_withSlot 0 0 3 ∧ (Cond.static xy_FR_withSlot).before args s = true := va_cwS 3 hts (fw_gS2 vTB_good xK_FR_withSlot hl xS_FR_withSlot N_FR) rfl rfl rfl (by decide +kernel) hR
theorem xwn_FR_withSlot {R : Room} {s : State} {args : Array Value} {own host : String} {index : Nat} (hts : ∀ w ∈ vTB, w.before args s = true) (hl : va_Nw (.methodLinkNest own index xy_FR_withSlot host) s) (hR : xrm_FR_withSlot.frames + 1 ≤ R.frames ∧ 8 + (3 + 11) + xrm_FR_withSlot.locals ≤ R.locals) : va_CN R s args own index xy_FR_withSlot host xb_FR_withSlot 3 (some .int) (Cond.code xy_FR_withSlot xb_FR_withSlot 3 (some .int) :: vTB) xrm_FR_withSlot 0 0 3 ∧ (Cond.static xy_FR_withSlot).before args s = true ∧ True := ⟨va_cnB 3 hts (fw_gI vTB_good xK_FR_withSlot) rfl rfl rfl hl (hts _ N_FR) (by decide +kernel) hR, hts _ xS_FR_withSlot, trivial⟩
theorem xd_FR_withSlot_0 : decode xb_FR_withSlot 0 = .ok (.iload_n 2, 1) := by decide +kernel
theorem xd_FR_withSlot_1 : decode xb_FR_withSlot 1 = .ok (.ifCond .eq 11, 3) := by decide +kernel
theorem xd_FR_withSlot_4 : decode xb_FR_withSlot 4 = .ok (.iload_n 0, 1) := by decide +kernel
theorem xd_FR_withSlot_5 : decode xb_FR_withSlot 5 = .ok (.iconst 1, 1) := by decide +kernel
theorem xd_FR_withSlot_6 : decode xb_FR_withSlot 6 = .ok (.iload_n 1, 1) := by decide +kernel
theorem xd_FR_withSlot_7 : decode xb_FR_withSlot 7 = .ok (.ishl, 1) := by decide +kernel
theorem xd_FR_withSlot_8 : decode xb_FR_withSlot 8 = .ok (.ior, 1) := by decide +kernel
theorem xd_FR_withSlot_9 : decode xb_FR_withSlot 9 = .ok (.goto 10, 3) := by decide +kernel
theorem xd_FR_withSlot_12 : decode xb_FR_withSlot 12 = .ok (.iload_n 0, 1) := by decide +kernel
theorem xd_FR_withSlot_13 : decode xb_FR_withSlot 13 = .ok (.iconst 1, 1) := by decide +kernel
theorem xd_FR_withSlot_14 : decode xb_FR_withSlot 14 = .ok (.iload_n 1, 1) := by decide +kernel
theorem xd_FR_withSlot_15 : decode xb_FR_withSlot 15 = .ok (.ishl, 1) := by decide +kernel
theorem xd_FR_withSlot_16 : decode xb_FR_withSlot 16 = .ok (.iconst (-1), 1) := by decide +kernel
theorem xd_FR_withSlot_17 : decode xb_FR_withSlot 17 = .ok (.ixor, 1) := by decide +kernel
theorem xd_FR_withSlot_18 : decode xb_FR_withSlot 18 = .ok (.iand, 1) := by decide +kernel
theorem xd_FR_withSlot_19 : decode xb_FR_withSlot 19 = .ok (.ireturn, 1) := by decide +kernel
abbrev xb_AQ_add : ByteArray := prog_3_method_3_code
def xy_AQ_add : MethodName := ⟨R_AQ, "add", "(II)V"⟩
abbrev xrm_AQ_add : Room := { frames := 0, cells := 0, slots := 0, locals := 0 }
theorem xK_AQ_add : Cond.code xy_AQ_add xb_AQ_add 3 none ∈ vTB := vTB_in 392 (by decide +kernel) rfl
theorem xI_AQ_add : Cond.instanceMethod xy_AQ_add ∈ vTB := vTB_in 390 (by decide +kernel) rfl
theorem xS_AQ_add : Cond.selects R_AQ xy_AQ_add xy_AQ_add ∈ vTB := vTB_in 391 (by decide +kernel) rfl
theorem xw_AQ_add {R : Room} {s : State} {args : Array Value} {own : String} {index : Nat} (hts : ∀ w ∈ vTB, w.before args s = true) (hl : Cond.methodLink own index xy_AQ_add ∈ vTB) (hR : xrm_AQ_add.frames + 1 ≤ R.frames ∧ 8 + (3 + 11) + xrm_AQ_add.locals ≤ R.locals) : CallW R s args own R_AQ index xy_AQ_add xb_AQ_add 3 none (Cond.code xy_AQ_add xb_AQ_add 3 none :: vTB) xrm_AQ_add 0 0 2 := cwV 2 hts (fw_gV vTB_good xK_AQ_add hl xI_AQ_add xS_AQ_add N_AQ) rfl rfl rfl (by decide +kernel) hR
theorem xd_AQ_add_0 : decode xb_AQ_add 0 = .ok (.aload_n 0, 1) := by decide +kernel
theorem xd_AQ_add_1 : decode xb_AQ_add 1 = .ok (.getfield 16, 3) := by decide +kernel
theorem xd_AQ_add_4 : decode xb_AQ_add 4 = .ok (.iconst 4, 1) := by decide +kernel
theorem xd_AQ_add_5 : decode xb_AQ_add 5 = .ok (.if_icmp .ge 33, 3) := by decide +kernel
theorem xd_AQ_add_8 : decode xb_AQ_add 8 = .ok (.aload_n 0, 1) := by decide +kernel
theorem xd_AQ_add_9 : decode xb_AQ_add 9 = .ok (.getfield 9, 3) := by decide +kernel
theorem xd_AQ_add_12 : decode xb_AQ_add 12 = .ok (.aload_n 0, 1) := by decide +kernel
theorem xd_AQ_add_13 : decode xb_AQ_add 13 = .ok (.getfield 16, 3) := by decide +kernel
theorem xd_AQ_add_16 : decode xb_AQ_add 16 = .ok (.iload_n 1, 1) := by decide +kernel
theorem xd_AQ_add_17 : decode xb_AQ_add 17 = .ok (.iastore, 1) := by decide +kernel
theorem xd_AQ_add_18 : decode xb_AQ_add 18 = .ok (.aload_n 0, 1) := by decide +kernel
theorem xd_AQ_add_19 : decode xb_AQ_add 19 = .ok (.getfield 13, 3) := by decide +kernel
theorem xd_AQ_add_22 : decode xb_AQ_add 22 = .ok (.aload_n 0, 1) := by decide +kernel
theorem xd_AQ_add_23 : decode xb_AQ_add 23 = .ok (.getfield 16, 3) := by decide +kernel
theorem xd_AQ_add_26 : decode xb_AQ_add 26 = .ok (.iload_n 2, 1) := by decide +kernel
theorem xd_AQ_add_27 : decode xb_AQ_add 27 = .ok (.iastore, 1) := by decide +kernel
theorem xd_AQ_add_28 : decode xb_AQ_add 28 = .ok (.aload_n 0, 1) := by decide +kernel
theorem xd_AQ_add_29 : decode xb_AQ_add 29 = .ok (.dup, 1) := by decide +kernel
theorem xd_AQ_add_30 : decode xb_AQ_add 30 = .ok (.getfield 16, 3) := by decide +kernel
theorem xd_AQ_add_33 : decode xb_AQ_add 33 = .ok (.iconst 1, 1) := by decide +kernel
theorem xd_AQ_add_34 : decode xb_AQ_add 34 = .ok (.iadd, 1) := by decide +kernel
theorem xd_AQ_add_35 : decode xb_AQ_add 35 = .ok (.putfield 16, 3) := by decide +kernel
theorem xd_AQ_add_38 : decode xb_AQ_add 38 = .ok (.return_, 1) := by decide +kernel
abbrev xb_De_changeModule : ByteArray := prog_5_method_4_code
def xy_De_changeModule : MethodName := ⟨R_De, "changeModule", "(II)V"⟩
abbrev xrm_De_changeModule : Room := { frames := 2, cells := 0, slots := 0, locals := 45 }
theorem xK_De_changeModule : Cond.code xy_De_changeModule xb_De_changeModule 3 none ∈ vTB := vTB_in 374 (by decide +kernel) rfl
theorem xI_De_changeModule : Cond.instanceMethod xy_De_changeModule ∈ vTB := vTB_in 372 (by decide +kernel) rfl
theorem xS_De_changeModule : Cond.selects R_De xy_De_changeModule xy_De_changeModule ∈ vTB := vTB_in 373 (by decide +kernel) rfl
theorem xw_De_changeModule {R : Room} {s : State} {args : Array Value} {own : String} {index : Nat} (hts : ∀ w ∈ vTB, w.before args s = true) (hl : Cond.methodLink own index xy_De_changeModule ∈ vTB) (hR : xrm_De_changeModule.frames + 1 ≤ R.frames ∧ 8 + (3 + 11) + xrm_De_changeModule.locals ≤ R.locals) : CallW R s args own R_De index xy_De_changeModule xb_De_changeModule 3 none (Cond.code xy_De_changeModule xb_De_changeModule 3 none :: vTB) xrm_De_changeModule 0 0 2 := cwV 2 hts (fw_gV vTB_good xK_De_changeModule hl xI_De_changeModule xS_De_changeModule N_De) rfl rfl rfl (by decide +kernel) hR
theorem xd_De_changeModule_0 : decode xb_De_changeModule 0 = .ok (.aload_n 0, 1) := by decide +kernel
theorem xd_De_changeModule_1 : decode xb_De_changeModule 1 = .ok (.getfield 29, 3) := by decide +kernel
theorem xd_De_changeModule_4 : decode xb_De_changeModule 4 = .ok (.iload_n 1, 1) := by decide +kernel
theorem xd_De_changeModule_5 : decode xb_De_changeModule 5 = .ok (.iaload, 1) := by decide +kernel
theorem xd_De_changeModule_6 : decode xb_De_changeModule 6 = .ok (.iload_n 2, 1) := by decide +kernel
theorem xd_De_changeModule_7 : decode xb_De_changeModule 7 = .ok (.if_icmp .ne 4, 3) := by decide +kernel
theorem xd_De_changeModule_10 : decode xb_De_changeModule 10 = .ok (.return_, 1) := by decide +kernel
theorem xd_De_changeModule_11 : decode xb_De_changeModule 11 = .ok (.aload_n 0, 1) := by decide +kernel
theorem xd_De_changeModule_12 : decode xb_De_changeModule 12 = .ok (.getfield 29, 3) := by decide +kernel
theorem xd_De_changeModule_15 : decode xb_De_changeModule 15 = .ok (.iload_n 1, 1) := by decide +kernel
theorem xd_De_changeModule_16 : decode xb_De_changeModule 16 = .ok (.iload_n 2, 1) := by decide +kernel
theorem xd_De_changeModule_17 : decode xb_De_changeModule 17 = .ok (.iastore, 1) := by decide +kernel
theorem xd_De_changeModule_18 : decode xb_De_changeModule 18 = .ok (.aload_n 0, 1) := by decide +kernel
theorem xd_De_changeModule_19 : decode xb_De_changeModule 19 = .ok (.iload_n 1, 1) := by decide +kernel
theorem xd_De_changeModule_20 : decode xb_De_changeModule 20 = .ok (.invokevirtual 68, 3) := by decide +kernel
theorem xd_De_changeModule_23 : decode xb_De_changeModule 23 = .ok (.aload_n 0, 1) := by decide +kernel
theorem xd_De_changeModule_24 : decode xb_De_changeModule 24 = .ok (.getfield 62, 3) := by decide +kernel
theorem xd_De_changeModule_27 : decode xb_De_changeModule 27 = .ok (.iconst 3, 1) := by decide +kernel
theorem xd_De_changeModule_28 : decode xb_De_changeModule 28 = .ok (.if_icmp .ne 51, 3) := by decide +kernel
theorem xd_De_changeModule_31 : decode xb_De_changeModule 31 = .ok (.aload_n 0, 1) := by decide +kernel
theorem xd_De_changeModule_32 : decode xb_De_changeModule 32 = .ok (.getfield 39, 3) := by decide +kernel
theorem xd_De_changeModule_35 : decode xb_De_changeModule 35 = .ok (.iload_n 1, 1) := by decide +kernel
theorem xd_De_changeModule_36 : decode xb_De_changeModule 36 = .ok (.iaload, 1) := by decide +kernel
theorem xd_De_changeModule_37 : decode xb_De_changeModule 37 = .ok (.iconst (-1), 1) := by decide +kernel
theorem xd_De_changeModule_38 : decode xb_De_changeModule 38 = .ok (.if_icmp .eq 41, 3) := by decide +kernel
theorem xd_De_changeModule_41 : decode xb_De_changeModule 41 = .ok (.aload_n 0, 1) := by decide +kernel
theorem xd_De_changeModule_42 : decode xb_De_changeModule 42 = .ok (.aload_n 0, 1) := by decide +kernel
theorem xd_De_changeModule_43 : decode xb_De_changeModule 43 = .ok (.getfield 72, 3) := by decide +kernel
theorem xd_De_changeModule_46 : decode xb_De_changeModule 46 = .ok (.iload_n 1, 1) := by decide +kernel
theorem xd_De_changeModule_47 : decode xb_De_changeModule 47 = .ok (.iload_n 2, 1) := by decide +kernel
theorem xd_De_changeModule_48 : decode xb_De_changeModule 48 = .ok (.aload_n 0, 1) := by decide +kernel
theorem xd_De_changeModule_49 : decode xb_De_changeModule 49 = .ok (.getfield 39, 3) := by decide +kernel
theorem xd_De_changeModule_52 : decode xb_De_changeModule 52 = .ok (.iload_n 1, 1) := by decide +kernel
theorem xd_De_changeModule_53 : decode xb_De_changeModule 53 = .ok (.iaload, 1) := by decide +kernel
theorem xd_De_changeModule_54 : decode xb_De_changeModule 54 = .ok (.if_icmp .eq 7, 3) := by decide +kernel
theorem xd_De_changeModule_57 : decode xb_De_changeModule 57 = .ok (.iconst 1, 1) := by decide +kernel
theorem xd_De_changeModule_58 : decode xb_De_changeModule 58 = .ok (.goto 4, 3) := by decide +kernel
theorem xd_De_changeModule_61 : decode xb_De_changeModule 61 = .ok (.iconst 0, 1) := by decide +kernel
theorem xd_De_changeModule_62 : decode xb_De_changeModule 62 = .ok (.invokestatic 75, 3) := by decide +kernel
theorem xd_De_changeModule_65 : decode xb_De_changeModule 65 = .ok (.putfield 72, 3) := by decide +kernel
theorem xd_De_changeModule_68 : decode xb_De_changeModule 68 = .ok (.aload_n 0, 1) := by decide +kernel
theorem xd_De_changeModule_69 : decode xb_De_changeModule 69 = .ok (.getfield 21, 3) := by decide +kernel
theorem xd_De_changeModule_72 : decode xb_De_changeModule 72 = .ok (.iload_n 1, 1) := by decide +kernel
theorem xd_De_changeModule_73 : decode xb_De_changeModule 73 = .ok (.iload_n 2, 1) := by decide +kernel
theorem xd_De_changeModule_74 : decode xb_De_changeModule 74 = .ok (.iconst 1, 1) := by decide +kernel
theorem xd_De_changeModule_75 : decode xb_De_changeModule 75 = .ok (.iadd, 1) := by decide +kernel
theorem xd_De_changeModule_76 : decode xb_De_changeModule 76 = .ok (.invokevirtual 79, 3) := by decide +kernel
theorem xd_De_changeModule_79 : decode xb_De_changeModule 79 = .ok (.return_, 1) := by decide +kernel
abbrev xb_FR_plug : ByteArray := prog_1_method_4_code
def xy_FR_plug : MethodName := ⟨R_FR, "plug", "(III)Z"⟩
abbrev xrm_FR_plug : Room := { frames := 3, cells := 0, slots := 0, locals := 67 }
theorem xK_FR_plug : Cond.code xy_FR_plug xb_FR_plug 4 (some .boolean) ∈ vTB := vTB_in 364 (by decide +kernel) rfl
theorem xI_FR_plug : Cond.instanceMethod xy_FR_plug ∈ vTB := vTB_in 362 (by decide +kernel) rfl
theorem xS_FR_plug : Cond.selects R_FR xy_FR_plug xy_FR_plug ∈ vTB := vTB_in 363 (by decide +kernel) rfl
theorem xw_FR_plug {R : Room} {s : State} {args : Array Value} {own : String} {index : Nat} (hts : ∀ w ∈ vTB, w.before args s = true) (hl : Cond.methodLink own index xy_FR_plug ∈ vTB) (hR : xrm_FR_plug.frames + 1 ≤ R.frames ∧ 8 + (4 + 11) + xrm_FR_plug.locals ≤ R.locals) : CallW R s args own R_FR index xy_FR_plug xb_FR_plug 4 (some .boolean) (Cond.code xy_FR_plug xb_FR_plug 4 (some .boolean) :: vTB) xrm_FR_plug 0 0 3 := cwV 3 hts (fw_gV vTB_good xK_FR_plug hl xI_FR_plug xS_FR_plug N_FR) rfl rfl rfl (by decide +kernel) hR
theorem xd_FR_plug_0 : decode xb_FR_plug 0 = .ok (.iload_n 1, 1) := by decide +kernel
theorem xd_FR_plug_1 : decode xb_FR_plug 1 = .ok (.invokestatic 64, 3) := by decide +kernel
theorem xd_FR_plug_4 : decode xb_FR_plug 4 = .ok (.ifCond .eq 17, 3) := by decide +kernel
theorem xd_FR_plug_7 : decode xb_FR_plug 7 = .ok (.iload_n 2, 1) := by decide +kernel
theorem xd_FR_plug_8 : decode xb_FR_plug 8 = .ok (.invokestatic 71, 3) := by decide +kernel
theorem xd_FR_plug_11 : decode xb_FR_plug 11 = .ok (.ifCond .eq 10, 3) := by decide +kernel
theorem xd_FR_plug_14 : decode xb_FR_plug 14 = .ok (.iload_n 3, 1) := by decide +kernel
theorem xd_FR_plug_15 : decode xb_FR_plug 15 = .ok (.invokestatic 74, 3) := by decide +kernel
theorem xd_FR_plug_18 : decode xb_FR_plug 18 = .ok (.ifCond .ne 5, 3) := by decide +kernel
theorem xd_FR_plug_21 : decode xb_FR_plug 21 = .ok (.iconst 0, 1) := by decide +kernel
theorem xd_FR_plug_22 : decode xb_FR_plug 22 = .ok (.ireturn, 1) := by decide +kernel
theorem xd_FR_plug_23 : decode xb_FR_plug 23 = .ok (.aload_n 0, 1) := by decide +kernel
theorem xd_FR_plug_24 : decode xb_FR_plug 24 = .ok (.getfield 38, 3) := by decide +kernel
theorem xd_FR_plug_27 : decode xb_FR_plug 27 = .ok (.iload_n 1, 1) := by decide +kernel
theorem xd_FR_plug_28 : decode xb_FR_plug 28 = .ok (.aaload, 1) := by decide +kernel
theorem xd_FR_plug_29 : decode xb_FR_plug 29 = .ok (.iload_n 2, 1) := by decide +kernel
theorem xd_FR_plug_30 : decode xb_FR_plug 30 = .ok (.iload_n 3, 1) := by decide +kernel
theorem xd_FR_plug_31 : decode xb_FR_plug 31 = .ok (.invokevirtual 77, 3) := by decide +kernel
theorem xd_FR_plug_34 : decode xb_FR_plug 34 = .ok (.iconst 1, 1) := by decide +kernel
theorem xd_FR_plug_35 : decode xb_FR_plug 35 = .ok (.ireturn, 1) := by decide +kernel
abbrev xb_FR_isOctet : ByteArray := prog_1_method_30_code
def xy_FR_isOctet : MethodName := ⟨R_FR, "isOctet", "(I)Z"⟩
abbrev xrm_FR_isOctet : Room := { frames := 1, cells := 0, slots := 0, locals := 22 }
theorem xK_FR_isOctet : Cond.code xy_FR_isOctet xb_FR_isOctet 1 (some .boolean) ∈ vTB := vTB_in 399 (by decide +kernel) rfl
theorem xS_FR_isOctet : Cond.static xy_FR_isOctet ∈ vTB := vTB_in 398 (by decide +kernel) rfl
theorem xw_FR_isOctet {R : Room} {s : State} {args : Array Value} {own : String} {index : Nat} (hts : ∀ w ∈ vTB, w.before args s = true) (hl : Cond.methodLink own index xy_FR_isOctet ∈ vTB) (hR : xrm_FR_isOctet.frames + 1 ≤ R.frames ∧ 8 + (1 + 11) + xrm_FR_isOctet.locals ≤ R.locals) : CallB R s args own index xy_FR_isOctet xb_FR_isOctet 1 (some .boolean) (Cond.code xy_FR_isOctet xb_FR_isOctet 1 (some .boolean) :: vTB) xrm_FR_isOctet 0 0 1 ∧ (Cond.static xy_FR_isOctet).before args s = true := va_cwS 1 hts (fw_gS2 vTB_good xK_FR_isOctet hl xS_FR_isOctet N_FR) rfl rfl rfl (by decide +kernel) hR
theorem xwn_FR_isOctet {R : Room} {s : State} {args : Array Value} {own host : String} {index : Nat} (hts : ∀ w ∈ vTB, w.before args s = true) (hl : va_Nw (.methodLinkNest own index xy_FR_isOctet host) s) (hR : xrm_FR_isOctet.frames + 1 ≤ R.frames ∧ 8 + (1 + 11) + xrm_FR_isOctet.locals ≤ R.locals) : va_CN R s args own index xy_FR_isOctet host xb_FR_isOctet 1 (some .boolean) (Cond.code xy_FR_isOctet xb_FR_isOctet 1 (some .boolean) :: vTB) xrm_FR_isOctet 0 0 1 ∧ (Cond.static xy_FR_isOctet).before args s = true ∧ True := ⟨va_cnB 1 hts (fw_gI vTB_good xK_FR_isOctet) rfl rfl rfl hl (hts _ N_FR) (by decide +kernel) hR, hts _ xS_FR_isOctet, trivial⟩
theorem xd_FR_isOctet_0 : decode xb_FR_isOctet 0 = .ok (.iload_n 0, 1) := by decide +kernel
theorem xd_FR_isOctet_1 : decode xb_FR_isOctet 1 = .ok (.iconst 0, 1) := by decide +kernel
theorem xd_FR_isOctet_2 : decode xb_FR_isOctet 2 = .ok (.sipush 255, 3) := by decide +kernel
theorem xd_FR_isOctet_5 : decode xb_FR_isOctet 5 = .ok (.invokestatic 52, 3) := by decide +kernel
theorem xd_FR_isOctet_8 : decode xb_FR_isOctet 8 = .ok (.ireturn, 1) := by decide +kernel
abbrev xb_De_setFallback : ByteArray := prog_5_method_3_code
def xy_De_setFallback : MethodName := ⟨R_De, "setFallback", "(II)V"⟩
abbrev xrm_De_setFallback : Room := { frames := 0, cells := 0, slots := 0, locals := 0 }
theorem xK_De_setFallback : Cond.code xy_De_setFallback xb_De_setFallback 3 none ∈ vTB := vTB_in 403 (by decide +kernel) rfl
theorem xI_De_setFallback : Cond.instanceMethod xy_De_setFallback ∈ vTB := vTB_in 401 (by decide +kernel) rfl
theorem xS_De_setFallback : Cond.selects R_De xy_De_setFallback xy_De_setFallback ∈ vTB := vTB_in 402 (by decide +kernel) rfl
theorem xw_De_setFallback {R : Room} {s : State} {args : Array Value} {own : String} {index : Nat} (hts : ∀ w ∈ vTB, w.before args s = true) (hl : Cond.methodLink own index xy_De_setFallback ∈ vTB) (hR : xrm_De_setFallback.frames + 1 ≤ R.frames ∧ 8 + (3 + 11) + xrm_De_setFallback.locals ≤ R.locals) : CallW R s args own R_De index xy_De_setFallback xb_De_setFallback 3 none (Cond.code xy_De_setFallback xb_De_setFallback 3 none :: vTB) xrm_De_setFallback 0 0 2 := cwV 2 hts (fw_gV vTB_good xK_De_setFallback hl xI_De_setFallback xS_De_setFallback N_De) rfl rfl rfl (by decide +kernel) hR
theorem xd_De_setFallback_0 : decode xb_De_setFallback 0 = .ok (.aload_n 0, 1) := by decide +kernel
theorem xd_De_setFallback_1 : decode xb_De_setFallback 1 = .ok (.iload_n 1, 1) := by decide +kernel
theorem xd_De_setFallback_2 : decode xb_De_setFallback 2 = .ok (.putfield 25, 3) := by decide +kernel
theorem xd_De_setFallback_5 : decode xb_De_setFallback 5 = .ok (.aload_n 0, 1) := by decide +kernel
theorem xd_De_setFallback_6 : decode xb_De_setFallback 6 = .ok (.iload_n 2, 1) := by decide +kernel
theorem xd_De_setFallback_7 : decode xb_De_setFallback 7 = .ok (.putfield 65, 3) := by decide +kernel
theorem xd_De_setFallback_10 : decode xb_De_setFallback 10 = .ok (.return_, 1) := by decide +kernel
abbrev xb_FR_substitute : ByteArray := prog_1_method_5_code
def xy_FR_substitute : MethodName := ⟨R_FR, "substitute", "(III)Z"⟩
abbrev xrm_FR_substitute : Room := { frames := 2, cells := 0, slots := 0, locals := 42 }
theorem xK_FR_substitute : Cond.code xy_FR_substitute xb_FR_substitute 4 (some .boolean) ∈ vTB := vTB_in 396 (by decide +kernel) rfl
theorem xI_FR_substitute : Cond.instanceMethod xy_FR_substitute ∈ vTB := vTB_in 394 (by decide +kernel) rfl
theorem xS_FR_substitute : Cond.selects R_FR xy_FR_substitute xy_FR_substitute ∈ vTB := vTB_in 395 (by decide +kernel) rfl
theorem xw_FR_substitute {R : Room} {s : State} {args : Array Value} {own : String} {index : Nat} (hts : ∀ w ∈ vTB, w.before args s = true) (hl : Cond.methodLink own index xy_FR_substitute ∈ vTB) (hR : xrm_FR_substitute.frames + 1 ≤ R.frames ∧ 8 + (4 + 11) + xrm_FR_substitute.locals ≤ R.locals) : CallW R s args own R_FR index xy_FR_substitute xb_FR_substitute 4 (some .boolean) (Cond.code xy_FR_substitute xb_FR_substitute 4 (some .boolean) :: vTB) xrm_FR_substitute 0 0 3 := cwV 3 hts (fw_gV vTB_good xK_FR_substitute hl xI_FR_substitute xS_FR_substitute N_FR) rfl rfl rfl (by decide +kernel) hR
theorem xd_FR_substitute_0 : decode xb_FR_substitute 0 = .ok (.iload_n 1, 1) := by decide +kernel
theorem xd_FR_substitute_1 : decode xb_FR_substitute 1 = .ok (.invokestatic 64, 3) := by decide +kernel
theorem xd_FR_substitute_4 : decode xb_FR_substitute 4 = .ok (.ifCond .eq 12, 3) := by decide +kernel
theorem xd_FR_substitute_7 : decode xb_FR_substitute 7 = .ok (.iload_n 2, 1) := by decide +kernel
theorem xd_FR_substitute_8 : decode xb_FR_substitute 8 = .ok (.iconst 0, 1) := by decide +kernel
theorem xd_FR_substitute_9 : decode xb_FR_substitute 9 = .ok (.iconst 2, 1) := by decide +kernel
theorem xd_FR_substitute_10 : decode xb_FR_substitute 10 = .ok (.invokestatic 52, 3) := by decide +kernel
theorem xd_FR_substitute_13 : decode xb_FR_substitute 13 = .ok (.ifCond .ne 5, 3) := by decide +kernel
theorem xd_FR_substitute_16 : decode xb_FR_substitute 16 = .ok (.iconst 0, 1) := by decide +kernel
theorem xd_FR_substitute_17 : decode xb_FR_substitute 17 = .ok (.ireturn, 1) := by decide +kernel
theorem xd_FR_substitute_18 : decode xb_FR_substitute 18 = .ok (.iload_n 2, 1) := by decide +kernel
theorem xd_FR_substitute_19 : decode xb_FR_substitute 19 = .ok (.iconst 2, 1) := by decide +kernel
theorem xd_FR_substitute_20 : decode xb_FR_substitute 20 = .ok (.if_icmp .ne 12, 3) := by decide +kernel
theorem xd_FR_substitute_23 : decode xb_FR_substitute 23 = .ok (.iload_n 3, 1) := by decide +kernel
theorem xd_FR_substitute_24 : decode xb_FR_substitute 24 = .ok (.invokestatic 81, 3) := by decide +kernel
theorem xd_FR_substitute_27 : decode xb_FR_substitute 27 = .ok (.ifCond .ne 5, 3) := by decide +kernel
theorem xd_FR_substitute_30 : decode xb_FR_substitute 30 = .ok (.iconst 0, 1) := by decide +kernel
theorem xd_FR_substitute_31 : decode xb_FR_substitute 31 = .ok (.ireturn, 1) := by decide +kernel
theorem xd_FR_substitute_32 : decode xb_FR_substitute 32 = .ok (.aload_n 0, 1) := by decide +kernel
theorem xd_FR_substitute_33 : decode xb_FR_substitute 33 = .ok (.getfield 38, 3) := by decide +kernel
theorem xd_FR_substitute_36 : decode xb_FR_substitute 36 = .ok (.iload_n 1, 1) := by decide +kernel
theorem xd_FR_substitute_37 : decode xb_FR_substitute 37 = .ok (.aaload, 1) := by decide +kernel
theorem xd_FR_substitute_38 : decode xb_FR_substitute 38 = .ok (.iload_n 2, 1) := by decide +kernel
theorem xd_FR_substitute_39 : decode xb_FR_substitute 39 = .ok (.iload_n 3, 1) := by decide +kernel
theorem xd_FR_substitute_40 : decode xb_FR_substitute 40 = .ok (.invokevirtual 84, 3) := by decide +kernel
theorem xd_FR_substitute_43 : decode xb_FR_substitute 43 = .ok (.iconst 1, 1) := by decide +kernel
theorem xd_FR_substitute_44 : decode xb_FR_substitute 44 = .ok (.ireturn, 1) := by decide +kernel
abbrev xb_FR_isPlace : ByteArray := prog_1_method_27_code
def xy_FR_isPlace : MethodName := ⟨R_FR, "isPlace", "(II)Z"⟩
abbrev xrm_FR_isPlace : Room := { frames := 2, cells := 0, slots := 0, locals := 42 }
theorem xK_FR_isPlace : Cond.code xy_FR_isPlace xb_FR_isPlace 2 (some .boolean) ∈ vTB := vTB_in 410 (by decide +kernel) rfl
theorem xS_FR_isPlace : Cond.static xy_FR_isPlace ∈ vTB := vTB_in 409 (by decide +kernel) rfl
theorem xw_FR_isPlace {R : Room} {s : State} {args : Array Value} {own : String} {index : Nat} (hts : ∀ w ∈ vTB, w.before args s = true) (hl : Cond.methodLink own index xy_FR_isPlace ∈ vTB) (hR : xrm_FR_isPlace.frames + 1 ≤ R.frames ∧ 8 + (2 + 11) + xrm_FR_isPlace.locals ≤ R.locals) : CallB R s args own index xy_FR_isPlace xb_FR_isPlace 2 (some .boolean) (Cond.code xy_FR_isPlace xb_FR_isPlace 2 (some .boolean) :: vTB) xrm_FR_isPlace 0 0 2 ∧ (Cond.static xy_FR_isPlace).before args s = true := va_cwS 2 hts (fw_gS2 vTB_good xK_FR_isPlace hl xS_FR_isPlace N_FR) rfl rfl rfl (by decide +kernel) hR
theorem xwn_FR_isPlace {R : Room} {s : State} {args : Array Value} {own host : String} {index : Nat} (hts : ∀ w ∈ vTB, w.before args s = true) (hl : va_Nw (.methodLinkNest own index xy_FR_isPlace host) s) (hR : xrm_FR_isPlace.frames + 1 ≤ R.frames ∧ 8 + (2 + 11) + xrm_FR_isPlace.locals ≤ R.locals) : va_CN R s args own index xy_FR_isPlace host xb_FR_isPlace 2 (some .boolean) (Cond.code xy_FR_isPlace xb_FR_isPlace 2 (some .boolean) :: vTB) xrm_FR_isPlace 0 0 2 ∧ (Cond.static xy_FR_isPlace).before args s = true ∧ True := ⟨va_cnB 2 hts (fw_gI vTB_good xK_FR_isPlace) rfl rfl rfl hl (hts _ N_FR) (by decide +kernel) hR, hts _ xS_FR_isPlace, trivial⟩
theorem xd_FR_isPlace_0 : decode xb_FR_isPlace 0 = .ok (.iload_n 0, 1) := by decide +kernel
theorem xd_FR_isPlace_1 : decode xb_FR_isPlace 1 = .ok (.invokestatic 71, 3) := by decide +kernel
theorem xd_FR_isPlace_4 : decode xb_FR_isPlace 4 = .ok (.ifCond .eq 16, 3) := by decide +kernel
theorem xd_FR_isPlace_7 : decode xb_FR_isPlace 7 = .ok (.iload_n 1, 1) := by decide +kernel
theorem xd_FR_isPlace_8 : decode xb_FR_isPlace 8 = .ok (.iconst 0, 1) := by decide +kernel
theorem xd_FR_isPlace_9 : decode xb_FR_isPlace 9 = .ok (.iconst 1, 1) := by decide +kernel
theorem xd_FR_isPlace_10 : decode xb_FR_isPlace 10 = .ok (.invokestatic 52, 3) := by decide +kernel
theorem xd_FR_isPlace_13 : decode xb_FR_isPlace 13 = .ok (.ifCond .eq 7, 3) := by decide +kernel
theorem xd_FR_isPlace_16 : decode xb_FR_isPlace 16 = .ok (.iconst 1, 1) := by decide +kernel
theorem xd_FR_isPlace_17 : decode xb_FR_isPlace 17 = .ok (.goto 4, 3) := by decide +kernel
theorem xd_FR_isPlace_20 : decode xb_FR_isPlace 20 = .ok (.iconst 0, 1) := by decide +kernel
theorem xd_FR_isPlace_21 : decode xb_FR_isPlace 21 = .ok (.ireturn, 1) := by decide +kernel
abbrev xb_FR_sense : ByteArray := prog_1_method_6_code
def xy_FR_sense : MethodName := ⟨R_FR, "sense", "(IIII)Z"⟩
abbrev xrm_FR_sense : Room := { frames := 3, cells := 0, slots := 0, locals := 63 }
theorem xK_FR_sense : Cond.code xy_FR_sense xb_FR_sense 5 (some .boolean) ∈ vTB := vTB_in 407 (by decide +kernel) rfl
theorem xI_FR_sense : Cond.instanceMethod xy_FR_sense ∈ vTB := vTB_in 405 (by decide +kernel) rfl
theorem xS_FR_sense : Cond.selects R_FR xy_FR_sense xy_FR_sense ∈ vTB := vTB_in 406 (by decide +kernel) rfl
theorem xw_FR_sense {R : Room} {s : State} {args : Array Value} {own : String} {index : Nat} (hts : ∀ w ∈ vTB, w.before args s = true) (hl : Cond.methodLink own index xy_FR_sense ∈ vTB) (hR : xrm_FR_sense.frames + 1 ≤ R.frames ∧ 8 + (5 + 11) + xrm_FR_sense.locals ≤ R.locals) : CallW R s args own R_FR index xy_FR_sense xb_FR_sense 5 (some .boolean) (Cond.code xy_FR_sense xb_FR_sense 5 (some .boolean) :: vTB) xrm_FR_sense 0 0 4 := cwV 4 hts (fw_gV vTB_good xK_FR_sense hl xI_FR_sense xS_FR_sense N_FR) rfl rfl rfl (by decide +kernel) hR
theorem xd_FR_sense_0 : decode xb_FR_sense 0 = .ok (.iload_n 1, 1) := by decide +kernel
theorem xd_FR_sense_1 : decode xb_FR_sense 1 = .ok (.invokestatic 64, 3) := by decide +kernel
theorem xd_FR_sense_4 : decode xb_FR_sense 4 = .ok (.ifCond .eq 19, 3) := by decide +kernel
theorem xd_FR_sense_7 : decode xb_FR_sense 7 = .ok (.iload_n 2, 1) := by decide +kernel
theorem xd_FR_sense_8 : decode xb_FR_sense 8 = .ok (.iload_n 3, 1) := by decide +kernel
theorem xd_FR_sense_9 : decode xb_FR_sense 9 = .ok (.invokestatic 87, 3) := by decide +kernel
theorem xd_FR_sense_12 : decode xb_FR_sense 12 = .ok (.ifCond .eq 11, 3) := by decide +kernel
theorem xd_FR_sense_15 : decode xb_FR_sense 15 = .ok (.iload 4, 2) := by decide +kernel
theorem xd_FR_sense_17 : decode xb_FR_sense 17 = .ok (.invokestatic 81, 3) := by decide +kernel
theorem xd_FR_sense_20 : decode xb_FR_sense 20 = .ok (.ifCond .ne 5, 3) := by decide +kernel
theorem xd_FR_sense_23 : decode xb_FR_sense 23 = .ok (.iconst 0, 1) := by decide +kernel
theorem xd_FR_sense_24 : decode xb_FR_sense 24 = .ok (.ireturn, 1) := by decide +kernel
theorem xd_FR_sense_25 : decode xb_FR_sense 25 = .ok (.aload_n 0, 1) := by decide +kernel
theorem xd_FR_sense_26 : decode xb_FR_sense 26 = .ok (.getfield 38, 3) := by decide +kernel
theorem xd_FR_sense_29 : decode xb_FR_sense 29 = .ok (.iload_n 1, 1) := by decide +kernel
theorem xd_FR_sense_30 : decode xb_FR_sense 30 = .ok (.aaload, 1) := by decide +kernel
theorem xd_FR_sense_31 : decode xb_FR_sense 31 = .ok (.getfield 91, 3) := by decide +kernel
theorem xd_FR_sense_34 : decode xb_FR_sense 34 = .ok (.iload_n 2, 1) := by decide +kernel
theorem xd_FR_sense_35 : decode xb_FR_sense 35 = .ok (.iload_n 3, 1) := by decide +kernel
theorem xd_FR_sense_36 : decode xb_FR_sense 36 = .ok (.invokestatic 95, 3) := by decide +kernel
theorem xd_FR_sense_39 : decode xb_FR_sense 39 = .ok (.iload 4, 2) := by decide +kernel
theorem xd_FR_sense_41 : decode xb_FR_sense 41 = .ok (.iastore, 1) := by decide +kernel
theorem xd_FR_sense_42 : decode xb_FR_sense 42 = .ok (.iconst 1, 1) := by decide +kernel
theorem xd_FR_sense_43 : decode xb_FR_sense 43 = .ok (.ireturn, 1) := by decide +kernel
abbrev xb_FR_target : ByteArray := prog_1_method_7_code
def xy_FR_target : MethodName := ⟨R_FR, "target", "(II)Z"⟩
abbrev xrm_FR_target : Room := { frames := 2, cells := 0, slots := 0, locals := 42 }
theorem xK_FR_target : Cond.code xy_FR_target xb_FR_target 3 (some .boolean) ∈ vTB := vTB_in 415 (by decide +kernel) rfl
theorem xI_FR_target : Cond.instanceMethod xy_FR_target ∈ vTB := vTB_in 413 (by decide +kernel) rfl
theorem xS_FR_target : Cond.selects R_FR xy_FR_target xy_FR_target ∈ vTB := vTB_in 414 (by decide +kernel) rfl
theorem xw_FR_target {R : Room} {s : State} {args : Array Value} {own : String} {index : Nat} (hts : ∀ w ∈ vTB, w.before args s = true) (hl : Cond.methodLink own index xy_FR_target ∈ vTB) (hR : xrm_FR_target.frames + 1 ≤ R.frames ∧ 8 + (3 + 11) + xrm_FR_target.locals ≤ R.locals) : CallW R s args own R_FR index xy_FR_target xb_FR_target 3 (some .boolean) (Cond.code xy_FR_target xb_FR_target 3 (some .boolean) :: vTB) xrm_FR_target 0 0 2 := cwV 2 hts (fw_gV vTB_good xK_FR_target hl xI_FR_target xS_FR_target N_FR) rfl rfl rfl (by decide +kernel) hR
theorem xd_FR_target_0 : decode xb_FR_target 0 = .ok (.iload_n 1, 1) := by decide +kernel
theorem xd_FR_target_1 : decode xb_FR_target 1 = .ok (.invokestatic 64, 3) := by decide +kernel
theorem xd_FR_target_4 : decode xb_FR_target 4 = .ok (.ifCond .eq 25, 3) := by decide +kernel
theorem xd_FR_target_7 : decode xb_FR_target 7 = .ok (.iload_n 2, 1) := by decide +kernel
theorem xd_FR_target_8 : decode xb_FR_target 8 = .ok (.iconst 1, 1) := by decide +kernel
theorem xd_FR_target_9 : decode xb_FR_target 9 = .ok (.bipush 15, 2) := by decide +kernel
theorem xd_FR_target_11 : decode xb_FR_target 11 = .ok (.invokestatic 52, 3) := by decide +kernel
theorem xd_FR_target_14 : decode xb_FR_target 14 = .ok (.ifCond .eq 15, 3) := by decide +kernel
theorem xd_FR_target_17 : decode xb_FR_target 17 = .ok (.aload_n 0, 1) := by decide +kernel
theorem xd_FR_target_18 : decode xb_FR_target 18 = .ok (.getfield 32, 3) := by decide +kernel
theorem xd_FR_target_21 : decode xb_FR_target 21 = .ok (.iload_n 1, 1) := by decide +kernel
theorem xd_FR_target_22 : decode xb_FR_target 22 = .ok (.aaload, 1) := by decide +kernel
theorem xd_FR_target_23 : decode xb_FR_target 23 = .ok (.invokevirtual 99, 3) := by decide +kernel
theorem xd_FR_target_26 : decode xb_FR_target 26 = .ok (.ifCond .ne 5, 3) := by decide +kernel
theorem xd_FR_target_29 : decode xb_FR_target 29 = .ok (.iconst 0, 1) := by decide +kernel
theorem xd_FR_target_30 : decode xb_FR_target 30 = .ok (.ireturn, 1) := by decide +kernel
theorem xd_FR_target_31 : decode xb_FR_target 31 = .ok (.aload_n 0, 1) := by decide +kernel
theorem xd_FR_target_32 : decode xb_FR_target 32 = .ok (.getfield 32, 3) := by decide +kernel
theorem xd_FR_target_35 : decode xb_FR_target 35 = .ok (.iload_n 1, 1) := by decide +kernel
theorem xd_FR_target_36 : decode xb_FR_target 36 = .ok (.aaload, 1) := by decide +kernel
theorem xd_FR_target_37 : decode xb_FR_target 37 = .ok (.iload_n 2, 1) := by decide +kernel
theorem xd_FR_target_38 : decode xb_FR_target 38 = .ok (.putfield 102, 3) := by decide +kernel
theorem xd_FR_target_41 : decode xb_FR_target 41 = .ok (.iconst 1, 1) := by decide +kernel
theorem xd_FR_target_42 : decode xb_FR_target 42 = .ok (.ireturn, 1) := by decide +kernel
abbrev xb_Re_setExpected : ByteArray := prog_8_method_3_code
def xy_Re_setExpected : MethodName := ⟨R_Re, "setExpected", "(III)V"⟩
abbrev xrm_Re_setExpected : Room := { frames := 0, cells := 0, slots := 0, locals := 0 }
theorem xK_Re_setExpected : Cond.code xy_Re_setExpected xb_Re_setExpected 4 none ∈ vTB := vTB_in 423 (by decide +kernel) rfl
theorem xI_Re_setExpected : Cond.instanceMethod xy_Re_setExpected ∈ vTB := vTB_in 421 (by decide +kernel) rfl
theorem xS_Re_setExpected : Cond.selects R_Re xy_Re_setExpected xy_Re_setExpected ∈ vTB := vTB_in 422 (by decide +kernel) rfl
theorem xw_Re_setExpected {R : Room} {s : State} {args : Array Value} {own : String} {index : Nat} (hts : ∀ w ∈ vTB, w.before args s = true) (hl : Cond.methodLink own index xy_Re_setExpected ∈ vTB) (hR : xrm_Re_setExpected.frames + 1 ≤ R.frames ∧ 8 + (4 + 11) + xrm_Re_setExpected.locals ≤ R.locals) : CallW R s args own R_Re index xy_Re_setExpected xb_Re_setExpected 4 none (Cond.code xy_Re_setExpected xb_Re_setExpected 4 none :: vTB) xrm_Re_setExpected 0 0 3 := cwV 3 hts (fw_gV vTB_good xK_Re_setExpected hl xI_Re_setExpected xS_Re_setExpected N_Re) rfl rfl rfl (by decide +kernel) hR
theorem xd_Re_setExpected_0 : decode xb_Re_setExpected 0 = .ok (.aload_n 0, 1) := by decide +kernel
theorem xd_Re_setExpected_1 : decode xb_Re_setExpected 1 = .ok (.getfield 18, 3) := by decide +kernel
theorem xd_Re_setExpected_4 : decode xb_Re_setExpected 4 = .ok (.iload_n 1, 1) := by decide +kernel
theorem xd_Re_setExpected_5 : decode xb_Re_setExpected 5 = .ok (.iload_n 2, 1) := by decide +kernel
theorem xd_Re_setExpected_6 : decode xb_Re_setExpected 6 = .ok (.iastore, 1) := by decide +kernel
theorem xd_Re_setExpected_7 : decode xb_Re_setExpected 7 = .ok (.aload_n 0, 1) := by decide +kernel
theorem xd_Re_setExpected_8 : decode xb_Re_setExpected 8 = .ok (.getfield 22, 3) := by decide +kernel
theorem xd_Re_setExpected_11 : decode xb_Re_setExpected 11 = .ok (.iload_n 1, 1) := by decide +kernel
theorem xd_Re_setExpected_12 : decode xb_Re_setExpected 12 = .ok (.iload_n 3, 1) := by decide +kernel
theorem xd_Re_setExpected_13 : decode xb_Re_setExpected 13 = .ok (.iastore, 1) := by decide +kernel
theorem xd_Re_setExpected_14 : decode xb_Re_setExpected 14 = .ok (.return_, 1) := by decide +kernel
abbrev xb_FR_expect : ByteArray := prog_1_method_8_code
def xy_FR_expect : MethodName := ⟨R_FR, "expect", "(IIII)Z"⟩
abbrev xrm_FR_expect : Room := { frames := 3, cells := 0, slots := 0, locals := 62 }
theorem xK_FR_expect : Cond.code xy_FR_expect xb_FR_expect 5 (some .boolean) ∈ vTB := vTB_in 419 (by decide +kernel) rfl
theorem xI_FR_expect : Cond.instanceMethod xy_FR_expect ∈ vTB := vTB_in 417 (by decide +kernel) rfl
theorem xS_FR_expect : Cond.selects R_FR xy_FR_expect xy_FR_expect ∈ vTB := vTB_in 418 (by decide +kernel) rfl
theorem xw_FR_expect {R : Room} {s : State} {args : Array Value} {own : String} {index : Nat} (hts : ∀ w ∈ vTB, w.before args s = true) (hl : Cond.methodLink own index xy_FR_expect ∈ vTB) (hR : xrm_FR_expect.frames + 1 ≤ R.frames ∧ 8 + (5 + 11) + xrm_FR_expect.locals ≤ R.locals) : CallW R s args own R_FR index xy_FR_expect xb_FR_expect 5 (some .boolean) (Cond.code xy_FR_expect xb_FR_expect 5 (some .boolean) :: vTB) xrm_FR_expect 0 0 4 := cwV 4 hts (fw_gV vTB_good xK_FR_expect hl xI_FR_expect xS_FR_expect N_FR) rfl rfl rfl (by decide +kernel) hR
theorem xd_FR_expect_0 : decode xb_FR_expect 0 = .ok (.iload_n 1, 1) := by decide +kernel
theorem xd_FR_expect_1 : decode xb_FR_expect 1 = .ok (.invokestatic 64, 3) := by decide +kernel
theorem xd_FR_expect_4 : decode xb_FR_expect 4 = .ok (.ifCond .eq 25, 3) := by decide +kernel
theorem xd_FR_expect_7 : decode xb_FR_expect 7 = .ok (.iload_n 2, 1) := by decide +kernel
theorem xd_FR_expect_8 : decode xb_FR_expect 8 = .ok (.invokestatic 71, 3) := by decide +kernel
theorem xd_FR_expect_11 : decode xb_FR_expect 11 = .ok (.ifCond .eq 18, 3) := by decide +kernel
theorem xd_FR_expect_14 : decode xb_FR_expect 14 = .ok (.iload_n 3, 1) := by decide +kernel
theorem xd_FR_expect_15 : decode xb_FR_expect 15 = .ok (.invokestatic 74, 3) := by decide +kernel
theorem xd_FR_expect_18 : decode xb_FR_expect 18 = .ok (.ifCond .eq 11, 3) := by decide +kernel
theorem xd_FR_expect_21 : decode xb_FR_expect 21 = .ok (.iload 4, 2) := by decide +kernel
theorem xd_FR_expect_23 : decode xb_FR_expect 23 = .ok (.invokestatic 81, 3) := by decide +kernel
theorem xd_FR_expect_26 : decode xb_FR_expect 26 = .ok (.ifCond .ne 5, 3) := by decide +kernel
theorem xd_FR_expect_29 : decode xb_FR_expect 29 = .ok (.iconst 0, 1) := by decide +kernel
theorem xd_FR_expect_30 : decode xb_FR_expect 30 = .ok (.ireturn, 1) := by decide +kernel
theorem xd_FR_expect_31 : decode xb_FR_expect 31 = .ok (.aload_n 0, 1) := by decide +kernel
theorem xd_FR_expect_32 : decode xb_FR_expect 32 = .ok (.getfield 32, 3) := by decide +kernel
theorem xd_FR_expect_35 : decode xb_FR_expect 35 = .ok (.iload_n 1, 1) := by decide +kernel
theorem xd_FR_expect_36 : decode xb_FR_expect 36 = .ok (.aaload, 1) := by decide +kernel
theorem xd_FR_expect_37 : decode xb_FR_expect 37 = .ok (.invokevirtual 99, 3) := by decide +kernel
theorem xd_FR_expect_40 : decode xb_FR_expect 40 = .ok (.ifCond .ne 5, 3) := by decide +kernel
theorem xd_FR_expect_43 : decode xb_FR_expect 43 = .ok (.iconst 0, 1) := by decide +kernel
theorem xd_FR_expect_44 : decode xb_FR_expect 44 = .ok (.ireturn, 1) := by decide +kernel
theorem xd_FR_expect_45 : decode xb_FR_expect 45 = .ok (.aload_n 0, 1) := by decide +kernel
theorem xd_FR_expect_46 : decode xb_FR_expect 46 = .ok (.getfield 32, 3) := by decide +kernel
theorem xd_FR_expect_49 : decode xb_FR_expect 49 = .ok (.iload_n 1, 1) := by decide +kernel
theorem xd_FR_expect_50 : decode xb_FR_expect 50 = .ok (.aaload, 1) := by decide +kernel
theorem xd_FR_expect_51 : decode xb_FR_expect 51 = .ok (.iload_n 2, 1) := by decide +kernel
theorem xd_FR_expect_52 : decode xb_FR_expect 52 = .ok (.iload_n 3, 1) := by decide +kernel
theorem xd_FR_expect_53 : decode xb_FR_expect 53 = .ok (.iload 4, 2) := by decide +kernel
theorem xd_FR_expect_55 : decode xb_FR_expect 55 = .ok (.invokevirtual 105, 3) := by decide +kernel
theorem xd_FR_expect_58 : decode xb_FR_expect 58 = .ok (.iconst 1, 1) := by decide +kernel
theorem xd_FR_expect_59 : decode xb_FR_expect 59 = .ok (.ireturn, 1) := by decide +kernel
abbrev xb_FR_give : ByteArray := prog_1_method_9_code
def xy_FR_give : MethodName := ⟨R_FR, "give", "(IIII)Z"⟩
abbrev xrm_FR_give : Room := { frames := 3, cells := 0, slots := 0, locals := 63 }
theorem xK_FR_give : Cond.code xy_FR_give xb_FR_give 5 (some .boolean) ∈ vTB := vTB_in 427 (by decide +kernel) rfl
theorem xI_FR_give : Cond.instanceMethod xy_FR_give ∈ vTB := vTB_in 425 (by decide +kernel) rfl
theorem xS_FR_give : Cond.selects R_FR xy_FR_give xy_FR_give ∈ vTB := vTB_in 426 (by decide +kernel) rfl
theorem xw_FR_give {R : Room} {s : State} {args : Array Value} {own : String} {index : Nat} (hts : ∀ w ∈ vTB, w.before args s = true) (hl : Cond.methodLink own index xy_FR_give ∈ vTB) (hR : xrm_FR_give.frames + 1 ≤ R.frames ∧ 8 + (5 + 11) + xrm_FR_give.locals ≤ R.locals) : CallW R s args own R_FR index xy_FR_give xb_FR_give 5 (some .boolean) (Cond.code xy_FR_give xb_FR_give 5 (some .boolean) :: vTB) xrm_FR_give 0 0 4 := cwV 4 hts (fw_gV vTB_good xK_FR_give hl xI_FR_give xS_FR_give N_FR) rfl rfl rfl (by decide +kernel) hR
theorem xd_FR_give_0 : decode xb_FR_give 0 = .ok (.iload_n 1, 1) := by decide +kernel
theorem xd_FR_give_1 : decode xb_FR_give 1 = .ok (.invokestatic 64, 3) := by decide +kernel
theorem xd_FR_give_4 : decode xb_FR_give 4 = .ok (.ifCond .eq 19, 3) := by decide +kernel
theorem xd_FR_give_7 : decode xb_FR_give 7 = .ok (.iload_n 2, 1) := by decide +kernel
theorem xd_FR_give_8 : decode xb_FR_give 8 = .ok (.iload_n 3, 1) := by decide +kernel
theorem xd_FR_give_9 : decode xb_FR_give 9 = .ok (.invokestatic 87, 3) := by decide +kernel
theorem xd_FR_give_12 : decode xb_FR_give 12 = .ok (.ifCond .eq 11, 3) := by decide +kernel
theorem xd_FR_give_15 : decode xb_FR_give 15 = .ok (.iload 4, 2) := by decide +kernel
theorem xd_FR_give_17 : decode xb_FR_give 17 = .ok (.invokestatic 81, 3) := by decide +kernel
theorem xd_FR_give_20 : decode xb_FR_give 20 = .ok (.ifCond .ne 5, 3) := by decide +kernel
theorem xd_FR_give_23 : decode xb_FR_give 23 = .ok (.iconst 0, 1) := by decide +kernel
theorem xd_FR_give_24 : decode xb_FR_give 24 = .ok (.ireturn, 1) := by decide +kernel
theorem xd_FR_give_25 : decode xb_FR_give 25 = .ok (.aload_n 0, 1) := by decide +kernel
theorem xd_FR_give_26 : decode xb_FR_give 26 = .ok (.getfield 32, 3) := by decide +kernel
theorem xd_FR_give_29 : decode xb_FR_give 29 = .ok (.iload_n 1, 1) := by decide +kernel
theorem xd_FR_give_30 : decode xb_FR_give 30 = .ok (.aaload, 1) := by decide +kernel
theorem xd_FR_give_31 : decode xb_FR_give 31 = .ok (.getfield 109, 3) := by decide +kernel
theorem xd_FR_give_34 : decode xb_FR_give 34 = .ok (.iload_n 2, 1) := by decide +kernel
theorem xd_FR_give_35 : decode xb_FR_give 35 = .ok (.iload_n 3, 1) := by decide +kernel
theorem xd_FR_give_36 : decode xb_FR_give 36 = .ok (.invokestatic 95, 3) := by decide +kernel
theorem xd_FR_give_39 : decode xb_FR_give 39 = .ok (.iload 4, 2) := by decide +kernel
theorem xd_FR_give_41 : decode xb_FR_give 41 = .ok (.iastore, 1) := by decide +kernel
theorem xd_FR_give_42 : decode xb_FR_give 42 = .ok (.iconst 1, 1) := by decide +kernel
theorem xd_FR_give_43 : decode xb_FR_give 43 = .ok (.ireturn, 1) := by decide +kernel
abbrev xb_Re_enter : ByteArray := prog_8_method_18_code
def xy_Re_enter : MethodName := ⟨R_Re, "enter", "(I)V"⟩
abbrev xrm_Re_enter : Room := { frames := 0, cells := 0, slots := 0, locals := 0 }
theorem xK_Re_enter : Cond.code xy_Re_enter xb_Re_enter 2 none ∈ vTB := vTB_in 440 (by decide +kernel) rfl
theorem xI_Re_enter : Cond.instanceMethod xy_Re_enter ∈ vTB := vTB_in 439 (by decide +kernel) rfl
theorem xS_Re_enter : Cond.selects R_Re xy_Re_enter xy_Re_enter ∈ vTB := vTB_sel (q := (xy_Re_enter, 20)) 2 (by decide +kernel)
theorem xw_Re_enter {R : Room} {s : State} {args : Array Value} {own : String} {index : Nat} (hts : ∀ w ∈ vTB, w.before args s = true) (hl : Cond.methodLink own index xy_Re_enter ∈ vTB) (hR : xrm_Re_enter.frames + 1 ≤ R.frames ∧ 8 + (2 + 11) + xrm_Re_enter.locals ≤ R.locals) : CallW R s args own R_Re index xy_Re_enter xb_Re_enter 2 none (Cond.code xy_Re_enter xb_Re_enter 2 none :: vTB) xrm_Re_enter 0 0 1 := cwV 1 hts (fw_gV vTB_good xK_Re_enter hl xI_Re_enter xS_Re_enter N_Re) rfl rfl rfl (by decide +kernel) hR
theorem xd_Re_enter_0 : decode xb_Re_enter 0 = .ok (.aload_n 0, 1) := by decide +kernel
theorem xd_Re_enter_1 : decode xb_Re_enter 1 = .ok (.iload_n 1, 1) := by decide +kernel
theorem xd_Re_enter_2 : decode xb_Re_enter 2 = .ok (.putfield 56, 3) := by decide +kernel
theorem xd_Re_enter_5 : decode xb_Re_enter 5 = .ok (.aload_n 0, 1) := by decide +kernel
theorem xd_Re_enter_6 : decode xb_Re_enter 6 = .ok (.iconst 0, 1) := by decide +kernel
theorem xd_Re_enter_7 : decode xb_Re_enter 7 = .ok (.putfield 115, 3) := by decide +kernel
theorem xd_Re_enter_10 : decode xb_Re_enter 10 = .ok (.aload_n 0, 1) := by decide +kernel
theorem xd_Re_enter_11 : decode xb_Re_enter 11 = .ok (.iconst 0, 1) := by decide +kernel
theorem xd_Re_enter_12 : decode xb_Re_enter 12 = .ok (.putfield 127, 3) := by decide +kernel
theorem xd_Re_enter_15 : decode xb_Re_enter 15 = .ok (.return_, 1) := by decide +kernel
abbrev xb_Wi_isFull : ByteArray := prog_9_method_3_code
def xy_Wi_isFull : MethodName := ⟨R_Wi, "isFull", "()Z"⟩
abbrev xrm_Wi_isFull : Room := { frames := 0, cells := 0, slots := 0, locals := 0 }
theorem xK_Wi_isFull : Cond.code xy_Wi_isFull xb_Wi_isFull 1 (some .boolean) ∈ vTB := vTB_in 452 (by decide +kernel) rfl
theorem xI_Wi_isFull : Cond.instanceMethod xy_Wi_isFull ∈ vTB := vTB_in 450 (by decide +kernel) rfl
theorem xS_Wi_isFull : Cond.selects R_Wi xy_Wi_isFull xy_Wi_isFull ∈ vTB := vTB_in 451 (by decide +kernel) rfl
theorem xw_Wi_isFull {R : Room} {s : State} {args : Array Value} {own : String} {index : Nat} (hts : ∀ w ∈ vTB, w.before args s = true) (hl : Cond.methodLink own index xy_Wi_isFull ∈ vTB) (hR : xrm_Wi_isFull.frames + 1 ≤ R.frames ∧ 8 + (1 + 11) + xrm_Wi_isFull.locals ≤ R.locals) : CallW R s args own R_Wi index xy_Wi_isFull xb_Wi_isFull 1 (some .boolean) (Cond.code xy_Wi_isFull xb_Wi_isFull 1 (some .boolean) :: vTB) xrm_Wi_isFull 0 0 0 := cwV 0 hts (fw_gV vTB_good xK_Wi_isFull hl xI_Wi_isFull xS_Wi_isFull N_Wi) rfl rfl rfl (by decide +kernel) hR
theorem xd_Wi_isFull_0 : decode xb_Wi_isFull 0 = .ok (.aload_n 0, 1) := by decide +kernel
theorem xd_Wi_isFull_1 : decode xb_Wi_isFull 1 = .ok (.getfield 20, 3) := by decide +kernel
theorem xd_Wi_isFull_4 : decode xb_Wi_isFull 4 = .ok (.bipush 16, 2) := by decide +kernel
theorem xd_Wi_isFull_6 : decode xb_Wi_isFull 6 = .ok (.if_icmp .lt 7, 3) := by decide +kernel
theorem xd_Wi_isFull_9 : decode xb_Wi_isFull 9 = .ok (.iconst 1, 1) := by decide +kernel
theorem xd_Wi_isFull_10 : decode xb_Wi_isFull 10 = .ok (.goto 4, 3) := by decide +kernel
theorem xd_Wi_isFull_13 : decode xb_Wi_isFull 13 = .ok (.iconst 0, 1) := by decide +kernel
theorem xd_Wi_isFull_14 : decode xb_Wi_isFull 14 = .ok (.ireturn, 1) := by decide +kernel
abbrev xb_Fm_set : ByteArray := prog_6_method_2_code
def xy_Fm_set : MethodName := ⟨R_Fm, "set", "(IIII)V"⟩
abbrev xrm_Fm_set : Room := { frames := 1, cells := 0, slots := 0, locals := 23 }
theorem xK_Fm_set : Cond.code xy_Fm_set xb_Fm_set 5 none ∈ vTB := vTB_in 456 (by decide +kernel) rfl
theorem xI_Fm_set : Cond.instanceMethod xy_Fm_set ∈ vTB := vTB_in 454 (by decide +kernel) rfl
theorem xS_Fm_set : Cond.selects R_Fm xy_Fm_set xy_Fm_set ∈ vTB := vTB_in 455 (by decide +kernel) rfl
theorem xw_Fm_set {R : Room} {s : State} {args : Array Value} {own : String} {index : Nat} (hts : ∀ w ∈ vTB, w.before args s = true) (hl : Cond.methodLink own index xy_Fm_set ∈ vTB) (hR : xrm_Fm_set.frames + 1 ≤ R.frames ∧ 8 + (5 + 11) + xrm_Fm_set.locals ≤ R.locals) : CallW R s args own R_Fm index xy_Fm_set xb_Fm_set 5 none (Cond.code xy_Fm_set xb_Fm_set 5 none :: vTB) xrm_Fm_set 0 0 4 := cwV 4 hts (fw_gV vTB_good xK_Fm_set hl xI_Fm_set xS_Fm_set N_Fm) rfl rfl rfl (by decide +kernel) hR
theorem xd_Fm_set_0 : decode xb_Fm_set 0 = .ok (.aload_n 0, 1) := by decide +kernel
theorem xd_Fm_set_1 : decode xb_Fm_set 1 = .ok (.iload_n 1, 1) := by decide +kernel
theorem xd_Fm_set_2 : decode xb_Fm_set 2 = .ok (.putfield 15, 3) := by decide +kernel
theorem xd_Fm_set_5 : decode xb_Fm_set 5 = .ok (.aload_n 0, 1) := by decide +kernel
theorem xd_Fm_set_6 : decode xb_Fm_set 6 = .ok (.iload_n 2, 1) := by decide +kernel
theorem xd_Fm_set_7 : decode xb_Fm_set 7 = .ok (.putfield 19, 3) := by decide +kernel
theorem xd_Fm_set_10 : decode xb_Fm_set 10 = .ok (.aload_n 0, 1) := by decide +kernel
theorem xd_Fm_set_11 : decode xb_Fm_set 11 = .ok (.iload_n 3, 1) := by decide +kernel
theorem xd_Fm_set_12 : decode xb_Fm_set 12 = .ok (.putfield 22, 3) := by decide +kernel
theorem xd_Fm_set_15 : decode xb_Fm_set 15 = .ok (.aload_n 0, 1) := by decide +kernel
theorem xd_Fm_set_16 : decode xb_Fm_set 16 = .ok (.iload 4, 2) := by decide +kernel
theorem xd_Fm_set_18 : decode xb_Fm_set 18 = .ok (.putfield 25, 3) := by decide +kernel
theorem xd_Fm_set_21 : decode xb_Fm_set 21 = .ok (.aload_n 0, 1) := by decide +kernel
theorem xd_Fm_set_22 : decode xb_Fm_set 22 = .ok (.getfield 11, 3) := by decide +kernel
theorem xd_Fm_set_25 : decode xb_Fm_set 25 = .ok (.iconst 0, 1) := by decide +kernel
theorem xd_Fm_set_26 : decode xb_Fm_set 26 = .ok (.invokestatic 28, 3) := by decide +kernel
theorem xd_Fm_set_29 : decode xb_Fm_set 29 = .ok (.return_, 1) := by decide +kernel
abbrev xb_Wi_send : ByteArray := prog_9_method_4_code
def xy_Wi_send : MethodName := ⟨R_Wi, "send", "(IIII)LFieldRelay$Frame;"⟩
abbrev xrm_Wi_send : Room := { frames := 2, cells := 0, slots := 0, locals := 47 }
theorem xK_Wi_send : Cond.code xy_Wi_send xb_Wi_send 6 (some (.object R_Fm)) ∈ vTB := vTB_in 448 (by decide +kernel) rfl
theorem xI_Wi_send : Cond.instanceMethod xy_Wi_send ∈ vTB := vTB_in 446 (by decide +kernel) rfl
theorem xS_Wi_send : Cond.selects R_Wi xy_Wi_send xy_Wi_send ∈ vTB := vTB_in 447 (by decide +kernel) rfl
theorem xw_Wi_send {R : Room} {s : State} {args : Array Value} {own : String} {index : Nat} (hts : ∀ w ∈ vTB, w.before args s = true) (hl : Cond.methodLink own index xy_Wi_send ∈ vTB) (hR : xrm_Wi_send.frames + 1 ≤ R.frames ∧ 8 + (6 + 11) + xrm_Wi_send.locals ≤ R.locals) : CallW R s args own R_Wi index xy_Wi_send xb_Wi_send 6 (some (.object R_Fm)) (Cond.code xy_Wi_send xb_Wi_send 6 (some (.object R_Fm)) :: vTB) xrm_Wi_send 0 0 4 := cwV 4 hts (fw_gV vTB_good xK_Wi_send hl xI_Wi_send xS_Wi_send N_Wi) rfl rfl rfl (by decide +kernel) hR
theorem xd_Wi_send_0 : decode xb_Wi_send 0 = .ok (.aload_n 0, 1) := by decide +kernel
theorem xd_Wi_send_1 : decode xb_Wi_send 1 = .ok (.dup, 1) := by decide +kernel
theorem xd_Wi_send_2 : decode xb_Wi_send 2 = .ok (.getfield 30, 3) := by decide +kernel
theorem xd_Wi_send_5 : decode xb_Wi_send 5 = .ok (.iconst 1, 1) := by decide +kernel
theorem xd_Wi_send_6 : decode xb_Wi_send 6 = .ok (.iadd, 1) := by decide +kernel
theorem xd_Wi_send_7 : decode xb_Wi_send 7 = .ok (.putfield 30, 3) := by decide +kernel
theorem xd_Wi_send_10 : decode xb_Wi_send 10 = .ok (.aload_n 0, 1) := by decide +kernel
theorem xd_Wi_send_11 : decode xb_Wi_send 11 = .ok (.getfield 16, 3) := by decide +kernel
theorem xd_Wi_send_14 : decode xb_Wi_send 14 = .ok (.astore 5, 2) := by decide +kernel
theorem xd_Wi_send_16 : decode xb_Wi_send 16 = .ok (.aload_n 0, 1) := by decide +kernel
theorem xd_Wi_send_17 : decode xb_Wi_send 17 = .ok (.invokevirtual 33, 3) := by decide +kernel
theorem xd_Wi_send_20 : decode xb_Wi_send 20 = .ok (.ifCond .eq 16, 3) := by decide +kernel
theorem xd_Wi_send_23 : decode xb_Wi_send 23 = .ok (.aload_n 0, 1) := by decide +kernel
theorem xd_Wi_send_24 : decode xb_Wi_send 24 = .ok (.dup, 1) := by decide +kernel
theorem xd_Wi_send_25 : decode xb_Wi_send 25 = .ok (.getfield 37, 3) := by decide +kernel
theorem xd_Wi_send_28 : decode xb_Wi_send 28 = .ok (.iconst 1, 1) := by decide +kernel
theorem xd_Wi_send_29 : decode xb_Wi_send 29 = .ok (.iadd, 1) := by decide +kernel
theorem xd_Wi_send_30 : decode xb_Wi_send 30 = .ok (.putfield 37, 3) := by decide +kernel
theorem xd_Wi_send_33 : decode xb_Wi_send 33 = .ok (.goto 24, 3) := by decide +kernel
theorem xd_Wi_send_36 : decode xb_Wi_send 36 = .ok (.aload_n 0, 1) := by decide +kernel
theorem xd_Wi_send_37 : decode xb_Wi_send 37 = .ok (.getfield 11, 3) := by decide +kernel
theorem xd_Wi_send_40 : decode xb_Wi_send 40 = .ok (.aload_n 0, 1) := by decide +kernel
theorem xd_Wi_send_41 : decode xb_Wi_send 41 = .ok (.getfield 20, 3) := by decide +kernel
theorem xd_Wi_send_44 : decode xb_Wi_send 44 = .ok (.aaload, 1) := by decide +kernel
theorem xd_Wi_send_45 : decode xb_Wi_send 45 = .ok (.astore 5, 2) := by decide +kernel
theorem xd_Wi_send_47 : decode xb_Wi_send 47 = .ok (.aload_n 0, 1) := by decide +kernel
theorem xd_Wi_send_48 : decode xb_Wi_send 48 = .ok (.dup, 1) := by decide +kernel
theorem xd_Wi_send_49 : decode xb_Wi_send 49 = .ok (.getfield 20, 3) := by decide +kernel
theorem xd_Wi_send_52 : decode xb_Wi_send 52 = .ok (.iconst 1, 1) := by decide +kernel
theorem xd_Wi_send_53 : decode xb_Wi_send 53 = .ok (.iadd, 1) := by decide +kernel
theorem xd_Wi_send_54 : decode xb_Wi_send 54 = .ok (.putfield 20, 3) := by decide +kernel
theorem xd_Wi_send_57 : decode xb_Wi_send 57 = .ok (.aload 5, 2) := by decide +kernel
theorem xd_Wi_send_59 : decode xb_Wi_send 59 = .ok (.iload_n 1, 1) := by decide +kernel
theorem xd_Wi_send_60 : decode xb_Wi_send 60 = .ok (.iload_n 2, 1) := by decide +kernel
theorem xd_Wi_send_61 : decode xb_Wi_send 61 = .ok (.iload_n 3, 1) := by decide +kernel
theorem xd_Wi_send_62 : decode xb_Wi_send 62 = .ok (.iload 4, 2) := by decide +kernel
theorem xd_Wi_send_64 : decode xb_Wi_send 64 = .ok (.invokevirtual 40, 3) := by decide +kernel
theorem xd_Wi_send_67 : decode xb_Wi_send 67 = .ok (.aload 5, 2) := by decide +kernel
theorem xd_Wi_send_69 : decode xb_Wi_send 69 = .ok (.areturn, 1) := by decide +kernel
abbrev xb_Re_sendConnect : ByteArray := prog_8_method_21_code
def xy_Re_sendConnect : MethodName := ⟨R_Re, "sendConnect", "()V"⟩
abbrev xrm_Re_sendConnect : Room := { frames := 3, cells := 0, slots := 0, locals := 72 }
theorem xK_Re_sendConnect : Cond.code xy_Re_sendConnect xb_Re_sendConnect 3 none ∈ vTB := vTB_in 461 (by decide +kernel) rfl
theorem xI_Re_sendConnect : Cond.instanceMethod xy_Re_sendConnect ∈ vTB := vTB_in 460 (by decide +kernel) rfl
theorem xS_Re_sendConnect : Cond.selects R_Re xy_Re_sendConnect xy_Re_sendConnect ∈ vTB := vTB_sel (q := (xy_Re_sendConnect, 20)) 4 (by decide +kernel)
theorem xw_Re_sendConnect {R : Room} {s : State} {args : Array Value} {own : String} {index : Nat} (hts : ∀ w ∈ vTB, w.before args s = true) (hl : Cond.methodLink own index xy_Re_sendConnect ∈ vTB) (hR : xrm_Re_sendConnect.frames + 1 ≤ R.frames ∧ 8 + (3 + 11) + xrm_Re_sendConnect.locals ≤ R.locals) : CallW R s args own R_Re index xy_Re_sendConnect xb_Re_sendConnect 3 none (Cond.code xy_Re_sendConnect xb_Re_sendConnect 3 none :: vTB) xrm_Re_sendConnect 0 0 0 := cwV 0 hts (fw_gV vTB_good xK_Re_sendConnect hl xI_Re_sendConnect xS_Re_sendConnect N_Re) rfl rfl rfl (by decide +kernel) hR
theorem xd_Re_sendConnect_0 : decode xb_Re_sendConnect 0 = .ok (.aload_n 0, 1) := by decide +kernel
theorem xd_Re_sendConnect_1 : decode xb_Re_sendConnect 1 = .ok (.getfield 42, 3) := by decide +kernel
theorem xd_Re_sendConnect_4 : decode xb_Re_sendConnect 4 = .ok (.iconst 3, 1) := by decide +kernel
theorem xd_Re_sendConnect_5 : decode xb_Re_sendConnect 5 = .ok (.aload_n 0, 1) := by decide +kernel
theorem xd_Re_sendConnect_6 : decode xb_Re_sendConnect 6 = .ok (.getfield 59, 3) := by decide +kernel
theorem xd_Re_sendConnect_9 : decode xb_Re_sendConnect 9 = .ok (.iconst 0, 1) := by decide +kernel
theorem xd_Re_sendConnect_10 : decode xb_Re_sendConnect 10 = .ok (.aload_n 0, 1) := by decide +kernel
theorem xd_Re_sendConnect_11 : decode xb_Re_sendConnect 11 = .ok (.getfield 31, 3) := by decide +kernel
theorem xd_Re_sendConnect_14 : decode xb_Re_sendConnect 14 = .ok (.invokevirtual 145, 3) := by decide +kernel
theorem xd_Re_sendConnect_17 : decode xb_Re_sendConnect 17 = .ok (.astore_n 1, 1) := by decide +kernel
theorem xd_Re_sendConnect_18 : decode xb_Re_sendConnect 18 = .ok (.iconst 0, 1) := by decide +kernel
theorem xd_Re_sendConnect_19 : decode xb_Re_sendConnect 19 = .ok (.istore_n 2, 1) := by decide +kernel
theorem xd_Re_sendConnect_20 : decode xb_Re_sendConnect 20 = .ok (.iload_n 2, 1) := by decide +kernel
theorem xd_Re_sendConnect_21 : decode xb_Re_sendConnect 21 = .ok (.iconst 3, 1) := by decide +kernel
theorem xd_Re_sendConnect_22 : decode xb_Re_sendConnect 22 = .ok (.if_icmp .ge 23, 3) := by decide +kernel
theorem xd_Re_sendConnect_25 : decode xb_Re_sendConnect 25 = .ok (.aload_n 1, 1) := by decide +kernel
theorem xd_Re_sendConnect_26 : decode xb_Re_sendConnect 26 = .ok (.getfield 130, 3) := by decide +kernel
theorem xd_Re_sendConnect_29 : decode xb_Re_sendConnect 29 = .ok (.iload_n 2, 1) := by decide +kernel
theorem xd_Re_sendConnect_30 : decode xb_Re_sendConnect 30 = .ok (.aload_n 0, 1) := by decide +kernel
theorem xd_Re_sendConnect_31 : decode xb_Re_sendConnect 31 = .ok (.getfield 18, 3) := by decide +kernel
theorem xd_Re_sendConnect_34 : decode xb_Re_sendConnect 34 = .ok (.iload_n 2, 1) := by decide +kernel
theorem xd_Re_sendConnect_35 : decode xb_Re_sendConnect 35 = .ok (.iaload, 1) := by decide +kernel
theorem xd_Re_sendConnect_36 : decode xb_Re_sendConnect 36 = .ok (.iconst 1, 1) := by decide +kernel
theorem xd_Re_sendConnect_37 : decode xb_Re_sendConnect 37 = .ok (.iadd, 1) := by decide +kernel
theorem xd_Re_sendConnect_38 : decode xb_Re_sendConnect 38 = .ok (.iastore, 1) := by decide +kernel
theorem xd_Re_sendConnect_39 : decode xb_Re_sendConnect 39 = .ok (.iinc 2 1, 3) := by decide +kernel
theorem xd_Re_sendConnect_42 : decode xb_Re_sendConnect 42 = .ok (.goto (-22), 3) := by decide +kernel
theorem xd_Re_sendConnect_45 : decode xb_Re_sendConnect 45 = .ok (.return_, 1) := by decide +kernel
abbrev xb_Re_sendRequest : ByteArray := prog_8_method_20_code
def xy_Re_sendRequest : MethodName := ⟨R_Re, "sendRequest", "()V"⟩
abbrev xrm_Re_sendRequest : Room := { frames := 4, cells := 0, slots := 0, locals := 94 }
theorem xK_Re_sendRequest : Cond.code xy_Re_sendRequest xb_Re_sendRequest 1 none ∈ vTB := vTB_in 444 (by decide +kernel) rfl
theorem xI_Re_sendRequest : Cond.instanceMethod xy_Re_sendRequest ∈ vTB := vTB_in 443 (by decide +kernel) rfl
theorem xS_Re_sendRequest : Cond.selects R_Re xy_Re_sendRequest xy_Re_sendRequest ∈ vTB := vTB_sel (q := (xy_Re_sendRequest, 20)) 3 (by decide +kernel)
theorem xw_Re_sendRequest {R : Room} {s : State} {args : Array Value} {own : String} {index : Nat} (hts : ∀ w ∈ vTB, w.before args s = true) (hl : Cond.methodLink own index xy_Re_sendRequest ∈ vTB) (hR : xrm_Re_sendRequest.frames + 1 ≤ R.frames ∧ 8 + (1 + 11) + xrm_Re_sendRequest.locals ≤ R.locals) : CallW R s args own R_Re index xy_Re_sendRequest xb_Re_sendRequest 1 none (Cond.code xy_Re_sendRequest xb_Re_sendRequest 1 none :: vTB) xrm_Re_sendRequest 0 0 0 := cwV 0 hts (fw_gV vTB_good xK_Re_sendRequest hl xI_Re_sendRequest xS_Re_sendRequest N_Re) rfl rfl rfl (by decide +kernel) hR
theorem xd_Re_sendRequest_0 : decode xb_Re_sendRequest 0 = .ok (.aload_n 0, 1) := by decide +kernel
theorem xd_Re_sendRequest_1 : decode xb_Re_sendRequest 1 = .ok (.getfield 56, 3) := by decide +kernel
theorem xd_Re_sendRequest_4 : decode xb_Re_sendRequest 4 = .ok (.tableswitch 117 1 4 #[32, 50, 57, 95], 32) := by decide +kernel
theorem xd_Re_sendRequest_36 : decode xb_Re_sendRequest 36 = .ok (.aload_n 0, 1) := by decide +kernel
theorem xd_Re_sendRequest_37 : decode xb_Re_sendRequest 37 = .ok (.getfield 42, 3) := by decide +kernel
theorem xd_Re_sendRequest_40 : decode xb_Re_sendRequest 40 = .ok (.iconst 1, 1) := by decide +kernel
theorem xd_Re_sendRequest_41 : decode xb_Re_sendRequest 41 = .ok (.iconst 0, 1) := by decide +kernel
theorem xd_Re_sendRequest_42 : decode xb_Re_sendRequest 42 = .ok (.aload_n 0, 1) := by decide +kernel
theorem xd_Re_sendRequest_43 : decode xb_Re_sendRequest 43 = .ok (.getfield 133, 3) := by decide +kernel
theorem xd_Re_sendRequest_46 : decode xb_Re_sendRequest 46 = .ok (.iconst 3, 1) := by decide +kernel
theorem xd_Re_sendRequest_47 : decode xb_Re_sendRequest 47 = .ok (.invokevirtual 145, 3) := by decide +kernel
theorem xd_Re_sendRequest_50 : decode xb_Re_sendRequest 50 = .ok (.pop, 1) := by decide +kernel
theorem xd_Re_sendRequest_51 : decode xb_Re_sendRequest 51 = .ok (.goto 70, 3) := by decide +kernel
theorem xd_Re_sendRequest_54 : decode xb_Re_sendRequest 54 = .ok (.aload_n 0, 1) := by decide +kernel
theorem xd_Re_sendRequest_55 : decode xb_Re_sendRequest 55 = .ok (.invokevirtual 183, 3) := by decide +kernel
theorem xd_Re_sendRequest_58 : decode xb_Re_sendRequest 58 = .ok (.goto 63, 3) := by decide +kernel
theorem xd_Re_sendRequest_61 : decode xb_Re_sendRequest 61 = .ok (.aload_n 0, 1) := by decide +kernel
theorem xd_Re_sendRequest_62 : decode xb_Re_sendRequest 62 = .ok (.getfield 42, 3) := by decide +kernel
theorem xd_Re_sendRequest_65 : decode xb_Re_sendRequest 65 = .ok (.bipush 6, 2) := by decide +kernel
theorem xd_Re_sendRequest_67 : decode xb_Re_sendRequest 67 = .ok (.aload_n 0, 1) := by decide +kernel
theorem xd_Re_sendRequest_68 : decode xb_Re_sendRequest 68 = .ok (.getfield 59, 3) := by decide +kernel
theorem xd_Re_sendRequest_71 : decode xb_Re_sendRequest 71 = .ok (.aload_n 0, 1) := by decide +kernel
theorem xd_Re_sendRequest_72 : decode xb_Re_sendRequest 72 = .ok (.getfield 139, 3) := by decide +kernel
theorem xd_Re_sendRequest_75 : decode xb_Re_sendRequest 75 = .ok (.aload_n 0, 1) := by decide +kernel
theorem xd_Re_sendRequest_76 : decode xb_Re_sendRequest 76 = .ok (.getfield 31, 3) := by decide +kernel
theorem xd_Re_sendRequest_79 : decode xb_Re_sendRequest 79 = .ok (.invokevirtual 145, 3) := by decide +kernel
theorem xd_Re_sendRequest_82 : decode xb_Re_sendRequest 82 = .ok (.getfield 130, 3) := by decide +kernel
theorem xd_Re_sendRequest_85 : decode xb_Re_sendRequest 85 = .ok (.iconst 0, 1) := by decide +kernel
theorem xd_Re_sendRequest_86 : decode xb_Re_sendRequest 86 = .ok (.aload_n 0, 1) := by decide +kernel
theorem xd_Re_sendRequest_87 : decode xb_Re_sendRequest 87 = .ok (.getfield 22, 3) := by decide +kernel
theorem xd_Re_sendRequest_90 : decode xb_Re_sendRequest 90 = .ok (.aload_n 0, 1) := by decide +kernel
theorem xd_Re_sendRequest_91 : decode xb_Re_sendRequest 91 = .ok (.getfield 139, 3) := by decide +kernel
theorem xd_Re_sendRequest_94 : decode xb_Re_sendRequest 94 = .ok (.iaload, 1) := by decide +kernel
theorem xd_Re_sendRequest_95 : decode xb_Re_sendRequest 95 = .ok (.iastore, 1) := by decide +kernel
theorem xd_Re_sendRequest_96 : decode xb_Re_sendRequest 96 = .ok (.goto 25, 3) := by decide +kernel
theorem xd_Re_sendRequest_99 : decode xb_Re_sendRequest 99 = .ok (.aload_n 0, 1) := by decide +kernel
theorem xd_Re_sendRequest_100 : decode xb_Re_sendRequest 100 = .ok (.getfield 42, 3) := by decide +kernel
theorem xd_Re_sendRequest_103 : decode xb_Re_sendRequest 103 = .ok (.bipush 8, 2) := by decide +kernel
theorem xd_Re_sendRequest_105 : decode xb_Re_sendRequest 105 = .ok (.aload_n 0, 1) := by decide +kernel
theorem xd_Re_sendRequest_106 : decode xb_Re_sendRequest 106 = .ok (.getfield 59, 3) := by decide +kernel
theorem xd_Re_sendRequest_109 : decode xb_Re_sendRequest 109 = .ok (.iconst 0, 1) := by decide +kernel
theorem xd_Re_sendRequest_110 : decode xb_Re_sendRequest 110 = .ok (.aload_n 0, 1) := by decide +kernel
theorem xd_Re_sendRequest_111 : decode xb_Re_sendRequest 111 = .ok (.getfield 31, 3) := by decide +kernel
theorem xd_Re_sendRequest_114 : decode xb_Re_sendRequest 114 = .ok (.invokevirtual 145, 3) := by decide +kernel
theorem xd_Re_sendRequest_117 : decode xb_Re_sendRequest 117 = .ok (.pop, 1) := by decide +kernel
theorem xd_Re_sendRequest_118 : decode xb_Re_sendRequest 118 = .ok (.goto 3, 3) := by decide +kernel
theorem xd_Re_sendRequest_121 : decode xb_Re_sendRequest 121 = .ok (.return_, 1) := by decide +kernel
