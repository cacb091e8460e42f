abbrev xb_Re_begin : ByteArray := prog_8_method_4_code
def xy_Re_begin : MethodName := ⟨R_Re, "begin", "(I)V"⟩
abbrev xrm_Re_begin : Room := { frames := 5, cells := 0, slots := 0, locals := 114 }
theorem xK_Re_begin : Cond.code xy_Re_begin xb_Re_begin 2 none ∈ vTB := vTB_in 436 (by decide +kernel) rfl
theorem xI_Re_begin : Cond.instanceMethod xy_Re_begin ∈ vTB := vTB_in 434 (by decide +kernel) rfl
theorem xS_Re_begin : Cond.selects R_Re xy_Re_begin xy_Re_begin ∈ vTB := vTB_in 435 (by decide +kernel) rfl
theorem xw_Re_begin {R : Room} {s : State} {args : Array Value} {own : String} {index : Nat} (hts : ∀ w ∈ vTB, w.before args s = true) (hl : Cond.methodLink own index xy_Re_begin ∈ vTB) (hR : xrm_Re_begin.frames + 1 ≤ R.frames ∧ 8 + (2 + 11) + xrm_Re_begin.locals ≤ R.locals) : CallW R s args own R_Re index xy_Re_begin xb_Re_begin 2 none (Cond.code xy_Re_begin xb_Re_begin 2 none :: vTB) xrm_Re_begin 0 0 1 := cwV 1 hts (fw_gV vTB_good xK_Re_begin hl xI_Re_begin xS_Re_begin N_Re) rfl rfl rfl (by decide +kernel) hR
theorem xd_Re_begin_0 : decode xb_Re_begin 0 = .ok (.aload_n 0, 1) := by decide +kernel
theorem xd_Re_begin_1 : decode xb_Re_begin 1 = .ok (.iload_n 1, 1) := by decide +kernel
theorem xd_Re_begin_2 : decode xb_Re_begin 2 = .ok (.putfield 59, 3) := by decide +kernel
theorem xd_Re_begin_5 : decode xb_Re_begin 5 = .ok (.aload_n 0, 1) := by decide +kernel
theorem xd_Re_begin_6 : decode xb_Re_begin 6 = .ok (.iconst 0, 1) := by decide +kernel
theorem xd_Re_begin_7 : decode xb_Re_begin 7 = .ok (.putfield 62, 3) := by decide +kernel
theorem xd_Re_begin_10 : decode xb_Re_begin 10 = .ok (.aload_n 0, 1) := by decide +kernel
theorem xd_Re_begin_11 : decode xb_Re_begin 11 = .ok (.iconst 0, 1) := by decide +kernel
theorem xd_Re_begin_12 : decode xb_Re_begin 12 = .ok (.putfield 65, 3) := by decide +kernel
theorem xd_Re_begin_15 : decode xb_Re_begin 15 = .ok (.aload_n 0, 1) := by decide +kernel
theorem xd_Re_begin_16 : decode xb_Re_begin 16 = .ok (.iconst 1, 1) := by decide +kernel
theorem xd_Re_begin_17 : decode xb_Re_begin 17 = .ok (.invokevirtual 68, 3) := by decide +kernel
theorem xd_Re_begin_20 : decode xb_Re_begin 20 = .ok (.aload_n 0, 1) := by decide +kernel
theorem xd_Re_begin_21 : decode xb_Re_begin 21 = .ok (.invokevirtual 72, 3) := by decide +kernel
theorem xd_Re_begin_24 : decode xb_Re_begin 24 = .ok (.return_, 1) := by decide +kernel
abbrev xb_FR_open : ByteArray := prog_1_method_10_code
def xy_FR_open : MethodName := ⟨R_FR, "open", "(I)I"⟩
abbrev xrm_FR_open : Room := { frames := 6, cells := 0, slots := 0, locals := 135 }
theorem xK_FR_open : Cond.code xy_FR_open xb_FR_open 2 (some .int) ∈ vTB := vTB_in 431 (by decide +kernel) rfl
theorem xI_FR_open : Cond.instanceMethod xy_FR_open ∈ vTB := vTB_in 429 (by decide +kernel) rfl
theorem xS_FR_open : Cond.selects R_FR xy_FR_open xy_FR_open ∈ vTB := vTB_in 430 (by decide +kernel) rfl
theorem xw_FR_open {R : Room} {s : State} {args : Array Value} {own : String} {index : Nat} (hts : ∀ w ∈ vTB, w.before args s = true) (hl : Cond.methodLink own index xy_FR_open ∈ vTB) (hR : xrm_FR_open.frames + 1 ≤ R.frames ∧ 8 + (2 + 11) + xrm_FR_open.locals ≤ R.locals) : CallW R s args own R_FR index xy_FR_open xb_FR_open 2 (some .int) (Cond.code xy_FR_open xb_FR_open 2 (some .int) :: vTB) xrm_FR_open 0 0 1 := cwV 1 hts (fw_gV vTB_good xK_FR_open hl xI_FR_open xS_FR_open N_FR) rfl rfl rfl (by decide +kernel) hR
theorem xd_FR_open_0 : decode xb_FR_open 0 = .ok (.iload_n 1, 1) := by decide +kernel
theorem xd_FR_open_1 : decode xb_FR_open 1 = .ok (.invokestatic 64, 3) := by decide +kernel
theorem xd_FR_open_4 : decode xb_FR_open 4 = .ok (.ifCond .ne 5, 3) := by decide +kernel
theorem xd_FR_open_7 : decode xb_FR_open 7 = .ok (.iconst (-1), 1) := by decide +kernel
theorem xd_FR_open_8 : decode xb_FR_open 8 = .ok (.ireturn, 1) := by decide +kernel
theorem xd_FR_open_9 : decode xb_FR_open 9 = .ok (.aload_n 0, 1) := by decide +kernel
theorem xd_FR_open_10 : decode xb_FR_open 10 = .ok (.getfield 32, 3) := by decide +kernel
theorem xd_FR_open_13 : decode xb_FR_open 13 = .ok (.iload_n 1, 1) := by decide +kernel
theorem xd_FR_open_14 : decode xb_FR_open 14 = .ok (.aaload, 1) := by decide +kernel
theorem xd_FR_open_15 : decode xb_FR_open 15 = .ok (.invokevirtual 99, 3) := by decide +kernel
theorem xd_FR_open_18 : decode xb_FR_open 18 = .ok (.ifCond .eq 15, 3) := by decide +kernel
theorem xd_FR_open_21 : decode xb_FR_open 21 = .ok (.aload_n 0, 1) := by decide +kernel
theorem xd_FR_open_22 : decode xb_FR_open 22 = .ok (.getfield 32, 3) := by decide +kernel
theorem xd_FR_open_25 : decode xb_FR_open 25 = .ok (.iload_n 1, 1) := by decide +kernel
theorem xd_FR_open_26 : decode xb_FR_open 26 = .ok (.aaload, 1) := by decide +kernel
theorem xd_FR_open_27 : decode xb_FR_open 27 = .ok (.getfield 102, 3) := by decide +kernel
theorem xd_FR_open_30 : decode xb_FR_open 30 = .ok (.ifCond .ne 6, 3) := by decide +kernel
theorem xd_FR_open_33 : decode xb_FR_open 33 = .ok (.bipush (-2), 2) := by decide +kernel
theorem xd_FR_open_35 : decode xb_FR_open 35 = .ok (.ireturn, 1) := by decide +kernel
theorem xd_FR_open_36 : decode xb_FR_open 36 = .ok (.aload_n 0, 1) := by decide +kernel
theorem xd_FR_open_37 : decode xb_FR_open 37 = .ok (.aload_n 0, 1) := by decide +kernel
theorem xd_FR_open_38 : decode xb_FR_open 38 = .ok (.getfield 112, 3) := by decide +kernel
theorem xd_FR_open_41 : decode xb_FR_open 41 = .ok (.ldc 115, 2) := by decide +kernel
theorem xd_FR_open_43 : decode xb_FR_open 43 = .ok (.if_icmp .lt 7, 3) := by decide +kernel
theorem xd_FR_open_46 : decode xb_FR_open 46 = .ok (.iconst 1, 1) := by decide +kernel
theorem xd_FR_open_47 : decode xb_FR_open 47 = .ok (.goto 9, 3) := by decide +kernel
theorem xd_FR_open_50 : decode xb_FR_open 50 = .ok (.aload_n 0, 1) := by decide +kernel
theorem xd_FR_open_51 : decode xb_FR_open 51 = .ok (.getfield 112, 3) := by decide +kernel
theorem xd_FR_open_54 : decode xb_FR_open 54 = .ok (.iconst 1, 1) := by decide +kernel
theorem xd_FR_open_55 : decode xb_FR_open 55 = .ok (.iadd, 1) := by decide +kernel
theorem xd_FR_open_56 : decode xb_FR_open 56 = .ok (.putfield 112, 3) := by decide +kernel
theorem xd_FR_open_59 : decode xb_FR_open 59 = .ok (.aload_n 0, 1) := by decide +kernel
theorem xd_FR_open_60 : decode xb_FR_open 60 = .ok (.dup, 1) := by decide +kernel
theorem xd_FR_open_61 : decode xb_FR_open 61 = .ok (.getfield 116, 3) := by decide +kernel
theorem xd_FR_open_64 : decode xb_FR_open 64 = .ok (.iconst 1, 1) := by decide +kernel
theorem xd_FR_open_65 : decode xb_FR_open 65 = .ok (.iadd, 1) := by decide +kernel
theorem xd_FR_open_66 : decode xb_FR_open 66 = .ok (.putfield 116, 3) := by decide +kernel
theorem xd_FR_open_69 : decode xb_FR_open 69 = .ok (.aload_n 0, 1) := by decide +kernel
theorem xd_FR_open_70 : decode xb_FR_open 70 = .ok (.getfield 32, 3) := by decide +kernel
theorem xd_FR_open_73 : decode xb_FR_open 73 = .ok (.iload_n 1, 1) := by decide +kernel
theorem xd_FR_open_74 : decode xb_FR_open 74 = .ok (.aaload, 1) := by decide +kernel
theorem xd_FR_open_75 : decode xb_FR_open 75 = .ok (.aload_n 0, 1) := by decide +kernel
theorem xd_FR_open_76 : decode xb_FR_open 76 = .ok (.getfield 112, 3) := by decide +kernel
theorem xd_FR_open_79 : decode xb_FR_open 79 = .ok (.invokevirtual 119, 3) := by decide +kernel
theorem xd_FR_open_82 : decode xb_FR_open 82 = .ok (.aload_n 0, 1) := by decide +kernel
theorem xd_FR_open_83 : decode xb_FR_open 83 = .ok (.getfield 112, 3) := by decide +kernel
theorem xd_FR_open_86 : decode xb_FR_open 86 = .ok (.ireturn, 1) := by decide +kernel
abbrev xb_Re_shut : ByteArray := prog_8_method_25_code
def xy_Re_shut : MethodName := ⟨R_Re, "shut", "()V"⟩
abbrev xrm_Re_shut : Room := { frames := 1, cells := 0, slots := 0, locals := 23 }
theorem xK_Re_shut : Cond.code xy_Re_shut xb_Re_shut 1 none ∈ vTB := vTB_in 477 (by decide +kernel) rfl
theorem xI_Re_shut : Cond.instanceMethod xy_Re_shut ∈ vTB := vTB_in 476 (by decide +kernel) rfl
theorem xS_Re_shut : Cond.selects R_Re xy_Re_shut xy_Re_shut ∈ vTB := vTB_sel (q := (xy_Re_shut, 20)) 6 (by decide +kernel)
theorem xw_Re_shut {R : Room} {s : State} {args : Array Value} {own : String} {index : Nat} (hts : ∀ w ∈ vTB, w.before args s = true) (hl : Cond.methodLink own index xy_Re_shut ∈ vTB) (hR : xrm_Re_shut.frames + 1 ≤ R.frames ∧ 8 + (1 + 11) + xrm_Re_shut.locals ≤ R.locals) : CallW R s args own R_Re index xy_Re_shut xb_Re_shut 1 none (Cond.code xy_Re_shut xb_Re_shut 1 none :: vTB) xrm_Re_shut 0 0 0 := cwV 0 hts (fw_gV vTB_good xK_Re_shut hl xI_Re_shut xS_Re_shut N_Re) rfl rfl rfl (by decide +kernel) hR
theorem xd_Re_shut_0 : decode xb_Re_shut 0 = .ok (.aload_n 0, 1) := by decide +kernel
theorem xd_Re_shut_1 : decode xb_Re_shut 1 = .ok (.iconst 0, 1) := by decide +kernel
theorem xd_Re_shut_2 : decode xb_Re_shut 2 = .ok (.invokevirtual 68, 3) := by decide +kernel
theorem xd_Re_shut_5 : decode xb_Re_shut 5 = .ok (.aload_n 0, 1) := by decide +kernel
theorem xd_Re_shut_6 : decode xb_Re_shut 6 = .ok (.iconst 0, 1) := by decide +kernel
theorem xd_Re_shut_7 : decode xb_Re_shut 7 = .ok (.putfield 59, 3) := by decide +kernel
theorem xd_Re_shut_10 : decode xb_Re_shut 10 = .ok (.aload_n 0, 1) := by decide +kernel
theorem xd_Re_shut_11 : decode xb_Re_shut 11 = .ok (.iconst (-1), 1) := by decide +kernel
theorem xd_Re_shut_12 : decode xb_Re_shut 12 = .ok (.putfield 31, 3) := by decide +kernel
theorem xd_Re_shut_15 : decode xb_Re_shut 15 = .ok (.aload_n 0, 1) := by decide +kernel
theorem xd_Re_shut_16 : decode xb_Re_shut 16 = .ok (.iconst 0, 1) := by decide +kernel
theorem xd_Re_shut_17 : decode xb_Re_shut 17 = .ok (.putfield 124, 3) := by decide +kernel
theorem xd_Re_shut_20 : decode xb_Re_shut 20 = .ok (.aload_n 0, 1) := by decide +kernel
theorem xd_Re_shut_21 : decode xb_Re_shut 21 = .ok (.getfield 28, 3) := by decide +kernel
theorem xd_Re_shut_24 : decode xb_Re_shut 24 = .ok (.iconst 0, 1) := by decide +kernel
theorem xd_Re_shut_25 : decode xb_Re_shut 25 = .ok (.invokestatic 50, 3) := by decide +kernel
theorem xd_Re_shut_28 : decode xb_Re_shut 28 = .ok (.return_, 1) := by decide +kernel
abbrev xb_Re_abort : ByteArray := prog_8_method_24_code
def xy_Re_abort : MethodName := ⟨R_Re, "abort", "()V"⟩
abbrev xrm_Re_abort : Room := { frames := 3, cells := 0, slots := 0, locals := 72 }
theorem xK_Re_abort : Cond.code xy_Re_abort xb_Re_abort 1 none ∈ vTB := vTB_in 473 (by decide +kernel) rfl
theorem xI_Re_abort : Cond.instanceMethod xy_Re_abort ∈ vTB := vTB_in 472 (by decide +kernel) rfl
theorem xS_Re_abort : Cond.selects R_Re xy_Re_abort xy_Re_abort ∈ vTB := vTB_sel (q := (xy_Re_abort, 20)) 5 (by decide +kernel)
theorem xw_Re_abort {R : Room} {s : State} {args : Array Value} {own : String} {index : Nat} (hts : ∀ w ∈ vTB, w.before args s = true) (hl : Cond.methodLink own index xy_Re_abort ∈ vTB) (hR : xrm_Re_abort.frames + 1 ≤ R.frames ∧ 8 + (1 + 11) + xrm_Re_abort.locals ≤ R.locals) : CallW R s args own R_Re index xy_Re_abort xb_Re_abort 1 none (Cond.code xy_Re_abort xb_Re_abort 1 none :: vTB) xrm_Re_abort 0 0 0 := cwV 0 hts (fw_gV vTB_good xK_Re_abort hl xI_Re_abort xS_Re_abort N_Re) rfl rfl rfl (by decide +kernel) hR
theorem xd_Re_abort_0 : decode xb_Re_abort 0 = .ok (.aload_n 0, 1) := by decide +kernel
theorem xd_Re_abort_1 : decode xb_Re_abort 1 = .ok (.getfield 42, 3) := by decide +kernel
theorem xd_Re_abort_4 : decode xb_Re_abort 4 = .ok (.bipush 16, 2) := by decide +kernel
theorem xd_Re_abort_6 : decode xb_Re_abort 6 = .ok (.aload_n 0, 1) := by decide +kernel
theorem xd_Re_abort_7 : decode xb_Re_abort 7 = .ok (.getfield 59, 3) := by decide +kernel
theorem xd_Re_abort_10 : decode xb_Re_abort 10 = .ok (.iconst 0, 1) := by decide +kernel
theorem xd_Re_abort_11 : decode xb_Re_abort 11 = .ok (.aload_n 0, 1) := by decide +kernel
theorem xd_Re_abort_12 : decode xb_Re_abort 12 = .ok (.getfield 31, 3) := by decide +kernel
theorem xd_Re_abort_15 : decode xb_Re_abort 15 = .ok (.invokevirtual 145, 3) := by decide +kernel
theorem xd_Re_abort_18 : decode xb_Re_abort 18 = .ok (.pop, 1) := by decide +kernel
theorem xd_Re_abort_19 : decode xb_Re_abort 19 = .ok (.aload_n 0, 1) := by decide +kernel
theorem xd_Re_abort_20 : decode xb_Re_abort 20 = .ok (.invokevirtual 78, 3) := by decide +kernel
theorem xd_Re_abort_23 : decode xb_Re_abort 23 = .ok (.return_, 1) := by decide +kernel
abbrev xb_Re_end : ByteArray := prog_8_method_5_code
def xy_Re_end : MethodName := ⟨R_Re, "end", "()I"⟩
abbrev xrm_Re_end : Room := { frames := 4, cells := 0, slots := 0, locals := 92 }
theorem xK_Re_end : Cond.code xy_Re_end xb_Re_end 2 (some .int) ∈ vTB := vTB_in 469 (by decide +kernel) rfl
theorem xI_Re_end : Cond.instanceMethod xy_Re_end ∈ vTB := vTB_in 467 (by decide +kernel) rfl
theorem xS_Re_end : Cond.selects R_Re xy_Re_end xy_Re_end ∈ vTB := vTB_in 468 (by decide +kernel) rfl
theorem xw_Re_end {R : Room} {s : State} {args : Array Value} {own : String} {index : Nat} (hts : ∀ w ∈ vTB, w.before args s = true) (hl : Cond.methodLink own index xy_Re_end ∈ vTB) (hR : xrm_Re_end.frames + 1 ≤ R.frames ∧ 8 + (2 + 11) + xrm_Re_end.locals ≤ R.locals) : CallW R s args own R_Re index xy_Re_end xb_Re_end 2 (some .int) (Cond.code xy_Re_end xb_Re_end 2 (some .int) :: vTB) xrm_Re_end 0 0 0 := cwV 0 hts (fw_gV vTB_good xK_Re_end hl xI_Re_end xS_Re_end N_Re) rfl rfl rfl (by decide +kernel) hR
theorem xd_Re_end_0 : decode xb_Re_end 0 = .ok (.aload_n 0, 1) := by decide +kernel
theorem xd_Re_end_1 : decode xb_Re_end 1 = .ok (.getfield 56, 3) := by decide +kernel
theorem xd_Re_end_4 : decode xb_Re_end 4 = .ok (.istore_n 1, 1) := by decide +kernel
theorem xd_Re_end_5 : decode xb_Re_end 5 = .ok (.aload_n 0, 1) := by decide +kernel
theorem xd_Re_end_6 : decode xb_Re_end 6 = .ok (.getfield 56, 3) := by decide +kernel
theorem xd_Re_end_9 : decode xb_Re_end 9 = .ok (.iconst 1, 1) := by decide +kernel
theorem xd_Re_end_10 : decode xb_Re_end 10 = .ok (.if_icmp .le 10, 3) := by decide +kernel
theorem xd_Re_end_13 : decode xb_Re_end 13 = .ok (.aload_n 0, 1) := by decide +kernel
theorem xd_Re_end_14 : decode xb_Re_end 14 = .ok (.invokevirtual 75, 3) := by decide +kernel
theorem xd_Re_end_17 : decode xb_Re_end 17 = .ok (.goto 7, 3) := by decide +kernel
theorem xd_Re_end_20 : decode xb_Re_end 20 = .ok (.aload_n 0, 1) := by decide +kernel
theorem xd_Re_end_21 : decode xb_Re_end 21 = .ok (.invokevirtual 78, 3) := by decide +kernel
theorem xd_Re_end_24 : decode xb_Re_end 24 = .ok (.iload_n 1, 1) := by decide +kernel
theorem xd_Re_end_25 : decode xb_Re_end 25 = .ok (.ireturn, 1) := by decide +kernel
abbrev xb_FR_close : ByteArray := prog_1_method_11_code
def xy_FR_close : MethodName := ⟨R_FR, "close", "(I)I"⟩
abbrev xrm_FR_close : Room := { frames := 5, cells := 0, slots := 0, locals := 113 }
theorem xK_FR_close : Cond.code xy_FR_close xb_FR_close 2 (some .int) ∈ vTB := vTB_in 465 (by decide +kernel) rfl
theorem xI_FR_close : Cond.instanceMethod xy_FR_close ∈ vTB := vTB_in 463 (by decide +kernel) rfl
theorem xS_FR_close : Cond.selects R_FR xy_FR_close xy_FR_close ∈ vTB := vTB_in 464 (by decide +kernel) rfl
theorem xw_FR_close {R : Room} {s : State} {args : Array Value} {own : String} {index : Nat} (hts : ∀ w ∈ vTB, w.before args s = true) (hl : Cond.methodLink own index xy_FR_close ∈ vTB) (hR : xrm_FR_close.frames + 1 ≤ R.frames ∧ 8 + (2 + 11) + xrm_FR_close.locals ≤ R.locals) : CallW R s args own R_FR index xy_FR_close xb_FR_close 2 (some .int) (Cond.code xy_FR_close xb_FR_close 2 (some .int) :: vTB) xrm_FR_close 0 0 1 := cwV 1 hts (fw_gV vTB_good xK_FR_close hl xI_FR_close xS_FR_close N_FR) rfl rfl rfl (by decide +kernel) hR
theorem xd_FR_close_0 : decode xb_FR_close 0 = .ok (.iload_n 1, 1) := by decide +kernel
theorem xd_FR_close_1 : decode xb_FR_close 1 = .ok (.invokestatic 64, 3) := by decide +kernel
theorem xd_FR_close_4 : decode xb_FR_close 4 = .ok (.ifCond .eq 15, 3) := by decide +kernel
theorem xd_FR_close_7 : decode xb_FR_close 7 = .ok (.aload_n 0, 1) := by decide +kernel
theorem xd_FR_close_8 : decode xb_FR_close 8 = .ok (.getfield 32, 3) := by decide +kernel
theorem xd_FR_close_11 : decode xb_FR_close 11 = .ok (.iload_n 1, 1) := by decide +kernel
theorem xd_FR_close_12 : decode xb_FR_close 12 = .ok (.aaload, 1) := by decide +kernel
theorem xd_FR_close_13 : decode xb_FR_close 13 = .ok (.invokevirtual 123, 3) := by decide +kernel
theorem xd_FR_close_16 : decode xb_FR_close 16 = .ok (.goto 4, 3) := by decide +kernel
theorem xd_FR_close_19 : decode xb_FR_close 19 = .ok (.iconst (-1), 1) := by decide +kernel
theorem xd_FR_close_20 : decode xb_FR_close 20 = .ok (.ireturn, 1) := by decide +kernel
abbrev xb_Wi_has : ByteArray := prog_9_method_2_code
def xy_Wi_has : MethodName := ⟨R_Wi, "has", "(I)Z"⟩
abbrev xrm_Wi_has : Room := { frames := 1, cells := 0, slots := 0, locals := 22 }
theorem xK_Wi_has : Cond.code xy_Wi_has xb_Wi_has 2 (some .boolean) ∈ vTB := vTB_in 485 (by decide +kernel) rfl
theorem xI_Wi_has : Cond.instanceMethod xy_Wi_has ∈ vTB := vTB_in 483 (by decide +kernel) rfl
theorem xS_Wi_has : Cond.selects R_Wi xy_Wi_has xy_Wi_has ∈ vTB := vTB_in 484 (by decide +kernel) rfl
theorem xw_Wi_has {R : Room} {s : State} {args : Array Value} {own : String} {index : Nat} (hts : ∀ w ∈ vTB, w.before args s = true) (hl : Cond.methodLink own index xy_Wi_has ∈ vTB) (hR : xrm_Wi_has.frames + 1 ≤ R.frames ∧ 8 + (2 + 11) + xrm_Wi_has.locals ≤ R.locals) : CallW R s args own R_Wi index xy_Wi_has xb_Wi_has 2 (some .boolean) (Cond.code xy_Wi_has xb_Wi_has 2 (some .boolean) :: vTB) xrm_Wi_has 0 0 1 := cwV 1 hts (fw_gV vTB_good xK_Wi_has hl xI_Wi_has xS_Wi_has N_Wi) rfl rfl rfl (by decide +kernel) hR
theorem xd_Wi_has_0 : decode xb_Wi_has 0 = .ok (.iload_n 1, 1) := by decide +kernel
theorem xd_Wi_has_1 : decode xb_Wi_has 1 = .ok (.iconst 0, 1) := by decide +kernel
theorem xd_Wi_has_2 : decode xb_Wi_has 2 = .ok (.aload_n 0, 1) := by decide +kernel
theorem xd_Wi_has_3 : decode xb_Wi_has 3 = .ok (.getfield 20, 3) := by decide +kernel
theorem xd_Wi_has_6 : decode xb_Wi_has 6 = .ok (.iconst 1, 1) := by decide +kernel
theorem xd_Wi_has_7 : decode xb_Wi_has 7 = .ok (.isub, 1) := by decide +kernel
theorem xd_Wi_has_8 : decode xb_Wi_has 8 = .ok (.invokestatic 24, 3) := by decide +kernel
theorem xd_Wi_has_11 : decode xb_Wi_has 11 = .ok (.ireturn, 1) := by decide +kernel
abbrev xb_Wi_take : ByteArray := prog_9_method_5_code
def xy_Wi_take : MethodName := ⟨R_Wi, "take", "(I)LFieldRelay$Frame;"⟩
abbrev xrm_Wi_take : Room := { frames := 0, cells := 0, slots := 0, locals := 0 }
theorem xK_Wi_take : Cond.code xy_Wi_take xb_Wi_take 4 (some (.object R_Fm)) ∈ vTB := vTB_in 490 (by decide +kernel) rfl
theorem xI_Wi_take : Cond.instanceMethod xy_Wi_take ∈ vTB := vTB_in 488 (by decide +kernel) rfl
theorem xS_Wi_take : Cond.selects R_Wi xy_Wi_take xy_Wi_take ∈ vTB := vTB_in 489 (by decide +kernel) rfl
theorem xw_Wi_take {R : Room} {s : State} {args : Array Value} {own : String} {index : Nat} (hts : ∀ w ∈ vTB, w.before args s = true) (hl : Cond.methodLink own index xy_Wi_take ∈ vTB) (hR : xrm_Wi_take.frames + 1 ≤ R.frames ∧ 8 + (4 + 11) + xrm_Wi_take.locals ≤ R.locals) : CallW R s args own R_Wi index xy_Wi_take xb_Wi_take 4 (some (.object R_Fm)) (Cond.code xy_Wi_take xb_Wi_take 4 (some (.object R_Fm)) :: vTB) xrm_Wi_take 0 0 1 := cwV 1 hts (fw_gV vTB_good xK_Wi_take hl xI_Wi_take xS_Wi_take N_Wi) rfl rfl rfl (by decide +kernel) hR
theorem xd_Wi_take_0 : decode xb_Wi_take 0 = .ok (.aload_n 0, 1) := by decide +kernel
theorem xd_Wi_take_1 : decode xb_Wi_take 1 = .ok (.getfield 11, 3) := by decide +kernel
theorem xd_Wi_take_4 : decode xb_Wi_take 4 = .ok (.iload_n 1, 1) := by decide +kernel
theorem xd_Wi_take_5 : decode xb_Wi_take 5 = .ok (.aaload, 1) := by decide +kernel
theorem xd_Wi_take_6 : decode xb_Wi_take 6 = .ok (.astore_n 2, 1) := by decide +kernel
theorem xd_Wi_take_7 : decode xb_Wi_take 7 = .ok (.iload_n 1, 1) := by decide +kernel
theorem xd_Wi_take_8 : decode xb_Wi_take 8 = .ok (.istore_n 3, 1) := by decide +kernel
theorem xd_Wi_take_9 : decode xb_Wi_take 9 = .ok (.iload_n 3, 1) := by decide +kernel
theorem xd_Wi_take_10 : decode xb_Wi_take 10 = .ok (.bipush 16, 2) := by decide +kernel
theorem xd_Wi_take_12 : decode xb_Wi_take 12 = .ok (.if_icmp .ge 23, 3) := by decide +kernel
theorem xd_Wi_take_15 : decode xb_Wi_take 15 = .ok (.aload_n 0, 1) := by decide +kernel
theorem xd_Wi_take_16 : decode xb_Wi_take 16 = .ok (.getfield 11, 3) := by decide +kernel
theorem xd_Wi_take_19 : decode xb_Wi_take 19 = .ok (.iload_n 3, 1) := by decide +kernel
theorem xd_Wi_take_20 : decode xb_Wi_take 20 = .ok (.aload_n 0, 1) := by decide +kernel
theorem xd_Wi_take_21 : decode xb_Wi_take 21 = .ok (.getfield 11, 3) := by decide +kernel
theorem xd_Wi_take_24 : decode xb_Wi_take 24 = .ok (.iload_n 3, 1) := by decide +kernel
theorem xd_Wi_take_25 : decode xb_Wi_take 25 = .ok (.iconst 1, 1) := by decide +kernel
theorem xd_Wi_take_26 : decode xb_Wi_take 26 = .ok (.iadd, 1) := by decide +kernel
theorem xd_Wi_take_27 : decode xb_Wi_take 27 = .ok (.aaload, 1) := by decide +kernel
theorem xd_Wi_take_28 : decode xb_Wi_take 28 = .ok (.aastore, 1) := by decide +kernel
theorem xd_Wi_take_29 : decode xb_Wi_take 29 = .ok (.iinc 3 1, 3) := by decide +kernel
theorem xd_Wi_take_32 : decode xb_Wi_take 32 = .ok (.goto (-23), 3) := by decide +kernel
theorem xd_Wi_take_35 : decode xb_Wi_take 35 = .ok (.aload_n 0, 1) := by decide +kernel
theorem xd_Wi_take_36 : decode xb_Wi_take 36 = .ok (.getfield 11, 3) := by decide +kernel
theorem xd_Wi_take_39 : decode xb_Wi_take 39 = .ok (.bipush 16, 2) := by decide +kernel
theorem xd_Wi_take_41 : decode xb_Wi_take 41 = .ok (.aload_n 2, 1) := by decide +kernel
theorem xd_Wi_take_42 : decode xb_Wi_take 42 = .ok (.aastore, 1) := by decide +kernel
theorem xd_Wi_take_43 : decode xb_Wi_take 43 = .ok (.aload_n 0, 1) := by decide +kernel
theorem xd_Wi_take_44 : decode xb_Wi_take 44 = .ok (.dup, 1) := by decide +kernel
theorem xd_Wi_take_45 : decode xb_Wi_take 45 = .ok (.getfield 20, 3) := by decide +kernel
theorem xd_Wi_take_48 : decode xb_Wi_take 48 = .ok (.iconst 1, 1) := by decide +kernel
theorem xd_Wi_take_49 : decode xb_Wi_take 49 = .ok (.isub, 1) := by decide +kernel
theorem xd_Wi_take_50 : decode xb_Wi_take 50 = .ok (.putfield 20, 3) := by decide +kernel
theorem xd_Wi_take_53 : decode xb_Wi_take 53 = .ok (.aload_n 2, 1) := by decide +kernel
theorem xd_Wi_take_54 : decode xb_Wi_take 54 = .ok (.areturn, 1) := by decide +kernel
abbrev xb_Re_deviceFound : ByteArray := prog_8_method_9_code
def xy_Re_deviceFound : MethodName := ⟨R_Re, "deviceFound", "(LFieldRelay$Frame;)V"⟩
abbrev xrm_Re_deviceFound : Room := { frames := 5, cells := 0, slots := 0, locals := 114 }
theorem xK_Re_deviceFound : Cond.code xy_Re_deviceFound xb_Re_deviceFound 2 none ∈ vTB := vTB_in 498 (by decide +kernel) rfl
theorem xI_Re_deviceFound : Cond.instanceMethod xy_Re_deviceFound ∈ vTB := vTB_in 497 (by decide +kernel) rfl
theorem xS_Re_deviceFound : Cond.selects R_Re xy_Re_deviceFound xy_Re_deviceFound ∈ vTB := vTB_sel (q := (xy_Re_deviceFound, 20)) 7 (by decide +kernel)
theorem xw_Re_deviceFound {R : Room} {s : State} {args : Array Value} {own : String} {index : Nat} (hts : ∀ w ∈ vTB, w.before args s = true) (hl : Cond.methodLink own index xy_Re_deviceFound ∈ vTB) (hR : xrm_Re_deviceFound.frames + 1 ≤ R.frames ∧ 8 + (2 + 11) + xrm_Re_deviceFound.locals ≤ R.locals) : CallW R s args own R_Re index xy_Re_deviceFound xb_Re_deviceFound 2 none (Cond.code xy_Re_deviceFound xb_Re_deviceFound 2 none :: vTB) xrm_Re_deviceFound 0 0 1 := cwV 1 hts (fw_gV vTB_good xK_Re_deviceFound hl xI_Re_deviceFound xS_Re_deviceFound N_Re) rfl rfl rfl (by decide +kernel) hR
theorem xd_Re_deviceFound_0 : decode xb_Re_deviceFound 0 = .ok (.aload_n 0, 1) := by decide +kernel
theorem xd_Re_deviceFound_1 : decode xb_Re_deviceFound 1 = .ok (.getfield 56, 3) := by decide +kernel
theorem xd_Re_deviceFound_4 : decode xb_Re_deviceFound 4 = .ok (.iconst 1, 1) := by decide +kernel
theorem xd_Re_deviceFound_5 : decode xb_Re_deviceFound 5 = .ok (.if_icmp .ne 33, 3) := by decide +kernel
theorem xd_Re_deviceFound_8 : decode xb_Re_deviceFound 8 = .ok (.aload_n 1, 1) := by decide +kernel
theorem xd_Re_deviceFound_9 : decode xb_Re_deviceFound 9 = .ok (.getfield 130, 3) := by decide +kernel
theorem xd_Re_deviceFound_12 : decode xb_Re_deviceFound 12 = .ok (.iconst 0, 1) := by decide +kernel
theorem xd_Re_deviceFound_13 : decode xb_Re_deviceFound 13 = .ok (.iaload, 1) := by decide +kernel
theorem xd_Re_deviceFound_14 : decode xb_Re_deviceFound 14 = .ok (.aload_n 0, 1) := by decide +kernel
theorem xd_Re_deviceFound_15 : decode xb_Re_deviceFound 15 = .ok (.getfield 133, 3) := by decide +kernel
theorem xd_Re_deviceFound_18 : decode xb_Re_deviceFound 18 = .ok (.if_icmp .ne 20, 3) := by decide +kernel
theorem xd_Re_deviceFound_21 : decode xb_Re_deviceFound 21 = .ok (.aload_n 0, 1) := by decide +kernel
theorem xd_Re_deviceFound_22 : decode xb_Re_deviceFound 22 = .ok (.aload_n 1, 1) := by decide +kernel
theorem xd_Re_deviceFound_23 : decode xb_Re_deviceFound 23 = .ok (.getfield 91, 3) := by decide +kernel
theorem xd_Re_deviceFound_26 : decode xb_Re_deviceFound 26 = .ok (.putfield 31, 3) := by decide +kernel
theorem xd_Re_deviceFound_29 : decode xb_Re_deviceFound 29 = .ok (.aload_n 0, 1) := by decide +kernel
theorem xd_Re_deviceFound_30 : decode xb_Re_deviceFound 30 = .ok (.iconst 2, 1) := by decide +kernel
theorem xd_Re_deviceFound_31 : decode xb_Re_deviceFound 31 = .ok (.invokevirtual 68, 3) := by decide +kernel
theorem xd_Re_deviceFound_34 : decode xb_Re_deviceFound 34 = .ok (.aload_n 0, 1) := by decide +kernel
theorem xd_Re_deviceFound_35 : decode xb_Re_deviceFound 35 = .ok (.invokevirtual 72, 3) := by decide +kernel
theorem xd_Re_deviceFound_38 : decode xb_Re_deviceFound 38 = .ok (.return_, 1) := by decide +kernel
abbrev xb_KT_needsParameter : ByteArray := prog_7_method_5_code
def xy_KT_needsParameter : MethodName := ⟨R_KT, "needsParameter", "(I)Z"⟩
abbrev xrm_KT_needsParameter : Room := { frames := 0, cells := 0, slots := 0, locals := 0 }
theorem xK_KT_needsParameter : Cond.code xy_KT_needsParameter xb_KT_needsParameter 2 (some .boolean) ∈ vTB := vTB_in 510 (by decide +kernel) rfl
theorem xI_KT_needsParameter : Cond.instanceMethod xy_KT_needsParameter ∈ vTB := vTB_in 508 (by decide +kernel) rfl
theorem xS_KT_needsParameter : Cond.selects R_KT xy_KT_needsParameter xy_KT_needsParameter ∈ vTB := vTB_in 509 (by decide +kernel) rfl
theorem xw_KT_needsParameter {R : Room} {s : State} {args : Array Value} {own : String} {index : Nat} (hts : ∀ w ∈ vTB, w.before args s = true) (hl : Cond.methodLink own index xy_KT_needsParameter ∈ vTB) (hR : xrm_KT_needsParameter.frames + 1 ≤ R.frames ∧ 8 + (2 + 11) + xrm_KT_needsParameter.locals ≤ R.locals) : CallW R s args own R_KT index xy_KT_needsParameter xb_KT_needsParameter 2 (some .boolean) (Cond.code xy_KT_needsParameter xb_KT_needsParameter 2 (some .boolean) :: vTB) xrm_KT_needsParameter 0 0 1 := cwV 1 hts (fw_gV vTB_good xK_KT_needsParameter hl xI_KT_needsParameter xS_KT_needsParameter N_KT) rfl rfl rfl (by decide +kernel) hR
theorem xd_KT_needsParameter_0 : decode xb_KT_needsParameter 0 = .ok (.iload_n 1, 1) := by decide +kernel
theorem xd_KT_needsParameter_1 : decode xb_KT_needsParameter 1 = .ok (.ifCond .lt 22, 3) := by decide +kernel
theorem xd_KT_needsParameter_4 : decode xb_KT_needsParameter 4 = .ok (.iload_n 1, 1) := by decide +kernel
theorem xd_KT_needsParameter_5 : decode xb_KT_needsParameter 5 = .ok (.bipush 8, 2) := by decide +kernel
theorem xd_KT_needsParameter_7 : decode xb_KT_needsParameter 7 = .ok (.if_icmp .ge 16, 3) := by decide +kernel
theorem xd_KT_needsParameter_10 : decode xb_KT_needsParameter 10 = .ok (.aload_n 0, 1) := by decide +kernel
theorem xd_KT_needsParameter_11 : decode xb_KT_needsParameter 11 = .ok (.getfield 18, 3) := by decide +kernel
theorem xd_KT_needsParameter_14 : decode xb_KT_needsParameter 14 = .ok (.iload_n 1, 1) := by decide +kernel
theorem xd_KT_needsParameter_15 : decode xb_KT_needsParameter 15 = .ok (.baload, 1) := by decide +kernel
theorem xd_KT_needsParameter_16 : decode xb_KT_needsParameter 16 = .ok (.ifCond .eq 7, 3) := by decide +kernel
theorem xd_KT_needsParameter_19 : decode xb_KT_needsParameter 19 = .ok (.iconst 1, 1) := by decide +kernel
theorem xd_KT_needsParameter_20 : decode xb_KT_needsParameter 20 = .ok (.goto 4, 3) := by decide +kernel
theorem xd_KT_needsParameter_23 : decode xb_KT_needsParameter 23 = .ok (.iconst 0, 1) := by decide +kernel
theorem xd_KT_needsParameter_24 : decode xb_KT_needsParameter 24 = .ok (.ireturn, 1) := by decide +kernel
abbrev xb_FR_hasSlot : ByteArray := prog_1_method_32_code
def xy_FR_hasSlot : MethodName := ⟨R_FR, "hasSlot", "(II)Z"⟩
abbrev xrm_FR_hasSlot : Room := { frames := 0, cells := 0, slots := 0, locals := 0 }
theorem xK_FR_hasSlot : Cond.code xy_FR_hasSlot xb_FR_hasSlot 2 (some .boolean) ∈ vTB := vTB_in 513 (by decide +kernel) rfl
theorem xS_FR_hasSlot : Cond.static xy_FR_hasSlot ∈ vTB := vTB_in 512 (by decide +kernel) rfl
theorem xw_FR_hasSlot {R : Room} {s : State} {args : Array Value} {own : String} {index : Nat} (hts : ∀ w ∈ vTB, w.before args s = true) (hl : Cond.methodLink own index xy_FR_hasSlot ∈ vTB) (hR : xrm_FR_hasSlot.frames + 1 ≤ R.frames ∧ 8 + (2 + 11) + xrm_FR_hasSlot.locals ≤ R.locals) : CallB R s args own index xy_FR_hasSlot xb_FR_hasSlot 2 (some .boolean) (Cond.code xy_FR_hasSlot xb_FR_hasSlot 2 (some .boolean) :: vTB) xrm_FR_hasSlot 0 0 2 ∧ (Cond.static xy_FR_hasSlot).before args s = true := va_cwS 2 hts (fw_gS2 vTB_good xK_FR_hasSlot hl xS_FR_hasSlot N_FR) rfl rfl rfl (by decide +kernel) hR
theorem xwn_FR_hasSlot {R : Room} {s : State} {args : Array Value} {own host : String} {index : Nat} (hts : ∀ w ∈ vTB, w.before args s = true) (hl : va_Nw (.methodLinkNest own index xy_FR_hasSlot host) s) (hR : xrm_FR_hasSlot.frames + 1 ≤ R.frames ∧ 8 + (2 + 11) + xrm_FR_hasSlot.locals ≤ R.locals) : va_CN R s args own index xy_FR_hasSlot host xb_FR_hasSlot 2 (some .boolean) (Cond.code xy_FR_hasSlot xb_FR_hasSlot 2 (some .boolean) :: vTB) xrm_FR_hasSlot 0 0 2 ∧ (Cond.static xy_FR_hasSlot).before args s = true ∧ True := ⟨va_cnB 2 hts (fw_gI vTB_good xK_FR_hasSlot) rfl rfl rfl hl (hts _ N_FR) (by decide +kernel) hR, hts _ xS_FR_hasSlot, trivial⟩
theorem xd_FR_hasSlot_0 : decode xb_FR_hasSlot 0 = .ok (.iload_n 0, 1) := by decide +kernel
theorem xd_FR_hasSlot_1 : decode xb_FR_hasSlot 1 = .ok (.iload_n 1, 1) := by decide +kernel
theorem xd_FR_hasSlot_2 : decode xb_FR_hasSlot 2 = .ok (.ishr, 1) := by decide +kernel
theorem xd_FR_hasSlot_3 : decode xb_FR_hasSlot 3 = .ok (.iconst 1, 1) := by decide +kernel
theorem xd_FR_hasSlot_4 : decode xb_FR_hasSlot 4 = .ok (.iand, 1) := by decide +kernel
theorem xd_FR_hasSlot_5 : decode xb_FR_hasSlot 5 = .ok (.ifCond .eq 7, 3) := by decide +kernel
theorem xd_FR_hasSlot_8 : decode xb_FR_hasSlot 8 = .ok (.iconst 1, 1) := by decide +kernel
theorem xd_FR_hasSlot_9 : decode xb_FR_hasSlot 9 = .ok (.goto 4, 3) := by decide +kernel
theorem xd_FR_hasSlot_12 : decode xb_FR_hasSlot 12 = .ok (.iconst 0, 1) := by decide +kernel
theorem xd_FR_hasSlot_13 : decode xb_FR_hasSlot 13 = .ok (.ireturn, 1) := by decide +kernel
abbrev xb_Re_goOnWriting : ByteArray := prog_8_method_17_code
def xy_Re_goOnWriting : MethodName := ⟨R_Re, "goOnWriting", "(I)V"⟩
abbrev xrm_Re_goOnWriting : Room := { frames := 1, cells := 0, slots := 0, locals := 21 }
theorem xK_Re_goOnWriting : Cond.code xy_Re_goOnWriting xb_Re_goOnWriting 3 none ∈ vTB := vTB_in 506 (by decide +kernel) rfl
theorem xI_Re_goOnWriting : Cond.instanceMethod xy_Re_goOnWriting ∈ vTB := vTB_in 505 (by decide +kernel) rfl
theorem xS_Re_goOnWriting : Cond.selects R_Re xy_Re_goOnWriting xy_Re_goOnWriting ∈ vTB := vTB_sel (q := (xy_Re_goOnWriting, 20)) 9 (by decide +kernel)
theorem xw_Re_goOnWriting {R : Room} {s : State} {args : Array Value} {own : String} {index : Nat} (hts : ∀ w ∈ vTB, w.before args s = true) (hl : Cond.methodLink own index xy_Re_goOnWriting ∈ vTB) (hR : xrm_Re_goOnWriting.frames + 1 ≤ R.frames ∧ 8 + (3 + 11) + xrm_Re_goOnWriting.locals ≤ R.locals) : CallW R s args own R_Re index xy_Re_goOnWriting xb_Re_goOnWriting 3 none (Cond.code xy_Re_goOnWriting xb_Re_goOnWriting 3 none :: vTB) xrm_Re_goOnWriting 0 0 1 := cwV 1 hts (fw_gV vTB_good xK_Re_goOnWriting hl xI_Re_goOnWriting xS_Re_goOnWriting N_Re) rfl rfl rfl (by decide +kernel) hR
theorem xd_Re_goOnWriting_0 : decode xb_Re_goOnWriting 0 = .ok (.iload_n 1, 1) := by decide +kernel
theorem xd_Re_goOnWriting_1 : decode xb_Re_goOnWriting 1 = .ok (.istore_n 2, 1) := by decide +kernel
theorem xd_Re_goOnWriting_2 : decode xb_Re_goOnWriting 2 = .ok (.iload_n 2, 1) := by decide +kernel
theorem xd_Re_goOnWriting_3 : decode xb_Re_goOnWriting 3 = .ok (.iconst 3, 1) := by decide +kernel
theorem xd_Re_goOnWriting_4 : decode xb_Re_goOnWriting 4 = .ok (.if_icmp .ge 47, 3) := by decide +kernel
theorem xd_Re_goOnWriting_7 : decode xb_Re_goOnWriting 7 = .ok (.aload_n 0, 1) := by decide +kernel
theorem xd_Re_goOnWriting_8 : decode xb_Re_goOnWriting 8 = .ok (.getfield 38, 3) := by decide +kernel
theorem xd_Re_goOnWriting_11 : decode xb_Re_goOnWriting 11 = .ok (.aload_n 0, 1) := by decide +kernel
theorem xd_Re_goOnWriting_12 : decode xb_Re_goOnWriting 12 = .ok (.getfield 18, 3) := by decide +kernel
theorem xd_Re_goOnWriting_15 : decode xb_Re_goOnWriting 15 = .ok (.iload_n 2, 1) := by decide +kernel
theorem xd_Re_goOnWriting_16 : decode xb_Re_goOnWriting 16 = .ok (.iaload, 1) := by decide +kernel
theorem xd_Re_goOnWriting_17 : decode xb_Re_goOnWriting 17 = .ok (.invokevirtual 174, 3) := by decide +kernel
theorem xd_Re_goOnWriting_20 : decode xb_Re_goOnWriting 20 = .ok (.ifCond .eq 25, 3) := by decide +kernel
theorem xd_Re_goOnWriting_23 : decode xb_Re_goOnWriting 23 = .ok (.aload_n 0, 1) := by decide +kernel
theorem xd_Re_goOnWriting_24 : decode xb_Re_goOnWriting 24 = .ok (.getfield 62, 3) := by decide +kernel
theorem xd_Re_goOnWriting_27 : decode xb_Re_goOnWriting 27 = .ok (.iload_n 2, 1) := by decide +kernel
theorem xd_Re_goOnWriting_28 : decode xb_Re_goOnWriting 28 = .ok (.invokestatic 179, 3) := by decide +kernel
theorem xd_Re_goOnWriting_31 : decode xb_Re_goOnWriting 31 = .ok (.ifCond .ne 14, 3) := by decide +kernel
theorem xd_Re_goOnWriting_34 : decode xb_Re_goOnWriting 34 = .ok (.aload_n 0, 1) := by decide +kernel
theorem xd_Re_goOnWriting_35 : decode xb_Re_goOnWriting 35 = .ok (.iload_n 2, 1) := by decide +kernel
theorem xd_Re_goOnWriting_36 : decode xb_Re_goOnWriting 36 = .ok (.putfield 139, 3) := by decide +kernel
theorem xd_Re_goOnWriting_39 : decode xb_Re_goOnWriting 39 = .ok (.aload_n 0, 1) := by decide +kernel
theorem xd_Re_goOnWriting_40 : decode xb_Re_goOnWriting 40 = .ok (.iconst 3, 1) := by decide +kernel
theorem xd_Re_goOnWriting_41 : decode xb_Re_goOnWriting 41 = .ok (.invokevirtual 68, 3) := by decide +kernel
theorem xd_Re_goOnWriting_44 : decode xb_Re_goOnWriting 44 = .ok (.return_, 1) := by decide +kernel
theorem xd_Re_goOnWriting_45 : decode xb_Re_goOnWriting 45 = .ok (.iinc 2 1, 3) := by decide +kernel
theorem xd_Re_goOnWriting_48 : decode xb_Re_goOnWriting 48 = .ok (.goto (-46), 3) := by decide +kernel
theorem xd_Re_goOnWriting_51 : decode xb_Re_goOnWriting 51 = .ok (.aload_n 0, 1) := by decide +kernel
theorem xd_Re_goOnWriting_52 : decode xb_Re_goOnWriting 52 = .ok (.iconst 4, 1) := by decide +kernel
theorem xd_Re_goOnWriting_53 : decode xb_Re_goOnWriting 53 = .ok (.invokevirtual 68, 3) := by decide +kernel
theorem xd_Re_goOnWriting_56 : decode xb_Re_goOnWriting 56 = .ok (.return_, 1) := by decide +kernel
abbrev xb_Re_accepted : ByteArray := prog_8_method_10_code
def xy_Re_accepted : MethodName := ⟨R_Re, "accepted", "(I)V"⟩
abbrev xrm_Re_accepted : Room := { frames := 5, cells := 0, slots := 0, locals := 114 }
theorem xK_Re_accepted : Cond.code xy_Re_accepted xb_Re_accepted 2 none ∈ vTB := vTB_in 502 (by decide +kernel) rfl
theorem xI_Re_accepted : Cond.instanceMethod xy_Re_accepted ∈ vTB := vTB_in 501 (by decide +kernel) rfl
theorem xS_Re_accepted : Cond.selects R_Re xy_Re_accepted xy_Re_accepted ∈ vTB := vTB_sel (q := (xy_Re_accepted, 20)) 8 (by decide +kernel)
theorem xw_Re_accepted {R : Room} {s : State} {args : Array Value} {own : String} {index : Nat} (hts : ∀ w ∈ vTB, w.before args s = true) (hl : Cond.methodLink own index xy_Re_accepted ∈ vTB) (hR : xrm_Re_accepted.frames + 1 ≤ R.frames ∧ 8 + (2 + 11) + xrm_Re_accepted.locals ≤ R.locals) : CallW R s args own R_Re index xy_Re_accepted xb_Re_accepted 2 none (Cond.code xy_Re_accepted xb_Re_accepted 2 none :: vTB) xrm_Re_accepted 0 0 1 := cwV 1 hts (fw_gV vTB_good xK_Re_accepted hl xI_Re_accepted xS_Re_accepted N_Re) rfl rfl rfl (by decide +kernel) hR
theorem xd_Re_accepted_0 : decode xb_Re_accepted 0 = .ok (.aload_n 0, 1) := by decide +kernel
theorem xd_Re_accepted_1 : decode xb_Re_accepted 1 = .ok (.getfield 56, 3) := by decide +kernel
theorem xd_Re_accepted_4 : decode xb_Re_accepted 4 = .ok (.iconst 2, 1) := by decide +kernel
theorem xd_Re_accepted_5 : decode xb_Re_accepted 5 = .ok (.if_icmp .ne 17, 3) := by decide +kernel
theorem xd_Re_accepted_8 : decode xb_Re_accepted 8 = .ok (.aload_n 0, 1) := by decide +kernel
theorem xd_Re_accepted_9 : decode xb_Re_accepted 9 = .ok (.iload_n 1, 1) := by decide +kernel
theorem xd_Re_accepted_10 : decode xb_Re_accepted 10 = .ok (.putfield 62, 3) := by decide +kernel
theorem xd_Re_accepted_13 : decode xb_Re_accepted 13 = .ok (.aload_n 0, 1) := by decide +kernel
theorem xd_Re_accepted_14 : decode xb_Re_accepted 14 = .ok (.iconst 0, 1) := by decide +kernel
theorem xd_Re_accepted_15 : decode xb_Re_accepted 15 = .ok (.invokevirtual 136, 3) := by decide +kernel
theorem xd_Re_accepted_18 : decode xb_Re_accepted 18 = .ok (.aload_n 0, 1) := by decide +kernel
theorem xd_Re_accepted_19 : decode xb_Re_accepted 19 = .ok (.invokevirtual 72, 3) := by decide +kernel
theorem xd_Re_accepted_22 : decode xb_Re_accepted 22 = .ok (.return_, 1) := by decide +kernel
abbrev xb_Re_refused : ByteArray := prog_8_method_11_code
def xy_Re_refused : MethodName := ⟨R_Re, "refused", "()V"⟩
abbrev xrm_Re_refused : Room := { frames := 2, cells := 0, slots := 0, locals := 43 }
theorem xK_Re_refused : Cond.code xy_Re_refused xb_Re_refused 1 none ∈ vTB := vTB_in 517 (by decide +kernel) rfl
theorem xI_Re_refused : Cond.instanceMethod xy_Re_refused ∈ vTB := vTB_in 516 (by decide +kernel) rfl
theorem xS_Re_refused : Cond.selects R_Re xy_Re_refused xy_Re_refused ∈ vTB := vTB_sel (q := (xy_Re_refused, 20)) 10 (by decide +kernel)
theorem xw_Re_refused {R : Room} {s : State} {args : Array Value} {own : String} {index : Nat} (hts : ∀ w ∈ vTB, w.before args s = true) (hl : Cond.methodLink own index xy_Re_refused ∈ vTB) (hR : xrm_Re_refused.frames + 1 ≤ R.frames ∧ 8 + (1 + 11) + xrm_Re_refused.locals ≤ R.locals) : CallW R s args own R_Re index xy_Re_refused xb_Re_refused 1 none (Cond.code xy_Re_refused xb_Re_refused 1 none :: vTB) xrm_Re_refused 0 0 0 := cwV 0 hts (fw_gV vTB_good xK_Re_refused hl xI_Re_refused xS_Re_refused N_Re) rfl rfl rfl (by decide +kernel) hR
theorem xd_Re_refused_0 : decode xb_Re_refused 0 = .ok (.aload_n 0, 1) := by decide +kernel
theorem xd_Re_refused_1 : decode xb_Re_refused 1 = .ok (.getfield 56, 3) := by decide +kernel
theorem xd_Re_refused_4 : decode xb_Re_refused 4 = .ok (.iconst 2, 1) := by decide +kernel
theorem xd_Re_refused_5 : decode xb_Re_refused 5 = .ok (.if_icmp .ne 7, 3) := by decide +kernel
theorem xd_Re_refused_8 : decode xb_Re_refused 8 = .ok (.aload_n 0, 1) := by decide +kernel
theorem xd_Re_refused_9 : decode xb_Re_refused 9 = .ok (.invokevirtual 78, 3) := by decide +kernel
theorem xd_Re_refused_12 : decode xb_Re_refused 12 = .ok (.return_, 1) := by decide +kernel
abbrev xb_Re_written : ByteArray := prog_8_method_12_code
def xy_Re_written : MethodName := ⟨R_Re, "written", "(I)V"⟩
abbrev xrm_Re_written : Room := { frames := 5, cells := 0, slots := 0, locals := 114 }
theorem xK_Re_written : Cond.code xy_Re_written xb_Re_written 2 none ∈ vTB := vTB_in 521 (by decide +kernel) rfl
theorem xI_Re_written : Cond.instanceMethod xy_Re_written ∈ vTB := vTB_in 520 (by decide +kernel) rfl
theorem xS_Re_written : Cond.selects R_Re xy_Re_written xy_Re_written ∈ vTB := vTB_sel (q := (xy_Re_written, 20)) 11 (by decide +kernel)
theorem xw_Re_written {R : Room} {s : State} {args : Array Value} {own : String} {index : Nat} (hts : ∀ w ∈ vTB, w.before args s = true) (hl : Cond.methodLink own index xy_Re_written ∈ vTB) (hR : xrm_Re_written.frames + 1 ≤ R.frames ∧ 8 + (2 + 11) + xrm_Re_written.locals ≤ R.locals) : CallW R s args own R_Re index xy_Re_written xb_Re_written 2 none (Cond.code xy_Re_written xb_Re_written 2 none :: vTB) xrm_Re_written 0 0 1 := cwV 1 hts (fw_gV vTB_good xK_Re_written hl xI_Re_written xS_Re_written N_Re) rfl rfl rfl (by decide +kernel) hR
theorem xd_Re_written_0 : decode xb_Re_written 0 = .ok (.aload_n 0, 1) := by decide +kernel
theorem xd_Re_written_1 : decode xb_Re_written 1 = .ok (.getfield 56, 3) := by decide +kernel
theorem xd_Re_written_4 : decode xb_Re_written 4 = .ok (.iconst 3, 1) := by decide +kernel
theorem xd_Re_written_5 : decode xb_Re_written 5 = .ok (.if_icmp .ne 22, 3) := by decide +kernel
theorem xd_Re_written_8 : decode xb_Re_written 8 = .ok (.iload_n 1, 1) := by decide +kernel
theorem xd_Re_written_9 : decode xb_Re_written 9 = .ok (.aload_n 0, 1) := by decide +kernel
theorem xd_Re_written_10 : decode xb_Re_written 10 = .ok (.getfield 139, 3) := by decide +kernel
theorem xd_Re_written_13 : decode xb_Re_written 13 = .ok (.if_icmp .ne 14, 3) := by decide +kernel
theorem xd_Re_written_16 : decode xb_Re_written 16 = .ok (.aload_n 0, 1) := by decide +kernel
theorem xd_Re_written_17 : decode xb_Re_written 17 = .ok (.iload_n 1, 1) := by decide +kernel
theorem xd_Re_written_18 : decode xb_Re_written 18 = .ok (.iconst 1, 1) := by decide +kernel
theorem xd_Re_written_19 : decode xb_Re_written 19 = .ok (.iadd, 1) := by decide +kernel
theorem xd_Re_written_20 : decode xb_Re_written 20 = .ok (.invokevirtual 136, 3) := by decide +kernel
theorem xd_Re_written_23 : decode xb_Re_written 23 = .ok (.aload_n 0, 1) := by decide +kernel
theorem xd_Re_written_24 : decode xb_Re_written 24 = .ok (.invokevirtual 72, 3) := by decide +kernel
theorem xd_Re_written_27 : decode xb_Re_written 27 = .ok (.return_, 1) := by decide +kernel
abbrev xb_Re_ended : ByteArray := prog_8_method_13_code
def xy_Re_ended : MethodName := ⟨R_Re, "ended", "()V"⟩
abbrev xrm_Re_ended : Room := { frames := 1, cells := 0, slots := 0, locals := 21 }
theorem xK_Re_ended : Cond.code xy_Re_ended xb_Re_ended 1 none ∈ vTB := vTB_in 525 (by decide +kernel) rfl
theorem xI_Re_ended : Cond.instanceMethod xy_Re_ended ∈ vTB := vTB_in 524 (by decide +kernel) rfl
theorem xS_Re_ended : Cond.selects R_Re xy_Re_ended xy_Re_ended ∈ vTB := vTB_sel (q := (xy_Re_ended, 20)) 12 (by decide +kernel)
theorem xw_Re_ended {R : Room} {s : State} {args : Array Value} {own : String} {index : Nat} (hts : ∀ w ∈ vTB, w.before args s = true) (hl : Cond.methodLink own index xy_Re_ended ∈ vTB) (hR : xrm_Re_ended.frames + 1 ≤ R.frames ∧ 8 + (1 + 11) + xrm_Re_ended.locals ≤ R.locals) : CallW R s args own R_Re index xy_Re_ended xb_Re_ended 1 none (Cond.code xy_Re_ended xb_Re_ended 1 none :: vTB) xrm_Re_ended 0 0 0 := cwV 0 hts (fw_gV vTB_good xK_Re_ended hl xI_Re_ended xS_Re_ended N_Re) rfl rfl rfl (by decide +kernel) hR
theorem xd_Re_ended_0 : decode xb_Re_ended 0 = .ok (.aload_n 0, 1) := by decide +kernel
theorem xd_Re_ended_1 : decode xb_Re_ended 1 = .ok (.getfield 56, 3) := by decide +kernel
theorem xd_Re_ended_4 : decode xb_Re_ended 4 = .ok (.iconst 4, 1) := by decide +kernel
theorem xd_Re_ended_5 : decode xb_Re_ended 5 = .ok (.if_icmp .ne 8, 3) := by decide +kernel
theorem xd_Re_ended_8 : decode xb_Re_ended 8 = .ok (.aload_n 0, 1) := by decide +kernel
theorem xd_Re_ended_9 : decode xb_Re_ended 9 = .ok (.iconst 5, 1) := by decide +kernel
theorem xd_Re_ended_10 : decode xb_Re_ended 10 = .ok (.invokevirtual 68, 3) := by decide +kernel
theorem xd_Re_ended_13 : decode xb_Re_ended 13 = .ok (.return_, 1) := by decide +kernel
abbrev xb_Cy_restart : ByteArray := prog_4_method_2_code
def xy_Cy_restart : MethodName := ⟨R_Cy, "restart", "()V"⟩
abbrev xrm_Cy_restart : Room := { frames := 0, cells := 0, slots := 0, locals := 0 }
theorem xK_Cy_restart : Cond.code xy_Cy_restart xb_Cy_restart 1 none ∈ vTB := vTB_in 533 (by decide +kernel) rfl
theorem xI_Cy_restart : Cond.instanceMethod xy_Cy_restart ∈ vTB := vTB_in 531 (by decide +kernel) rfl
theorem xS_Cy_restart : Cond.selects R_Cy xy_Cy_restart xy_Cy_restart ∈ vTB := vTB_in 532 (by decide +kernel) rfl
theorem xw_Cy_restart {R : Room} {s : State} {args : Array Value} {own : String} {index : Nat} (hts : ∀ w ∈ vTB, w.before args s = true) (hl : Cond.methodLink own index xy_Cy_restart ∈ vTB) (hR : xrm_Cy_restart.frames + 1 ≤ R.frames ∧ 8 + (1 + 11) + xrm_Cy_restart.locals ≤ R.locals) : CallW R s args own R_Cy index xy_Cy_restart xb_Cy_restart 1 none (Cond.code xy_Cy_restart xb_Cy_restart 1 none :: vTB) xrm_Cy_restart 0 0 0 := cwV 0 hts (fw_gV vTB_good xK_Cy_restart hl xI_Cy_restart xS_Cy_restart N_Cy) rfl rfl rfl (by decide +kernel) hR
theorem xd_Cy_restart_0 : decode xb_Cy_restart 0 = .ok (.aload_n 0, 1) := by decide +kernel
theorem xd_Cy_restart_1 : decode xb_Cy_restart 1 = .ok (.iconst 0, 1) := by decide +kernel
theorem xd_Cy_restart_2 : decode xb_Cy_restart 2 = .ok (.putfield 15, 3) := by decide +kernel
theorem xd_Cy_restart_5 : decode xb_Cy_restart 5 = .ok (.aload_n 0, 1) := by decide +kernel
theorem xd_Cy_restart_6 : decode xb_Cy_restart 6 = .ok (.iconst (-1), 1) := by decide +kernel
theorem xd_Cy_restart_7 : decode xb_Cy_restart 7 = .ok (.putfield 11, 3) := by decide +kernel
theorem xd_Cy_restart_10 : decode xb_Cy_restart 10 = .ok (.return_, 1) := by decide +kernel
abbrev xb_Re_deviceReady : ByteArray := prog_8_method_14_code
def xy_Re_deviceReady : MethodName := ⟨R_Re, "deviceReady", "()V"⟩
abbrev xrm_Re_deviceReady : Room := { frames := 3, cells := 0, slots := 0, locals := 72 }
theorem xK_Re_deviceReady : Cond.code xy_Re_deviceReady xb_Re_deviceReady 1 none ∈ vTB := vTB_in 529 (by decide +kernel) rfl
theorem xI_Re_deviceReady : Cond.instanceMethod xy_Re_deviceReady ∈ vTB := vTB_in 528 (by decide +kernel) rfl
theorem xS_Re_deviceReady : Cond.selects R_Re xy_Re_deviceReady xy_Re_deviceReady ∈ vTB := vTB_sel (q := (xy_Re_deviceReady, 20)) 13 (by decide +kernel)
theorem xw_Re_deviceReady {R : Room} {s : State} {args : Array Value} {own : String} {index : Nat} (hts : ∀ w ∈ vTB, w.before args s = true) (hl : Cond.methodLink own index xy_Re_deviceReady ∈ vTB) (hR : xrm_Re_deviceReady.frames + 1 ≤ R.frames ∧ 8 + (1 + 11) + xrm_Re_deviceReady.locals ≤ R.locals) : CallW R s args own R_Re index xy_Re_deviceReady xb_Re_deviceReady 1 none (Cond.code xy_Re_deviceReady xb_Re_deviceReady 1 none :: vTB) xrm_Re_deviceReady 0 0 0 := cwV 0 hts (fw_gV vTB_good xK_Re_deviceReady hl xI_Re_deviceReady xS_Re_deviceReady N_Re) rfl rfl rfl (by decide +kernel) hR
theorem xd_Re_deviceReady_0 : decode xb_Re_deviceReady 0 = .ok (.aload_n 0, 1) := by decide +kernel
theorem xd_Re_deviceReady_1 : decode xb_Re_deviceReady 1 = .ok (.getfield 56, 3) := by decide +kernel
theorem xd_Re_deviceReady_4 : decode xb_Re_deviceReady 4 = .ok (.iconst 5, 1) := by decide +kernel
theorem xd_Re_deviceReady_5 : decode xb_Re_deviceReady 5 = .ok (.if_icmp .ne 38, 3) := by decide +kernel
theorem xd_Re_deviceReady_8 : decode xb_Re_deviceReady 8 = .ok (.aload_n 0, 1) := by decide +kernel
theorem xd_Re_deviceReady_9 : decode xb_Re_deviceReady 9 = .ok (.getfield 12, 3) := by decide +kernel
theorem xd_Re_deviceReady_12 : decode xb_Re_deviceReady 12 = .ok (.invokevirtual 142, 3) := by decide +kernel
theorem xd_Re_deviceReady_15 : decode xb_Re_deviceReady 15 = .ok (.aload_n 0, 1) := by decide +kernel
theorem xd_Re_deviceReady_16 : decode xb_Re_deviceReady 16 = .ok (.bipush 6, 2) := by decide +kernel
theorem xd_Re_deviceReady_18 : decode xb_Re_deviceReady 18 = .ok (.invokevirtual 68, 3) := by decide +kernel
theorem xd_Re_deviceReady_21 : decode xb_Re_deviceReady 21 = .ok (.aload_n 0, 1) := by decide +kernel
theorem xd_Re_deviceReady_22 : decode xb_Re_deviceReady 22 = .ok (.getfield 42, 3) := by decide +kernel
theorem xd_Re_deviceReady_25 : decode xb_Re_deviceReady 25 = .ok (.bipush 11, 2) := by decide +kernel
theorem xd_Re_deviceReady_27 : decode xb_Re_deviceReady 27 = .ok (.aload_n 0, 1) := by decide +kernel
theorem xd_Re_deviceReady_28 : decode xb_Re_deviceReady 28 = .ok (.getfield 59, 3) := by decide +kernel
theorem xd_Re_deviceReady_31 : decode xb_Re_deviceReady 31 = .ok (.iconst 0, 1) := by decide +kernel
theorem xd_Re_deviceReady_32 : decode xb_Re_deviceReady 32 = .ok (.aload_n 0, 1) := by decide +kernel
theorem xd_Re_deviceReady_33 : decode xb_Re_deviceReady 33 = .ok (.getfield 31, 3) := by decide +kernel
theorem xd_Re_deviceReady_36 : decode xb_Re_deviceReady 36 = .ok (.invokevirtual 145, 3) := by decide +kernel
theorem xd_Re_deviceReady_39 : decode xb_Re_deviceReady 39 = .ok (.pop, 1) := by decide +kernel
theorem xd_Re_deviceReady_40 : decode xb_Re_deviceReady 40 = .ok (.goto 31, 3) := by decide +kernel
theorem xd_Re_deviceReady_43 : decode xb_Re_deviceReady 43 = .ok (.aload_n 0, 1) := by decide +kernel
theorem xd_Re_deviceReady_44 : decode xb_Re_deviceReady 44 = .ok (.getfield 56, 3) := by decide +kernel
theorem xd_Re_deviceReady_47 : decode xb_Re_deviceReady 47 = .ok (.bipush 6, 2) := by decide +kernel
theorem xd_Re_deviceReady_49 : decode xb_Re_deviceReady 49 = .ok (.if_icmp .ne 22, 3) := by decide +kernel
theorem xd_Re_deviceReady_52 : decode xb_Re_deviceReady 52 = .ok (.aload_n 0, 1) := by decide +kernel
theorem xd_Re_deviceReady_53 : decode xb_Re_deviceReady 53 = .ok (.getfield 42, 3) := by decide +kernel
theorem xd_Re_deviceReady_56 : decode xb_Re_deviceReady 56 = .ok (.bipush 11, 2) := by decide +kernel
theorem xd_Re_deviceReady_58 : decode xb_Re_deviceReady 58 = .ok (.aload_n 0, 1) := by decide +kernel
theorem xd_Re_deviceReady_59 : decode xb_Re_deviceReady 59 = .ok (.getfield 59, 3) := by decide +kernel
theorem xd_Re_deviceReady_62 : decode xb_Re_deviceReady 62 = .ok (.iconst 0, 1) := by decide +kernel
theorem xd_Re_deviceReady_63 : decode xb_Re_deviceReady 63 = .ok (.aload_n 0, 1) := by decide +kernel
theorem xd_Re_deviceReady_64 : decode xb_Re_deviceReady 64 = .ok (.getfield 31, 3) := by decide +kernel
theorem xd_Re_deviceReady_67 : decode xb_Re_deviceReady 67 = .ok (.invokevirtual 145, 3) := by decide +kernel
theorem xd_Re_deviceReady_70 : decode xb_Re_deviceReady 70 = .ok (.pop, 1) := by decide +kernel
theorem xd_Re_deviceReady_71 : decode xb_Re_deviceReady 71 = .ok (.return_, 1) := by decide +kernel
abbrev xb_Cy_takes : ByteArray := prog_4_method_4_code
def xy_Cy_takes : MethodName := ⟨R_Cy, "takes", "(I)Z"⟩
abbrev xrm_Cy_takes : Room := { frames := 1, cells := 0, slots := 0, locals := 22 }
theorem xK_Cy_takes : Cond.code xy_Cy_takes xb_Cy_takes 3 (some .boolean) ∈ vTB := vTB_in 541 (by decide +kernel) rfl
theorem xI_Cy_takes : Cond.instanceMethod xy_Cy_takes ∈ vTB := vTB_in 539 (by decide +kernel) rfl
theorem xS_Cy_takes : Cond.selects R_Cy xy_Cy_takes xy_Cy_takes ∈ vTB := vTB_in 540 (by decide +kernel) rfl
theorem xw_Cy_takes {R : Room} {s : State} {args : Array Value} {own : String} {index : Nat} (hts : ∀ w ∈ vTB, w.before args s = true) (hl : Cond.methodLink own index xy_Cy_takes ∈ vTB) (hR : xrm_Cy_takes.frames + 1 ≤ R.frames ∧ 8 + (3 + 11) + xrm_Cy_takes.locals ≤ R.locals) : CallW R s args own R_Cy index xy_Cy_takes xb_Cy_takes 3 (some .boolean) (Cond.code xy_Cy_takes xb_Cy_takes 3 (some .boolean) :: vTB) xrm_Cy_takes 0 0 1 := cwV 1 hts (fw_gV vTB_good xK_Cy_takes hl xI_Cy_takes xS_Cy_takes N_Cy) rfl rfl rfl (by decide +kernel) hR
theorem xd_Cy_takes_0 : decode xb_Cy_takes 0 = .ok (.iload_n 1, 1) := by decide +kernel
theorem xd_Cy_takes_1 : decode xb_Cy_takes 1 = .ok (.aload_n 0, 1) := by decide +kernel
theorem xd_Cy_takes_2 : decode xb_Cy_takes 2 = .ok (.getfield 11, 3) := by decide +kernel
theorem xd_Cy_takes_5 : decode xb_Cy_takes 5 = .ok (.isub, 1) := by decide +kernel
theorem xd_Cy_takes_6 : decode xb_Cy_takes 6 = .ok (.sipush 255, 3) := by decide +kernel
theorem xd_Cy_takes_9 : decode xb_Cy_takes 9 = .ok (.iand, 1) := by decide +kernel
theorem xd_Cy_takes_10 : decode xb_Cy_takes 10 = .ok (.istore_n 2, 1) := by decide +kernel
theorem xd_Cy_takes_11 : decode xb_Cy_takes 11 = .ok (.aload_n 0, 1) := by decide +kernel
theorem xd_Cy_takes_12 : decode xb_Cy_takes 12 = .ok (.getfield 11, 3) := by decide +kernel
theorem xd_Cy_takes_15 : decode xb_Cy_takes 15 = .ok (.iconst (-1), 1) := by decide +kernel
theorem xd_Cy_takes_16 : decode xb_Cy_takes 16 = .ok (.if_icmp .eq 15, 3) := by decide +kernel
theorem xd_Cy_takes_19 : decode xb_Cy_takes 19 = .ok (.iload_n 2, 1) := by decide +kernel
theorem xd_Cy_takes_20 : decode xb_Cy_takes 20 = .ok (.iconst 1, 1) := by decide +kernel
theorem xd_Cy_takes_21 : decode xb_Cy_takes 21 = .ok (.bipush 127, 2) := by decide +kernel
theorem xd_Cy_takes_23 : decode xb_Cy_takes 23 = .ok (.invokestatic 18, 3) := by decide +kernel
theorem xd_Cy_takes_26 : decode xb_Cy_takes 26 = .ok (.ifCond .ne 5, 3) := by decide +kernel
theorem xd_Cy_takes_29 : decode xb_Cy_takes 29 = .ok (.iconst 0, 1) := by decide +kernel
theorem xd_Cy_takes_30 : decode xb_Cy_takes 30 = .ok (.ireturn, 1) := by decide +kernel
theorem xd_Cy_takes_31 : decode xb_Cy_takes 31 = .ok (.aload_n 0, 1) := by decide +kernel
theorem xd_Cy_takes_32 : decode xb_Cy_takes 32 = .ok (.iload_n 1, 1) := by decide +kernel
theorem xd_Cy_takes_33 : decode xb_Cy_takes 33 = .ok (.putfield 11, 3) := by decide +kernel
theorem xd_Cy_takes_36 : decode xb_Cy_takes 36 = .ok (.iconst 1, 1) := by decide +kernel
theorem xd_Cy_takes_37 : decode xb_Cy_takes 37 = .ok (.ireturn, 1) := by decide +kernel
abbrev xb_Re_takeInput : ByteArray := prog_8_method_15_code
def xy_Re_takeInput : MethodName := ⟨R_Re, "takeInput", "(LFieldRelay$Frame;)V"⟩
abbrev xrm_Re_takeInput : Room := { frames := 2, cells := 0, slots := 0, locals := 44 }
theorem xK_Re_takeInput : Cond.code xy_Re_takeInput xb_Re_takeInput 2 none ∈ vTB := vTB_in 537 (by decide +kernel) rfl
theorem xI_Re_takeInput : Cond.instanceMethod xy_Re_takeInput ∈ vTB := vTB_in 536 (by decide +kernel) rfl
theorem xS_Re_takeInput : Cond.selects R_Re xy_Re_takeInput xy_Re_takeInput ∈ vTB := vTB_sel (q := (xy_Re_takeInput, 20)) 14 (by decide +kernel)
theorem xw_Re_takeInput {R : Room} {s : State} {args : Array Value} {own : String} {index : Nat} (hts : ∀ w ∈ vTB, w.before args s = true) (hl : Cond.methodLink own index xy_Re_takeInput ∈ vTB) (hR : xrm_Re_takeInput.frames + 1 ≤ R.frames ∧ 8 + (2 + 11) + xrm_Re_takeInput.locals ≤ R.locals) : CallW R s args own R_Re index xy_Re_takeInput xb_Re_takeInput 2 none (Cond.code xy_Re_takeInput xb_Re_takeInput 2 none :: vTB) xrm_Re_takeInput 0 0 1 := cwV 1 hts (fw_gV vTB_good xK_Re_takeInput hl xI_Re_takeInput xS_Re_takeInput N_Re) rfl rfl rfl (by decide +kernel) hR
theorem xd_Re_takeInput_0 : decode xb_Re_takeInput 0 = .ok (.aload_n 0, 1) := by decide +kernel
theorem xd_Re_takeInput_1 : decode xb_Re_takeInput 1 = .ok (.getfield 56, 3) := by decide +kernel
theorem xd_Re_takeInput_4 : decode xb_Re_takeInput 4 = .ok (.bipush 6, 2) := by decide +kernel
theorem xd_Re_takeInput_6 : decode xb_Re_takeInput 6 = .ok (.if_icmp .ne 48, 3) := by decide +kernel
theorem xd_Re_takeInput_9 : decode xb_Re_takeInput 9 = .ok (.aload_n 0, 1) := by decide +kernel
theorem xd_Re_takeInput_10 : decode xb_Re_takeInput 10 = .ok (.getfield 12, 3) := by decide +kernel
theorem xd_Re_takeInput_13 : decode xb_Re_takeInput 13 = .ok (.aload_n 1, 1) := by decide +kernel
theorem xd_Re_takeInput_14 : decode xb_Re_takeInput 14 = .ok (.getfield 91, 3) := by decide +kernel
theorem xd_Re_takeInput_17 : decode xb_Re_takeInput 17 = .ok (.invokevirtual 151, 3) := by decide +kernel
theorem xd_Re_takeInput_20 : decode xb_Re_takeInput 20 = .ok (.ifCond .eq 34, 3) := by decide +kernel
theorem xd_Re_takeInput_23 : decode xb_Re_takeInput 23 = .ok (.aload_n 1, 1) := by decide +kernel
theorem xd_Re_takeInput_24 : decode xb_Re_takeInput 24 = .ok (.getfield 130, 3) := by decide +kernel
theorem xd_Re_takeInput_27 : decode xb_Re_takeInput 27 = .ok (.iconst 0, 1) := by decide +kernel
theorem xd_Re_takeInput_28 : decode xb_Re_takeInput 28 = .ok (.aload_n 0, 1) := by decide +kernel
theorem xd_Re_takeInput_29 : decode xb_Re_takeInput 29 = .ok (.getfield 28, 3) := by decide +kernel
theorem xd_Re_takeInput_32 : decode xb_Re_takeInput 32 = .ok (.iconst 0, 1) := by decide +kernel
theorem xd_Re_takeInput_33 : decode xb_Re_takeInput 33 = .ok (.bipush 6, 2) := by decide +kernel
theorem xd_Re_takeInput_35 : decode xb_Re_takeInput 35 = .ok (.invokestatic 155, 3) := by decide +kernel
theorem xd_Re_takeInput_38 : decode xb_Re_takeInput 38 = .ok (.aload_n 0, 1) := by decide +kernel
theorem xd_Re_takeInput_39 : decode xb_Re_takeInput 39 = .ok (.aload_n 1, 1) := by decide +kernel
theorem xd_Re_takeInput_40 : decode xb_Re_takeInput 40 = .ok (.getfield 130, 3) := by decide +kernel
theorem xd_Re_takeInput_43 : decode xb_Re_takeInput 43 = .ok (.bipush 6, 2) := by decide +kernel
theorem xd_Re_takeInput_45 : decode xb_Re_takeInput 45 = .ok (.iaload, 1) := by decide +kernel
theorem xd_Re_takeInput_46 : decode xb_Re_takeInput 46 = .ok (.putfield 124, 3) := by decide +kernel
theorem xd_Re_takeInput_49 : decode xb_Re_takeInput 49 = .ok (.aload_n 0, 1) := by decide +kernel
theorem xd_Re_takeInput_50 : decode xb_Re_takeInput 50 = .ok (.iconst 0, 1) := by decide +kernel
theorem xd_Re_takeInput_51 : decode xb_Re_takeInput 51 = .ok (.putfield 115, 3) := by decide +kernel
theorem xd_Re_takeInput_54 : decode xb_Re_takeInput 54 = .ok (.return_, 1) := by decide +kernel
abbrev xb_AL_add : ByteArray := prog_2_method_2_code
def xy_AL_add : MethodName := ⟨R_AL, "add", "(III)V"⟩
abbrev xrm_AL_add : Room := { frames := 0, cells := 0, slots := 0, locals := 0 }
theorem xK_AL_add : Cond.code xy_AL_add xb_AL_add 4 none ∈ vTB := vTB_in 554 (by decide +kernel) rfl
theorem xI_AL_add : Cond.instanceMethod xy_AL_add ∈ vTB := vTB_in 552 (by decide +kernel) rfl
theorem xS_AL_add : Cond.selects R_AL xy_AL_add xy_AL_add ∈ vTB := vTB_in 553 (by decide +kernel) rfl
theorem xw_AL_add {R : Room} {s : State} {args : Array Value} {own : String} {index : Nat} (hts : ∀ w ∈ vTB, w.before args s = true) (hl : Cond.methodLink own index xy_AL_add ∈ vTB) (hR : xrm_AL_add.frames + 1 ≤ R.frames ∧ 8 + (4 + 11) + xrm_AL_add.locals ≤ R.locals) : CallW R s args own R_AL index xy_AL_add xb_AL_add 4 none (Cond.code xy_AL_add xb_AL_add 4 none :: vTB) xrm_AL_add 0 0 3 := cwV 3 hts (fw_gV vTB_good xK_AL_add hl xI_AL_add xS_AL_add N_AL) rfl rfl rfl (by decide +kernel) hR
theorem xd_AL_add_0 : decode xb_AL_add 0 = .ok (.aload_n 0, 1) := by decide +kernel
theorem xd_AL_add_1 : decode xb_AL_add 1 = .ok (.getfield 11, 3) := by decide +kernel
theorem xd_AL_add_4 : decode xb_AL_add 4 = .ok (.aload_n 0, 1) := by decide +kernel
theorem xd_AL_add_5 : decode xb_AL_add 5 = .ok (.getfield 15, 3) := by decide +kernel
theorem xd_AL_add_8 : decode xb_AL_add 8 = .ok (.bipush 8, 2) := by decide +kernel
theorem xd_AL_add_10 : decode xb_AL_add 10 = .ok (.irem, 1) := by decide +kernel
theorem xd_AL_add_11 : decode xb_AL_add 11 = .ok (.bipush 64, 2) := by decide +kernel
theorem xd_AL_add_13 : decode xb_AL_add 13 = .ok (.iload_n 1, 1) := by decide +kernel
theorem xd_AL_add_14 : decode xb_AL_add 14 = .ok (.imul, 1) := by decide +kernel
theorem xd_AL_add_15 : decode xb_AL_add 15 = .ok (.bipush 16, 2) := by decide +kernel
theorem xd_AL_add_17 : decode xb_AL_add 17 = .ok (.iload_n 2, 1) := by decide +kernel
theorem xd_AL_add_18 : decode xb_AL_add 18 = .ok (.imul, 1) := by decide +kernel
theorem xd_AL_add_19 : decode xb_AL_add 19 = .ok (.iadd, 1) := by decide +kernel
theorem xd_AL_add_20 : decode xb_AL_add 20 = .ok (.iload_n 3, 1) := by decide +kernel
theorem xd_AL_add_21 : decode xb_AL_add 21 = .ok (.iadd, 1) := by decide +kernel
theorem xd_AL_add_22 : decode xb_AL_add 22 = .ok (.iastore, 1) := by decide +kernel
theorem xd_AL_add_23 : decode xb_AL_add 23 = .ok (.aload_n 0, 1) := by decide +kernel
theorem xd_AL_add_24 : decode xb_AL_add 24 = .ok (.dup, 1) := by decide +kernel
theorem xd_AL_add_25 : decode xb_AL_add 25 = .ok (.getfield 15, 3) := by decide +kernel
theorem xd_AL_add_28 : decode xb_AL_add 28 = .ok (.iconst 1, 1) := by decide +kernel
theorem xd_AL_add_29 : decode xb_AL_add 29 = .ok (.iadd, 1) := by decide +kernel
theorem xd_AL_add_30 : decode xb_AL_add 30 = .ok (.putfield 15, 3) := by decide +kernel
theorem xd_AL_add_33 : decode xb_AL_add 33 = .ok (.return_, 1) := by decide +kernel
abbrev xb_Re_takeAlarm : ByteArray := prog_8_method_16_code
def xy_Re_takeAlarm : MethodName := ⟨R_Re, "takeAlarm", "(LFieldRelay$Frame;)V"⟩
abbrev xrm_Re_takeAlarm : Room := { frames := 3, cells := 0, slots := 0, locals := 72 }
theorem xK_Re_takeAlarm : Cond.code xy_Re_takeAlarm xb_Re_takeAlarm 3 none ∈ vTB := vTB_in 549 (by decide +kernel) rfl
theorem xI_Re_takeAlarm : Cond.instanceMethod xy_Re_takeAlarm ∈ vTB := vTB_in 548 (by decide +kernel) rfl
theorem xS_Re_takeAlarm : Cond.selects R_Re xy_Re_takeAlarm xy_Re_takeAlarm ∈ vTB := vTB_sel (q := (xy_Re_takeAlarm, 20)) 15 (by decide +kernel)
theorem xw_Re_takeAlarm {R : Room} {s : State} {args : Array Value} {own : String} {index : Nat} (hts : ∀ w ∈ vTB, w.before args s = true) (hl : Cond.methodLink own index xy_Re_takeAlarm ∈ vTB) (hR : xrm_Re_takeAlarm.frames + 1 ≤ R.frames ∧ 8 + (3 + 11) + xrm_Re_takeAlarm.locals ≤ R.locals) : CallW R s args own R_Re index xy_Re_takeAlarm xb_Re_takeAlarm 3 none (Cond.code xy_Re_takeAlarm xb_Re_takeAlarm 3 none :: vTB) xrm_Re_takeAlarm 0 0 1 := cwV 1 hts (fw_gV vTB_good xK_Re_takeAlarm hl xI_Re_takeAlarm xS_Re_takeAlarm N_Re) rfl rfl rfl (by decide +kernel) hR
theorem xd_Re_takeAlarm_0 : decode xb_Re_takeAlarm 0 = .ok (.aload_n 0, 1) := by decide +kernel
theorem xd_Re_takeAlarm_1 : decode xb_Re_takeAlarm 1 = .ok (.getfield 42, 3) := by decide +kernel
theorem xd_Re_takeAlarm_4 : decode xb_Re_takeAlarm 4 = .ok (.bipush 15, 2) := by decide +kernel
theorem xd_Re_takeAlarm_6 : decode xb_Re_takeAlarm 6 = .ok (.aload_n 0, 1) := by decide +kernel
theorem xd_Re_takeAlarm_7 : decode xb_Re_takeAlarm 7 = .ok (.getfield 59, 3) := by decide +kernel
theorem xd_Re_takeAlarm_10 : decode xb_Re_takeAlarm 10 = .ok (.aload_n 1, 1) := by decide +kernel
theorem xd_Re_takeAlarm_11 : decode xb_Re_takeAlarm 11 = .ok (.getfield 91, 3) := by decide +kernel
theorem xd_Re_takeAlarm_14 : decode xb_Re_takeAlarm 14 = .ok (.aload_n 0, 1) := by decide +kernel
theorem xd_Re_takeAlarm_15 : decode xb_Re_takeAlarm 15 = .ok (.getfield 31, 3) := by decide +kernel
theorem xd_Re_takeAlarm_18 : decode xb_Re_takeAlarm 18 = .ok (.invokevirtual 145, 3) := by decide +kernel
theorem xd_Re_takeAlarm_21 : decode xb_Re_takeAlarm 21 = .ok (.pop, 1) := by decide +kernel
theorem xd_Re_takeAlarm_22 : decode xb_Re_takeAlarm 22 = .ok (.aload_n 1, 1) := by decide +kernel
theorem xd_Re_takeAlarm_23 : decode xb_Re_takeAlarm 23 = .ok (.getfield 130, 3) := by decide +kernel
theorem xd_Re_takeAlarm_26 : decode xb_Re_takeAlarm 26 = .ok (.iconst 0, 1) := by decide +kernel
theorem xd_Re_takeAlarm_27 : decode xb_Re_takeAlarm 27 = .ok (.iaload, 1) := by decide +kernel
theorem xd_Re_takeAlarm_28 : decode xb_Re_takeAlarm 28 = .ok (.istore_n 2, 1) := by decide +kernel
theorem xd_Re_takeAlarm_29 : decode xb_Re_takeAlarm 29 = .ok (.aload_n 0, 1) := by decide +kernel
theorem xd_Re_takeAlarm_30 : decode xb_Re_takeAlarm 30 = .ok (.getfield 56, 3) := by decide +kernel
theorem xd_Re_takeAlarm_33 : decode xb_Re_takeAlarm 33 = .ok (.bipush 6, 2) := by decide +kernel
theorem xd_Re_takeAlarm_35 : decode xb_Re_takeAlarm 35 = .ok (.if_icmp .ne 21, 3) := by decide +kernel
theorem xd_Re_takeAlarm_38 : decode xb_Re_takeAlarm 38 = .ok (.aload_n 1, 1) := by decide +kernel
theorem xd_Re_takeAlarm_39 : decode xb_Re_takeAlarm 39 = .ok (.getfield 91, 3) := by decide +kernel
theorem xd_Re_takeAlarm_42 : decode xb_Re_takeAlarm 42 = .ok (.aload_n 0, 1) := by decide +kernel
theorem xd_Re_takeAlarm_43 : decode xb_Re_takeAlarm 43 = .ok (.getfield 65, 3) := by decide +kernel
theorem xd_Re_takeAlarm_46 : decode xb_Re_takeAlarm 46 = .ok (.if_icmp .eq 10, 3) := by decide +kernel
theorem xd_Re_takeAlarm_49 : decode xb_Re_takeAlarm 49 = .ok (.iload_n 2, 1) := by decide +kernel
theorem xd_Re_takeAlarm_50 : decode xb_Re_takeAlarm 50 = .ok (.invokestatic 161, 3) := by decide +kernel
theorem xd_Re_takeAlarm_53 : decode xb_Re_takeAlarm 53 = .ok (.ifCond .ne 4, 3) := by decide +kernel
theorem xd_Re_takeAlarm_56 : decode xb_Re_takeAlarm 56 = .ok (.return_, 1) := by decide +kernel
theorem xd_Re_takeAlarm_57 : decode xb_Re_takeAlarm 57 = .ok (.aload_n 0, 1) := by decide +kernel
theorem xd_Re_takeAlarm_58 : decode xb_Re_takeAlarm 58 = .ok (.aload_n 1, 1) := by decide +kernel
theorem xd_Re_takeAlarm_59 : decode xb_Re_takeAlarm 59 = .ok (.getfield 91, 3) := by decide +kernel
theorem xd_Re_takeAlarm_62 : decode xb_Re_takeAlarm 62 = .ok (.putfield 65, 3) := by decide +kernel
theorem xd_Re_takeAlarm_65 : decode xb_Re_takeAlarm 65 = .ok (.aload_n 0, 1) := by decide +kernel
theorem xd_Re_takeAlarm_66 : decode xb_Re_takeAlarm 66 = .ok (.getfield 46, 3) := by decide +kernel
theorem xd_Re_takeAlarm_69 : decode xb_Re_takeAlarm 69 = .ok (.aload_n 0, 1) := by decide +kernel
theorem xd_Re_takeAlarm_70 : decode xb_Re_takeAlarm 70 = .ok (.getfield 35, 3) := by decide +kernel
theorem xd_Re_takeAlarm_73 : decode xb_Re_takeAlarm 73 = .ok (.iload_n 2, 1) := by decide +kernel
theorem xd_Re_takeAlarm_74 : decode xb_Re_takeAlarm 74 = .ok (.aload_n 1, 1) := by decide +kernel
theorem xd_Re_takeAlarm_75 : decode xb_Re_takeAlarm 75 = .ok (.getfield 130, 3) := by decide +kernel
theorem xd_Re_takeAlarm_78 : decode xb_Re_takeAlarm 78 = .ok (.iconst 1, 1) := by decide +kernel
theorem xd_Re_takeAlarm_79 : decode xb_Re_takeAlarm 79 = .ok (.iaload, 1) := by decide +kernel
theorem xd_Re_takeAlarm_80 : decode xb_Re_takeAlarm 80 = .ok (.invokevirtual 164, 3) := by decide +kernel
theorem xd_Re_takeAlarm_83 : decode xb_Re_takeAlarm 83 = .ok (.aload_n 0, 1) := by decide +kernel
theorem xd_Re_takeAlarm_84 : decode xb_Re_takeAlarm 84 = .ok (.aload_n 0, 1) := by decide +kernel
theorem xd_Re_takeAlarm_85 : decode xb_Re_takeAlarm 85 = .ok (.getfield 62, 3) := by decide +kernel
theorem xd_Re_takeAlarm_88 : decode xb_Re_takeAlarm 88 = .ok (.iload_n 2, 1) := by decide +kernel
theorem xd_Re_takeAlarm_89 : decode xb_Re_takeAlarm 89 = .ok (.aload_n 1, 1) := by decide +kernel
theorem xd_Re_takeAlarm_90 : decode xb_Re_takeAlarm 90 = .ok (.getfield 130, 3) := by decide +kernel
theorem xd_Re_takeAlarm_93 : decode xb_Re_takeAlarm 93 = .ok (.iconst 1, 1) := by decide +kernel
theorem xd_Re_takeAlarm_94 : decode xb_Re_takeAlarm 94 = .ok (.iaload, 1) := by decide +kernel
theorem xd_Re_takeAlarm_95 : decode xb_Re_takeAlarm 95 = .ok (.aload_n 0, 1) := by decide +kernel
theorem xd_Re_takeAlarm_96 : decode xb_Re_takeAlarm 96 = .ok (.getfield 18, 3) := by decide +kernel
theorem xd_Re_takeAlarm_99 : decode xb_Re_takeAlarm 99 = .ok (.iload_n 2, 1) := by decide +kernel
theorem xd_Re_takeAlarm_100 : decode xb_Re_takeAlarm 100 = .ok (.iaload, 1) := by decide +kernel
theorem xd_Re_takeAlarm_101 : decode xb_Re_takeAlarm 101 = .ok (.iconst 1, 1) := by decide +kernel
theorem xd_Re_takeAlarm_102 : decode xb_Re_takeAlarm 102 = .ok (.iadd, 1) := by decide +kernel
theorem xd_Re_takeAlarm_103 : decode xb_Re_takeAlarm 103 = .ok (.if_icmp .eq 7, 3) := by decide +kernel
theorem xd_Re_takeAlarm_106 : decode xb_Re_takeAlarm 106 = .ok (.iconst 1, 1) := by decide +kernel
theorem xd_Re_takeAlarm_107 : decode xb_Re_takeAlarm 107 = .ok (.goto 4, 3) := by decide +kernel
theorem xd_Re_takeAlarm_110 : decode xb_Re_takeAlarm 110 = .ok (.iconst 0, 1) := by decide +kernel
theorem xd_Re_takeAlarm_111 : decode xb_Re_takeAlarm 111 = .ok (.invokestatic 170, 3) := by decide +kernel
theorem xd_Re_takeAlarm_114 : decode xb_Re_takeAlarm 114 = .ok (.putfield 62, 3) := by decide +kernel
theorem xd_Re_takeAlarm_117 : decode xb_Re_takeAlarm 117 = .ok (.return_, 1) := by decide +kernel
abbrev xb_Re_receive : ByteArray := prog_8_method_6_code
def xy_Re_receive : MethodName := ⟨R_Re, "receive", "(LFieldRelay$Frame;)V"⟩
abbrev xrm_Re_receive : Room := { frames := 6, cells := 0, slots := 0, locals := 135 }
theorem xK_Re_receive : Cond.code xy_Re_receive xb_Re_receive 2 none ∈ vTB := vTB_in 494 (by decide +kernel) rfl
theorem xI_Re_receive : Cond.instanceMethod xy_Re_receive ∈ vTB := vTB_in 492 (by decide +kernel) rfl
theorem xS_Re_receive : Cond.selects R_Re xy_Re_receive xy_Re_receive ∈ vTB := vTB_in 493 (by decide +kernel) rfl
theorem xw_Re_receive {R : Room} {s : State} {args : Array Value} {own : String} {index : Nat} (hts : ∀ w ∈ vTB, w.before args s = true) (hl : Cond.methodLink own index xy_Re_receive ∈ vTB) (hR : xrm_Re_receive.frames + 1 ≤ R.frames ∧ 8 + (2 + 11) + xrm_Re_receive.locals ≤ R.locals) : CallW R s args own R_Re index xy_Re_receive xb_Re_receive 2 none (Cond.code xy_Re_receive xb_Re_receive 2 none :: vTB) xrm_Re_receive 0 0 1 := cwV 1 hts (fw_gV vTB_good xK_Re_receive hl xI_Re_receive xS_Re_receive N_Re) rfl rfl rfl (by decide +kernel) hR
theorem xd_Re_receive_0 : decode xb_Re_receive 0 = .ok (.aload_n 1, 1) := by decide +kernel
theorem xd_Re_receive_1 : decode xb_Re_receive 1 = .ok (.getfield 81, 3) := by decide +kernel
theorem xd_Re_receive_4 : decode xb_Re_receive 4 = .ok (.iconst 2, 1) := by decide +kernel
theorem xd_Re_receive_5 : decode xb_Re_receive 5 = .ok (.if_icmp .ne 9, 3) := by decide +kernel
theorem xd_Re_receive_8 : decode xb_Re_receive 8 = .ok (.aload_n 0, 1) := by decide +kernel
theorem xd_Re_receive_9 : decode xb_Re_receive 9 = .ok (.aload_n 1, 1) := by decide +kernel
theorem xd_Re_receive_10 : decode xb_Re_receive 10 = .ok (.invokevirtual 86, 3) := by decide +kernel
theorem xd_Re_receive_13 : decode xb_Re_receive 13 = .ok (.return_, 1) := by decide +kernel
theorem xd_Re_receive_14 : decode xb_Re_receive 14 = .ok (.aload_n 0, 1) := by decide +kernel
theorem xd_Re_receive_15 : decode xb_Re_receive 15 = .ok (.getfield 56, 3) := by decide +kernel
theorem xd_Re_receive_18 : decode xb_Re_receive 18 = .ok (.ifCond .eq 14, 3) := by decide +kernel
theorem xd_Re_receive_21 : decode xb_Re_receive 21 = .ok (.aload_n 1, 1) := by decide +kernel
theorem xd_Re_receive_22 : decode xb_Re_receive 22 = .ok (.getfield 90, 3) := by decide +kernel
theorem xd_Re_receive_25 : decode xb_Re_receive 25 = .ok (.aload_n 0, 1) := by decide +kernel
theorem xd_Re_receive_26 : decode xb_Re_receive 26 = .ok (.getfield 59, 3) := by decide +kernel
theorem xd_Re_receive_29 : decode xb_Re_receive 29 = .ok (.if_icmp .eq 4, 3) := by decide +kernel
theorem xd_Re_receive_32 : decode xb_Re_receive 32 = .ok (.return_, 1) := by decide +kernel
theorem xd_Re_receive_33 : decode xb_Re_receive 33 = .ok (.aload_n 1, 1) := by decide +kernel
theorem xd_Re_receive_34 : decode xb_Re_receive 34 = .ok (.getfield 81, 3) := by decide +kernel
theorem xd_Re_receive_37 : decode xb_Re_receive 37 = .ok (.tableswitch 133 4 16 #[67, 78, 133, 85, 133, 96, 103, 133, 133, 110, 118, 133, 126], 67) := by decide +kernel
theorem xd_Re_receive_104 : decode xb_Re_receive 104 = .ok (.aload_n 0, 1) := by decide +kernel
theorem xd_Re_receive_105 : decode xb_Re_receive 105 = .ok (.aload_n 1, 1) := by decide +kernel
theorem xd_Re_receive_106 : decode xb_Re_receive 106 = .ok (.getfield 91, 3) := by decide +kernel
theorem xd_Re_receive_109 : decode xb_Re_receive 109 = .ok (.invokevirtual 94, 3) := by decide +kernel
theorem xd_Re_receive_112 : decode xb_Re_receive 112 = .ok (.goto 58, 3) := by decide +kernel
theorem xd_Re_receive_115 : decode xb_Re_receive 115 = .ok (.aload_n 0, 1) := by decide +kernel
theorem xd_Re_receive_116 : decode xb_Re_receive 116 = .ok (.invokevirtual 97, 3) := by decide +kernel
theorem xd_Re_receive_119 : decode xb_Re_receive 119 = .ok (.goto 51, 3) := by decide +kernel
theorem xd_Re_receive_122 : decode xb_Re_receive 122 = .ok (.aload_n 0, 1) := by decide +kernel
theorem xd_Re_receive_123 : decode xb_Re_receive 123 = .ok (.aload_n 1, 1) := by decide +kernel
theorem xd_Re_receive_124 : decode xb_Re_receive 124 = .ok (.getfield 91, 3) := by decide +kernel
theorem xd_Re_receive_127 : decode xb_Re_receive 127 = .ok (.invokevirtual 100, 3) := by decide +kernel
theorem xd_Re_receive_130 : decode xb_Re_receive 130 = .ok (.goto 40, 3) := by decide +kernel
theorem xd_Re_receive_133 : decode xb_Re_receive 133 = .ok (.aload_n 0, 1) := by decide +kernel
theorem xd_Re_receive_134 : decode xb_Re_receive 134 = .ok (.invokevirtual 103, 3) := by decide +kernel
theorem xd_Re_receive_137 : decode xb_Re_receive 137 = .ok (.goto 33, 3) := by decide +kernel
theorem xd_Re_receive_140 : decode xb_Re_receive 140 = .ok (.aload_n 0, 1) := by decide +kernel
theorem xd_Re_receive_141 : decode xb_Re_receive 141 = .ok (.invokevirtual 106, 3) := by decide +kernel
theorem xd_Re_receive_144 : decode xb_Re_receive 144 = .ok (.goto 26, 3) := by decide +kernel
theorem xd_Re_receive_147 : decode xb_Re_receive 147 = .ok (.aload_n 0, 1) := by decide +kernel
theorem xd_Re_receive_148 : decode xb_Re_receive 148 = .ok (.aload_n 1, 1) := by decide +kernel
theorem xd_Re_receive_149 : decode xb_Re_receive 149 = .ok (.invokevirtual 109, 3) := by decide +kernel
theorem xd_Re_receive_152 : decode xb_Re_receive 152 = .ok (.goto 18, 3) := by decide +kernel
theorem xd_Re_receive_155 : decode xb_Re_receive 155 = .ok (.aload_n 0, 1) := by decide +kernel
theorem xd_Re_receive_156 : decode xb_Re_receive 156 = .ok (.aload_n 1, 1) := by decide +kernel
theorem xd_Re_receive_157 : decode xb_Re_receive 157 = .ok (.invokevirtual 112, 3) := by decide +kernel
theorem xd_Re_receive_160 : decode xb_Re_receive 160 = .ok (.goto 10, 3) := by decide +kernel
theorem xd_Re_receive_163 : decode xb_Re_receive 163 = .ok (.aload_n 0, 1) := by decide +kernel
theorem xd_Re_receive_164 : decode xb_Re_receive 164 = .ok (.invokevirtual 78, 3) := by decide +kernel
theorem xd_Re_receive_167 : decode xb_Re_receive 167 = .ok (.goto 3, 3) := by decide +kernel
theorem xd_Re_receive_170 : decode xb_Re_receive 170 = .ok (.return_, 1) := by decide +kernel
abbrev xb_De_answerSeek : ByteArray := prog_5_method_8_code
def xy_De_answerSeek : MethodName := ⟨R_De, "answerSeek", "(I)V"⟩
abbrev xrm_De_answerSeek : Room := { frames := 3, cells := 0, slots := 0, locals := 72 }
theorem xK_De_answerSeek : Cond.code xy_De_answerSeek xb_De_answerSeek 2 none ∈ vTB := vTB_in 563 (by decide +kernel) rfl
theorem xI_De_answerSeek : Cond.instanceMethod xy_De_answerSeek ∈ vTB := vTB_in 562 (by decide +kernel) rfl
theorem xS_De_answerSeek : Cond.selects R_De xy_De_answerSeek xy_De_answerSeek ∈ vTB := vTB_sel (q := (xy_De_answerSeek, 19)) 16 (by decide +kernel)
theorem xw_De_answerSeek {R : Room} {s : State} {args : Array Value} {own : String} {index : Nat} (hts : ∀ w ∈ vTB, w.before args s = true) (hl : Cond.methodLink own index xy_De_answerSeek ∈ vTB) (hR : xrm_De_answerSeek.frames + 1 ≤ R.frames ∧ 8 + (2 + 11) + xrm_De_answerSeek.locals ≤ R.locals) : CallW R s args own R_De index xy_De_answerSeek xb_De_answerSeek 2 none (Cond.code xy_De_answerSeek xb_De_answerSeek 2 none :: vTB) xrm_De_answerSeek 0 0 1 := cwV 1 hts (fw_gV vTB_good xK_De_answerSeek hl xI_De_answerSeek xS_De_answerSeek N_De) rfl rfl rfl (by decide +kernel) hR
theorem xd_De_answerSeek_0 : decode xb_De_answerSeek 0 = .ok (.aload_n 0, 1) := by decide +kernel
theorem xd_De_answerSeek_1 : decode xb_De_answerSeek 1 = .ok (.getfield 135, 3) := by decide +kernel
theorem xd_De_answerSeek_4 : decode xb_De_answerSeek 4 = .ok (.ifCond .eq 34, 3) := by decide +kernel
theorem xd_De_answerSeek_7 : decode xb_De_answerSeek 7 = .ok (.iload_n 1, 1) := by decide +kernel
theorem xd_De_answerSeek_8 : decode xb_De_answerSeek 8 = .ok (.aload_n 0, 1) := by decide +kernel
theorem xd_De_answerSeek_9 : decode xb_De_answerSeek 9 = .ok (.getfield 135, 3) := by decide +kernel
theorem xd_De_answerSeek_12 : decode xb_De_answerSeek 12 = .ok (.if_icmp .ne 26, 3) := by decide +kernel
theorem xd_De_answerSeek_15 : decode xb_De_answerSeek 15 = .ok (.aload_n 0, 1) := by decide +kernel
theorem xd_De_answerSeek_16 : decode xb_De_answerSeek 16 = .ok (.getfield 52, 3) := by decide +kernel
theorem xd_De_answerSeek_19 : decode xb_De_answerSeek 19 = .ok (.iconst 2, 1) := by decide +kernel
theorem xd_De_answerSeek_20 : decode xb_De_answerSeek 20 = .ok (.iconst 0, 1) := by decide +kernel
theorem xd_De_answerSeek_21 : decode xb_De_answerSeek 21 = .ok (.aload_n 0, 1) := by decide +kernel
theorem xd_De_answerSeek_22 : decode xb_De_answerSeek 22 = .ok (.getfield 45, 3) := by decide +kernel
theorem xd_De_answerSeek_25 : decode xb_De_answerSeek 25 = .ok (.iconst 2, 1) := by decide +kernel
theorem xd_De_answerSeek_26 : decode xb_De_answerSeek 26 = .ok (.invokevirtual 138, 3) := by decide +kernel
theorem xd_De_answerSeek_29 : decode xb_De_answerSeek 29 = .ok (.getfield 144, 3) := by decide +kernel
theorem xd_De_answerSeek_32 : decode xb_De_answerSeek 32 = .ok (.iconst 0, 1) := by decide +kernel
theorem xd_De_answerSeek_33 : decode xb_De_answerSeek 33 = .ok (.aload_n 0, 1) := by decide +kernel
theorem xd_De_answerSeek_34 : decode xb_De_answerSeek 34 = .ok (.getfield 135, 3) := by decide +kernel
theorem xd_De_answerSeek_37 : decode xb_De_answerSeek 37 = .ok (.iastore, 1) := by decide +kernel
theorem xd_De_answerSeek_38 : decode xb_De_answerSeek 38 = .ok (.return_, 1) := by decide +kernel
abbrev xb_De_connect : ByteArray := prog_5_method_10_code
def xy_De_connect : MethodName := ⟨R_De, "connect", "(LFieldRelay$Frame;)V"⟩
abbrev xrm_De_connect : Room := { frames := 1, cells := 0, slots := 0, locals := 23 }
theorem xK_De_connect : Cond.code xy_De_connect xb_De_connect 4 none ∈ vTB := vTB_in 572 (by decide +kernel) rfl
theorem xI_De_connect : Cond.instanceMethod xy_De_connect ∈ vTB := vTB_in 571 (by decide +kernel) rfl
theorem xS_De_connect : Cond.selects R_De xy_De_connect xy_De_connect ∈ vTB := vTB_sel (q := (xy_De_connect, 19)) 18 (by decide +kernel)
theorem xw_De_connect {R : Room} {s : State} {args : Array Value} {own : String} {index : Nat} (hts : ∀ w ∈ vTB, w.before args s = true) (hl : Cond.methodLink own index xy_De_connect ∈ vTB) (hR : xrm_De_connect.frames + 1 ≤ R.frames ∧ 8 + (4 + 11) + xrm_De_connect.locals ≤ R.locals) : CallW R s args own R_De index xy_De_connect xb_De_connect 4 none (Cond.code xy_De_connect xb_De_connect 4 none :: vTB) xrm_De_connect 0 0 1 := cwV 1 hts (fw_gV vTB_good xK_De_connect hl xI_De_connect xS_De_connect N_De) rfl rfl rfl (by decide +kernel) hR
theorem xd_De_connect_0 : decode xb_De_connect 0 = .ok (.aload_n 0, 1) := by decide +kernel
theorem xd_De_connect_1 : decode xb_De_connect 1 = .ok (.iconst 1, 1) := by decide +kernel
theorem xd_De_connect_2 : decode xb_De_connect 2 = .ok (.putfield 62, 3) := by decide +kernel
theorem xd_De_connect_5 : decode xb_De_connect 5 = .ok (.aload_n 0, 1) := by decide +kernel
theorem xd_De_connect_6 : decode xb_De_connect 6 = .ok (.aload_n 1, 1) := by decide +kernel
theorem xd_De_connect_7 : decode xb_De_connect 7 = .ok (.getfield 98, 3) := by decide +kernel
theorem xd_De_connect_10 : decode xb_De_connect 10 = .ok (.putfield 101, 3) := by decide +kernel
theorem xd_De_connect_13 : decode xb_De_connect 13 = .ok (.aload_n 0, 1) := by decide +kernel
theorem xd_De_connect_14 : decode xb_De_connect 14 = .ok (.iconst 0, 1) := by decide +kernel
theorem xd_De_connect_15 : decode xb_De_connect 15 = .ok (.putfield 120, 3) := by decide +kernel
theorem xd_De_connect_18 : decode xb_De_connect 18 = .ok (.aload_n 0, 1) := by decide +kernel
theorem xd_De_connect_19 : decode xb_De_connect 19 = .ok (.getfield 42, 3) := by decide +kernel
theorem xd_De_connect_22 : decode xb_De_connect 22 = .ok (.iconst (-1), 1) := by decide +kernel
theorem xd_De_connect_23 : decode xb_De_connect 23 = .ok (.invokestatic 56, 3) := by decide +kernel
theorem xd_De_connect_26 : decode xb_De_connect 26 = .ok (.iconst 0, 1) := by decide +kernel
theorem xd_De_connect_27 : decode xb_De_connect 27 = .ok (.istore_n 2, 1) := by decide +kernel
theorem xd_De_connect_28 : decode xb_De_connect 28 = .ok (.iload_n 2, 1) := by decide +kernel
theorem xd_De_connect_29 : decode xb_De_connect 29 = .ok (.iconst 3, 1) := by decide +kernel
theorem xd_De_connect_30 : decode xb_De_connect 30 = .ok (.if_icmp .ge 67, 3) := by decide +kernel
theorem xd_De_connect_33 : decode xb_De_connect 33 = .ok (.aload_n 0, 1) := by decide +kernel
theorem xd_De_connect_34 : decode xb_De_connect 34 = .ok (.getfield 39, 3) := by decide +kernel
theorem xd_De_connect_37 : decode xb_De_connect 37 = .ok (.iload_n 2, 1) := by decide +kernel
theorem xd_De_connect_38 : decode xb_De_connect 38 = .ok (.aload_n 1, 1) := by decide +kernel
theorem xd_De_connect_39 : decode xb_De_connect 39 = .ok (.getfield 144, 3) := by decide +kernel
theorem xd_De_connect_42 : decode xb_De_connect 42 = .ok (.iload_n 2, 1) := by decide +kernel
theorem xd_De_connect_43 : decode xb_De_connect 43 = .ok (.iaload, 1) := by decide +kernel
theorem xd_De_connect_44 : decode xb_De_connect 44 = .ok (.iconst 1, 1) := by decide +kernel
theorem xd_De_connect_45 : decode xb_De_connect 45 = .ok (.isub, 1) := by decide +kernel
theorem xd_De_connect_46 : decode xb_De_connect 46 = .ok (.iastore, 1) := by decide +kernel
theorem xd_De_connect_47 : decode xb_De_connect 47 = .ok (.aload_n 0, 1) := by decide +kernel
theorem xd_De_connect_48 : decode xb_De_connect 48 = .ok (.getfield 39, 3) := by decide +kernel
theorem xd_De_connect_51 : decode xb_De_connect 51 = .ok (.iload_n 2, 1) := by decide +kernel
theorem xd_De_connect_52 : decode xb_De_connect 52 = .ok (.iaload, 1) := by decide +kernel
theorem xd_De_connect_53 : decode xb_De_connect 53 = .ok (.iconst (-1), 1) := by decide +kernel
theorem xd_De_connect_54 : decode xb_De_connect 54 = .ok (.if_icmp .eq 22, 3) := by decide +kernel
theorem xd_De_connect_57 : decode xb_De_connect 57 = .ok (.aload_n 0, 1) := by decide +kernel
theorem xd_De_connect_58 : decode xb_De_connect 58 = .ok (.getfield 39, 3) := by decide +kernel
theorem xd_De_connect_61 : decode xb_De_connect 61 = .ok (.iload_n 2, 1) := by decide +kernel
theorem xd_De_connect_62 : decode xb_De_connect 62 = .ok (.iaload, 1) := by decide +kernel
theorem xd_De_connect_63 : decode xb_De_connect 63 = .ok (.aload_n 0, 1) := by decide +kernel
theorem xd_De_connect_64 : decode xb_De_connect 64 = .ok (.getfield 29, 3) := by decide +kernel
theorem xd_De_connect_67 : decode xb_De_connect 67 = .ok (.iload_n 2, 1) := by decide +kernel
theorem xd_De_connect_68 : decode xb_De_connect 68 = .ok (.iaload, 1) := by decide +kernel
theorem xd_De_connect_69 : decode xb_De_connect 69 = .ok (.if_icmp .eq 7, 3) := by decide +kernel
theorem xd_De_connect_72 : decode xb_De_connect 72 = .ok (.iconst 1, 1) := by decide +kernel
theorem xd_De_connect_73 : decode xb_De_connect 73 = .ok (.goto 4, 3) := by decide +kernel
theorem xd_De_connect_76 : decode xb_De_connect 76 = .ok (.iconst 0, 1) := by decide +kernel
theorem xd_De_connect_77 : decode xb_De_connect 77 = .ok (.istore_n 3, 1) := by decide +kernel
theorem xd_De_connect_78 : decode xb_De_connect 78 = .ok (.aload_n 0, 1) := by decide +kernel
theorem xd_De_connect_79 : decode xb_De_connect 79 = .ok (.aload_n 0, 1) := by decide +kernel
theorem xd_De_connect_80 : decode xb_De_connect 80 = .ok (.getfield 72, 3) := by decide +kernel
theorem xd_De_connect_83 : decode xb_De_connect 83 = .ok (.iload_n 2, 1) := by decide +kernel
theorem xd_De_connect_84 : decode xb_De_connect 84 = .ok (.iload_n 3, 1) := by decide +kernel
theorem xd_De_connect_85 : decode xb_De_connect 85 = .ok (.invokestatic 75, 3) := by decide +kernel
theorem xd_De_connect_88 : decode xb_De_connect 88 = .ok (.putfield 72, 3) := by decide +kernel
theorem xd_De_connect_91 : decode xb_De_connect 91 = .ok (.iinc 2 1, 3) := by decide +kernel
theorem xd_De_connect_94 : decode xb_De_connect 94 = .ok (.goto (-66), 3) := by decide +kernel
theorem xd_De_connect_97 : decode xb_De_connect 97 = .ok (.return_, 1) := by decide +kernel
abbrev xb_De_answerConnect : ByteArray := prog_5_method_9_code
def xy_De_answerConnect : MethodName := ⟨R_De, "answerConnect", "(LFieldRelay$Frame;)V"⟩
abbrev xrm_De_answerConnect : Room := { frames := 3, cells := 0, slots := 0, locals := 72 }
theorem xK_De_answerConnect : Cond.code xy_De_answerConnect xb_De_answerConnect 2 none ∈ vTB := vTB_in 568 (by decide +kernel) rfl
theorem xI_De_answerConnect : Cond.instanceMethod xy_De_answerConnect ∈ vTB := vTB_in 567 (by decide +kernel) rfl
theorem xS_De_answerConnect : Cond.selects R_De xy_De_answerConnect xy_De_answerConnect ∈ vTB := vTB_sel (q := (xy_De_answerConnect, 19)) 17 (by decide +kernel)
theorem xw_De_answerConnect {R : Room} {s : State} {args : Array Value} {own : String} {index : Nat} (hts : ∀ w ∈ vTB, w.before args s = true) (hl : Cond.methodLink own index xy_De_answerConnect ∈ vTB) (hR : xrm_De_answerConnect.frames + 1 ≤ R.frames ∧ 8 + (2 + 11) + xrm_De_answerConnect.locals ≤ R.locals) : CallW R s args own R_De index xy_De_answerConnect xb_De_answerConnect 2 none (Cond.code xy_De_answerConnect xb_De_answerConnect 2 none :: vTB) xrm_De_answerConnect 0 0 1 := cwV 1 hts (fw_gV vTB_good xK_De_answerConnect hl xI_De_answerConnect xS_De_answerConnect N_De) rfl rfl rfl (by decide +kernel) hR
theorem xd_De_answerConnect_0 : decode xb_De_answerConnect 0 = .ok (.aload_n 0, 1) := by decide +kernel
theorem xd_De_answerConnect_1 : decode xb_De_answerConnect 1 = .ok (.getfield 62, 3) := by decide +kernel
theorem xd_De_answerConnect_4 : decode xb_De_answerConnect 4 = .ok (.ifCond .eq 32, 3) := by decide +kernel
theorem xd_De_answerConnect_7 : decode xb_De_answerConnect 7 = .ok (.aload_n 1, 1) := by decide +kernel
theorem xd_De_answerConnect_8 : decode xb_De_answerConnect 8 = .ok (.getfield 98, 3) := by decide +kernel
theorem xd_De_answerConnect_11 : decode xb_De_answerConnect 11 = .ok (.aload_n 0, 1) := by decide +kernel
theorem xd_De_answerConnect_12 : decode xb_De_answerConnect 12 = .ok (.getfield 101, 3) := by decide +kernel
theorem xd_De_answerConnect_15 : decode xb_De_answerConnect 15 = .ok (.if_icmp .eq 21, 3) := by decide +kernel
theorem xd_De_answerConnect_18 : decode xb_De_answerConnect 18 = .ok (.aload_n 0, 1) := by decide +kernel
theorem xd_De_answerConnect_19 : decode xb_De_answerConnect 19 = .ok (.getfield 52, 3) := by decide +kernel
theorem xd_De_answerConnect_22 : decode xb_De_answerConnect 22 = .ok (.iconst 5, 1) := by decide +kernel
theorem xd_De_answerConnect_23 : decode xb_De_answerConnect 23 = .ok (.aload_n 1, 1) := by decide +kernel
theorem xd_De_answerConnect_24 : decode xb_De_answerConnect 24 = .ok (.getfield 98, 3) := by decide +kernel
theorem xd_De_answerConnect_27 : decode xb_De_answerConnect 27 = .ok (.iconst 0, 1) := by decide +kernel
theorem xd_De_answerConnect_28 : decode xb_De_answerConnect 28 = .ok (.iconst 2, 1) := by decide +kernel
theorem xd_De_answerConnect_29 : decode xb_De_answerConnect 29 = .ok (.invokevirtual 138, 3) := by decide +kernel
theorem xd_De_answerConnect_32 : decode xb_De_answerConnect 32 = .ok (.pop, 1) := by decide +kernel
theorem xd_De_answerConnect_33 : decode xb_De_answerConnect 33 = .ok (.goto 41, 3) := by decide +kernel
theorem xd_De_answerConnect_36 : decode xb_De_answerConnect 36 = .ok (.aload_n 0, 1) := by decide +kernel
theorem xd_De_answerConnect_37 : decode xb_De_answerConnect 37 = .ok (.getfield 62, 3) := by decide +kernel
theorem xd_De_answerConnect_40 : decode xb_De_answerConnect 40 = .ok (.ifCond .eq 11, 3) := by decide +kernel
theorem xd_De_answerConnect_43 : decode xb_De_answerConnect 43 = .ok (.aload_n 0, 1) := by decide +kernel
theorem xd_De_answerConnect_44 : decode xb_De_answerConnect 44 = .ok (.getfield 62, 3) := by decide +kernel
theorem xd_De_answerConnect_47 : decode xb_De_answerConnect 47 = .ok (.iconst 1, 1) := by decide +kernel
theorem xd_De_answerConnect_48 : decode xb_De_answerConnect 48 = .ok (.if_icmp .ne 26, 3) := by decide +kernel
theorem xd_De_answerConnect_51 : decode xb_De_answerConnect 51 = .ok (.aload_n 0, 1) := by decide +kernel
theorem xd_De_answerConnect_52 : decode xb_De_answerConnect 52 = .ok (.aload_n 1, 1) := by decide +kernel
theorem xd_De_answerConnect_53 : decode xb_De_answerConnect 53 = .ok (.invokevirtual 147, 3) := by decide +kernel
theorem xd_De_answerConnect_56 : decode xb_De_answerConnect 56 = .ok (.aload_n 0, 1) := by decide +kernel
theorem xd_De_answerConnect_57 : decode xb_De_answerConnect 57 = .ok (.getfield 52, 3) := by decide +kernel
theorem xd_De_answerConnect_60 : decode xb_De_answerConnect 60 = .ok (.iconst 4, 1) := by decide +kernel
theorem xd_De_answerConnect_61 : decode xb_De_answerConnect 61 = .ok (.aload_n 0, 1) := by decide +kernel
theorem xd_De_answerConnect_62 : decode xb_De_answerConnect 62 = .ok (.getfield 101, 3) := by decide +kernel
theorem xd_De_answerConnect_65 : decode xb_De_answerConnect 65 = .ok (.aload_n 0, 1) := by decide +kernel
theorem xd_De_answerConnect_66 : decode xb_De_answerConnect 66 = .ok (.getfield 72, 3) := by decide +kernel
theorem xd_De_answerConnect_69 : decode xb_De_answerConnect 69 = .ok (.iconst 2, 1) := by decide +kernel
theorem xd_De_answerConnect_70 : decode xb_De_answerConnect 70 = .ok (.invokevirtual 138, 3) := by decide +kernel
theorem xd_De_answerConnect_73 : decode xb_De_answerConnect 73 = .ok (.pop, 1) := by decide +kernel
theorem xd_De_answerConnect_74 : decode xb_De_answerConnect 74 = .ok (.return_, 1) := by decide +kernel
