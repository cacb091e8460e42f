abbrev xb_De_keepParameter : ByteArray := prog_5_method_11_code
def xy_De_keepParameter : MethodName := ⟨R_De, "keepParameter", "(LFieldRelay$Frame;)V"⟩
abbrev xrm_De_keepParameter : Room := { frames := 3, cells := 0, slots := 0, locals := 72 }
theorem xK_De_keepParameter : Cond.code xy_De_keepParameter xb_De_keepParameter 2 none ∈ vTB := vTB_in 576 (by decide +kernel) rfl
theorem xI_De_keepParameter : Cond.instanceMethod xy_De_keepParameter ∈ vTB := vTB_in 575 (by decide +kernel) rfl
theorem xS_De_keepParameter : Cond.selects R_De xy_De_keepParameter xy_De_keepParameter ∈ vTB := vTB_sel (q := (xy_De_keepParameter, 19)) 19 (by decide +kernel)
theorem xw_De_keepParameter {R : Room} {s : State} {args : Array Value} {own : String} {index : Nat} (hts : ∀ w ∈ vTB, w.before args s = true) (hl : Cond.methodLink own index xy_De_keepParameter ∈ vTB) (hR : xrm_De_keepParameter.frames + 1 ≤ R.frames ∧ 8 + (2 + 11) + xrm_De_keepParameter.locals ≤ R.locals) : CallW R s args own R_De index xy_De_keepParameter xb_De_keepParameter 2 none (Cond.code xy_De_keepParameter xb_De_keepParameter 2 none :: vTB) xrm_De_keepParameter 0 0 1 := cwV 1 hts (fw_gV vTB_good xK_De_keepParameter hl xI_De_keepParameter xS_De_keepParameter N_De) rfl rfl rfl (by decide +kernel) hR
theorem xd_De_keepParameter_0 : decode xb_De_keepParameter 0 = .ok (.aload_n 0, 1) := by decide +kernel
theorem xd_De_keepParameter_1 : decode xb_De_keepParameter 1 = .ok (.getfield 62, 3) := by decide +kernel
theorem xd_De_keepParameter_4 : decode xb_De_keepParameter 4 = .ok (.iconst 1, 1) := by decide +kernel
theorem xd_De_keepParameter_5 : decode xb_De_keepParameter 5 = .ok (.if_icmp .ne 52, 3) := by decide +kernel
theorem xd_De_keepParameter_8 : decode xb_De_keepParameter 8 = .ok (.aload_n 1, 1) := by decide +kernel
theorem xd_De_keepParameter_9 : decode xb_De_keepParameter 9 = .ok (.getfield 88, 3) := by decide +kernel
theorem xd_De_keepParameter_12 : decode xb_De_keepParameter 12 = .ok (.invokestatic 150, 3) := by decide +kernel
theorem xd_De_keepParameter_15 : decode xb_De_keepParameter 15 = .ok (.ifCond .eq 42, 3) := by decide +kernel
theorem xd_De_keepParameter_18 : decode xb_De_keepParameter 18 = .ok (.aload_n 0, 1) := by decide +kernel
theorem xd_De_keepParameter_19 : decode xb_De_keepParameter 19 = .ok (.getfield 42, 3) := by decide +kernel
theorem xd_De_keepParameter_22 : decode xb_De_keepParameter 22 = .ok (.aload_n 1, 1) := by decide +kernel
theorem xd_De_keepParameter_23 : decode xb_De_keepParameter 23 = .ok (.getfield 88, 3) := by decide +kernel
theorem xd_De_keepParameter_26 : decode xb_De_keepParameter 26 = .ok (.aload_n 1, 1) := by decide +kernel
theorem xd_De_keepParameter_27 : decode xb_De_keepParameter 27 = .ok (.getfield 144, 3) := by decide +kernel
theorem xd_De_keepParameter_30 : decode xb_De_keepParameter 30 = .ok (.iconst 0, 1) := by decide +kernel
theorem xd_De_keepParameter_31 : decode xb_De_keepParameter 31 = .ok (.iaload, 1) := by decide +kernel
theorem xd_De_keepParameter_32 : decode xb_De_keepParameter 32 = .ok (.iastore, 1) := by decide +kernel
theorem xd_De_keepParameter_33 : decode xb_De_keepParameter 33 = .ok (.aload_n 0, 1) := by decide +kernel
theorem xd_De_keepParameter_34 : decode xb_De_keepParameter 34 = .ok (.iconst 0, 1) := by decide +kernel
theorem xd_De_keepParameter_35 : decode xb_De_keepParameter 35 = .ok (.putfield 120, 3) := by decide +kernel
theorem xd_De_keepParameter_38 : decode xb_De_keepParameter 38 = .ok (.aload_n 0, 1) := by decide +kernel
theorem xd_De_keepParameter_39 : decode xb_De_keepParameter 39 = .ok (.getfield 52, 3) := by decide +kernel
theorem xd_De_keepParameter_42 : decode xb_De_keepParameter 42 = .ok (.bipush 7, 2) := by decide +kernel
theorem xd_De_keepParameter_44 : decode xb_De_keepParameter 44 = .ok (.aload_n 0, 1) := by decide +kernel
theorem xd_De_keepParameter_45 : decode xb_De_keepParameter 45 = .ok (.getfield 101, 3) := by decide +kernel
theorem xd_De_keepParameter_48 : decode xb_De_keepParameter 48 = .ok (.aload_n 1, 1) := by decide +kernel
theorem xd_De_keepParameter_49 : decode xb_De_keepParameter 49 = .ok (.getfield 88, 3) := by decide +kernel
theorem xd_De_keepParameter_52 : decode xb_De_keepParameter 52 = .ok (.iconst 2, 1) := by decide +kernel
theorem xd_De_keepParameter_53 : decode xb_De_keepParameter 53 = .ok (.invokevirtual 138, 3) := by decide +kernel
theorem xd_De_keepParameter_56 : decode xb_De_keepParameter 56 = .ok (.pop, 1) := by decide +kernel
theorem xd_De_keepParameter_57 : decode xb_De_keepParameter 57 = .ok (.return_, 1) := by decide +kernel
abbrev xb_De_isGood : ByteArray := prog_5_method_19_code
def xy_De_isGood : MethodName := ⟨R_De, "isGood", "(I)Z"⟩
abbrev xrm_De_isGood : Room := { frames := 1, cells := 0, slots := 0, locals := 21 }
theorem xK_De_isGood : Cond.code xy_De_isGood xb_De_isGood 2 (some .boolean) ∈ vTB := vTB_in 589 (by decide +kernel) rfl
theorem xI_De_isGood : Cond.instanceMethod xy_De_isGood ∈ vTB := vTB_in 588 (by decide +kernel) rfl
theorem xS_De_isGood : Cond.selects R_De xy_De_isGood xy_De_isGood ∈ vTB := vTB_sel (q := (xy_De_isGood, 19)) 22 (by decide +kernel)
theorem xw_De_isGood {R : Room} {s : State} {args : Array Value} {own : String} {index : Nat} (hts : ∀ w ∈ vTB, w.before args s = true) (hl : Cond.methodLink own index xy_De_isGood ∈ vTB) (hR : xrm_De_isGood.frames + 1 ≤ R.frames ∧ 8 + (2 + 11) + xrm_De_isGood.locals ≤ R.locals) : CallW R s args own R_De index xy_De_isGood xb_De_isGood 2 (some .boolean) (Cond.code xy_De_isGood xb_De_isGood 2 (some .boolean) :: vTB) xrm_De_isGood 0 0 1 := cwV 1 hts (fw_gV vTB_good xK_De_isGood hl xI_De_isGood xS_De_isGood N_De) rfl rfl rfl (by decide +kernel) hR
theorem xd_De_isGood_0 : decode xb_De_isGood 0 = .ok (.aload_n 0, 1) := by decide +kernel
theorem xd_De_isGood_1 : decode xb_De_isGood 1 = .ok (.getfield 39, 3) := by decide +kernel
theorem xd_De_isGood_4 : decode xb_De_isGood 4 = .ok (.iload_n 1, 1) := by decide +kernel
theorem xd_De_isGood_5 : decode xb_De_isGood 5 = .ok (.iaload, 1) := by decide +kernel
theorem xd_De_isGood_6 : decode xb_De_isGood 6 = .ok (.iconst (-1), 1) := by decide +kernel
theorem xd_De_isGood_7 : decode xb_De_isGood 7 = .ok (.if_icmp .eq 18, 3) := by decide +kernel
theorem xd_De_isGood_10 : decode xb_De_isGood 10 = .ok (.aload_n 0, 1) := by decide +kernel
theorem xd_De_isGood_11 : decode xb_De_isGood 11 = .ok (.getfield 72, 3) := by decide +kernel
theorem xd_De_isGood_14 : decode xb_De_isGood 14 = .ok (.iload_n 1, 1) := by decide +kernel
theorem xd_De_isGood_15 : decode xb_De_isGood 15 = .ok (.invokestatic 190, 3) := by decide +kernel
theorem xd_De_isGood_18 : decode xb_De_isGood 18 = .ok (.ifCond .ne 7, 3) := by decide +kernel
theorem xd_De_isGood_21 : decode xb_De_isGood 21 = .ok (.iconst 1, 1) := by decide +kernel
theorem xd_De_isGood_22 : decode xb_De_isGood 22 = .ok (.goto 4, 3) := by decide +kernel
theorem xd_De_isGood_25 : decode xb_De_isGood 25 = .ok (.iconst 0, 1) := by decide +kernel
theorem xd_De_isGood_26 : decode xb_De_isGood 26 = .ok (.ireturn, 1) := by decide +kernel
abbrev xb_De_lacksParameter : ByteArray := prog_5_method_13_code
def xy_De_lacksParameter : MethodName := ⟨R_De, "lacksParameter", "()Z"⟩
abbrev xrm_De_lacksParameter : Room := { frames := 2, cells := 0, slots := 0, locals := 42 }
theorem xK_De_lacksParameter : Cond.code xy_De_lacksParameter xb_De_lacksParameter 2 (some .boolean) ∈ vTB := vTB_in 585 (by decide +kernel) rfl
theorem xI_De_lacksParameter : Cond.instanceMethod xy_De_lacksParameter ∈ vTB := vTB_in 584 (by decide +kernel) rfl
theorem xS_De_lacksParameter : Cond.selects R_De xy_De_lacksParameter xy_De_lacksParameter ∈ vTB := vTB_sel (q := (xy_De_lacksParameter, 19)) 21 (by decide +kernel)
theorem xw_De_lacksParameter {R : Room} {s : State} {args : Array Value} {own : String} {index : Nat} (hts : ∀ w ∈ vTB, w.before args s = true) (hl : Cond.methodLink own index xy_De_lacksParameter ∈ vTB) (hR : xrm_De_lacksParameter.frames + 1 ≤ R.frames ∧ 8 + (2 + 11) + xrm_De_lacksParameter.locals ≤ R.locals) : CallW R s args own R_De index xy_De_lacksParameter xb_De_lacksParameter 2 (some .boolean) (Cond.code xy_De_lacksParameter xb_De_lacksParameter 2 (some .boolean) :: vTB) xrm_De_lacksParameter 0 0 0 := cwV 0 hts (fw_gV vTB_good xK_De_lacksParameter hl xI_De_lacksParameter xS_De_lacksParameter N_De) rfl rfl rfl (by decide +kernel) hR
theorem xd_De_lacksParameter_0 : decode xb_De_lacksParameter 0 = .ok (.iconst 0, 1) := by decide +kernel
theorem xd_De_lacksParameter_1 : decode xb_De_lacksParameter 1 = .ok (.istore_n 1, 1) := by decide +kernel
theorem xd_De_lacksParameter_2 : decode xb_De_lacksParameter 2 = .ok (.iload_n 1, 1) := by decide +kernel
theorem xd_De_lacksParameter_3 : decode xb_De_lacksParameter 3 = .ok (.iconst 3, 1) := by decide +kernel
theorem xd_De_lacksParameter_4 : decode xb_De_lacksParameter 4 = .ok (.if_icmp .ge 45, 3) := by decide +kernel
theorem xd_De_lacksParameter_7 : decode xb_De_lacksParameter 7 = .ok (.aload_n 0, 1) := by decide +kernel
theorem xd_De_lacksParameter_8 : decode xb_De_lacksParameter 8 = .ok (.iload_n 1, 1) := by decide +kernel
theorem xd_De_lacksParameter_9 : decode xb_De_lacksParameter 9 = .ok (.invokevirtual 164, 3) := by decide +kernel
theorem xd_De_lacksParameter_12 : decode xb_De_lacksParameter 12 = .ok (.ifCond .eq 31, 3) := by decide +kernel
theorem xd_De_lacksParameter_15 : decode xb_De_lacksParameter 15 = .ok (.aload_n 0, 1) := by decide +kernel
theorem xd_De_lacksParameter_16 : decode xb_De_lacksParameter 16 = .ok (.getfield 48, 3) := by decide +kernel
theorem xd_De_lacksParameter_19 : decode xb_De_lacksParameter 19 = .ok (.aload_n 0, 1) := by decide +kernel
theorem xd_De_lacksParameter_20 : decode xb_De_lacksParameter 20 = .ok (.getfield 39, 3) := by decide +kernel
theorem xd_De_lacksParameter_23 : decode xb_De_lacksParameter 23 = .ok (.iload_n 1, 1) := by decide +kernel
theorem xd_De_lacksParameter_24 : decode xb_De_lacksParameter 24 = .ok (.iaload, 1) := by decide +kernel
theorem xd_De_lacksParameter_25 : decode xb_De_lacksParameter 25 = .ok (.invokevirtual 167, 3) := by decide +kernel
theorem xd_De_lacksParameter_28 : decode xb_De_lacksParameter 28 = .ok (.ifCond .eq 15, 3) := by decide +kernel
theorem xd_De_lacksParameter_31 : decode xb_De_lacksParameter 31 = .ok (.aload_n 0, 1) := by decide +kernel
theorem xd_De_lacksParameter_32 : decode xb_De_lacksParameter 32 = .ok (.getfield 42, 3) := by decide +kernel
theorem xd_De_lacksParameter_35 : decode xb_De_lacksParameter 35 = .ok (.iload_n 1, 1) := by decide +kernel
theorem xd_De_lacksParameter_36 : decode xb_De_lacksParameter 36 = .ok (.iaload, 1) := by decide +kernel
theorem xd_De_lacksParameter_37 : decode xb_De_lacksParameter 37 = .ok (.iconst (-1), 1) := by decide +kernel
theorem xd_De_lacksParameter_38 : decode xb_De_lacksParameter 38 = .ok (.if_icmp .ne 5, 3) := by decide +kernel
theorem xd_De_lacksParameter_41 : decode xb_De_lacksParameter 41 = .ok (.iconst 1, 1) := by decide +kernel
theorem xd_De_lacksParameter_42 : decode xb_De_lacksParameter 42 = .ok (.ireturn, 1) := by decide +kernel
theorem xd_De_lacksParameter_43 : decode xb_De_lacksParameter 43 = .ok (.iinc 1 1, 3) := by decide +kernel
theorem xd_De_lacksParameter_46 : decode xb_De_lacksParameter 46 = .ok (.goto (-44), 3) := by decide +kernel
theorem xd_De_lacksParameter_49 : decode xb_De_lacksParameter 49 = .ok (.iconst 0, 1) := by decide +kernel
theorem xd_De_lacksParameter_50 : decode xb_De_lacksParameter 50 = .ok (.ireturn, 1) := by decide +kernel
abbrev xb_AQ_clear : ByteArray := prog_3_method_2_code
def xy_AQ_clear : MethodName := ⟨R_AQ, "clear", "()V"⟩
abbrev xrm_AQ_clear : Room := { frames := 0, cells := 0, slots := 0, locals := 0 }
theorem xK_AQ_clear : Cond.code xy_AQ_clear xb_AQ_clear 1 none ∈ vTB := vTB_in 603 (by decide +kernel) rfl
theorem xI_AQ_clear : Cond.instanceMethod xy_AQ_clear ∈ vTB := vTB_in 601 (by decide +kernel) rfl
theorem xS_AQ_clear : Cond.selects R_AQ xy_AQ_clear xy_AQ_clear ∈ vTB := vTB_in 602 (by decide +kernel) rfl
theorem xw_AQ_clear {R : Room} {s : State} {args : Array Value} {own : String} {index : Nat} (hts : ∀ w ∈ vTB, w.before args s = true) (hl : Cond.methodLink own index xy_AQ_clear ∈ vTB) (hR : xrm_AQ_clear.frames + 1 ≤ R.frames ∧ 8 + (1 + 11) + xrm_AQ_clear.locals ≤ R.locals) : CallW R s args own R_AQ index xy_AQ_clear xb_AQ_clear 1 none (Cond.code xy_AQ_clear xb_AQ_clear 1 none :: vTB) xrm_AQ_clear 0 0 0 := cwV 0 hts (fw_gV vTB_good xK_AQ_clear hl xI_AQ_clear xS_AQ_clear N_AQ) rfl rfl rfl (by decide +kernel) hR
theorem xd_AQ_clear_0 : decode xb_AQ_clear 0 = .ok (.aload_n 0, 1) := by decide +kernel
theorem xd_AQ_clear_1 : decode xb_AQ_clear 1 = .ok (.iconst 0, 1) := by decide +kernel
theorem xd_AQ_clear_2 : decode xb_AQ_clear 2 = .ok (.putfield 16, 3) := by decide +kernel
theorem xd_AQ_clear_5 : decode xb_AQ_clear 5 = .ok (.aload_n 0, 1) := by decide +kernel
theorem xd_AQ_clear_6 : decode xb_AQ_clear 6 = .ok (.iconst 0, 1) := by decide +kernel
theorem xd_AQ_clear_7 : decode xb_AQ_clear 7 = .ok (.putfield 20, 3) := by decide +kernel
theorem xd_AQ_clear_10 : decode xb_AQ_clear 10 = .ok (.aload_n 0, 1) := by decide +kernel
theorem xd_AQ_clear_11 : decode xb_AQ_clear 11 = .ok (.iconst 0, 1) := by decide +kernel
theorem xd_AQ_clear_12 : decode xb_AQ_clear 12 = .ok (.putfield 23, 3) := by decide +kernel
theorem xd_AQ_clear_15 : decode xb_AQ_clear 15 = .ok (.return_, 1) := by decide +kernel
abbrev xb_De_becomeIdle : ByteArray := prog_5_method_25_code
def xy_De_becomeIdle : MethodName := ⟨R_De, "becomeIdle", "()V"⟩
abbrev xrm_De_becomeIdle : Room := { frames := 2, cells := 0, slots := 0, locals := 45 }
theorem xK_De_becomeIdle : Cond.code xy_De_becomeIdle xb_De_becomeIdle 2 none ∈ vTB := vTB_in 599 (by decide +kernel) rfl
theorem xI_De_becomeIdle : Cond.instanceMethod xy_De_becomeIdle ∈ vTB := vTB_in 598 (by decide +kernel) rfl
theorem xS_De_becomeIdle : Cond.selects R_De xy_De_becomeIdle xy_De_becomeIdle ∈ vTB := vTB_sel (q := (xy_De_becomeIdle, 19)) 24 (by decide +kernel)
theorem xw_De_becomeIdle {R : Room} {s : State} {args : Array Value} {own : String} {index : Nat} (hts : ∀ w ∈ vTB, w.before args s = true) (hl : Cond.methodLink own index xy_De_becomeIdle ∈ vTB) (hR : xrm_De_becomeIdle.frames + 1 ≤ R.frames ∧ 8 + (2 + 11) + xrm_De_becomeIdle.locals ≤ R.locals) : CallW R s args own R_De index xy_De_becomeIdle xb_De_becomeIdle 2 none (Cond.code xy_De_becomeIdle xb_De_becomeIdle 2 none :: vTB) xrm_De_becomeIdle 0 0 0 := cwV 0 hts (fw_gV vTB_good xK_De_becomeIdle hl xI_De_becomeIdle xS_De_becomeIdle N_De) rfl rfl rfl (by decide +kernel) hR
theorem xd_De_becomeIdle_0 : decode xb_De_becomeIdle 0 = .ok (.aload_n 0, 1) := by decide +kernel
theorem xd_De_becomeIdle_1 : decode xb_De_becomeIdle 1 = .ok (.getfield 62, 3) := by decide +kernel
theorem xd_De_becomeIdle_4 : decode xb_De_becomeIdle 4 = .ok (.iconst 3, 1) := by decide +kernel
theorem xd_De_becomeIdle_5 : decode xb_De_becomeIdle 5 = .ok (.if_icmp .ne 21, 3) := by decide +kernel
theorem xd_De_becomeIdle_8 : decode xb_De_becomeIdle 8 = .ok (.iconst 0, 1) := by decide +kernel
theorem xd_De_becomeIdle_9 : decode xb_De_becomeIdle 9 = .ok (.istore_n 1, 1) := by decide +kernel
theorem xd_De_becomeIdle_10 : decode xb_De_becomeIdle 10 = .ok (.iload_n 1, 1) := by decide +kernel
theorem xd_De_becomeIdle_11 : decode xb_De_becomeIdle 11 = .ok (.iconst 3, 1) := by decide +kernel
theorem xd_De_becomeIdle_12 : decode xb_De_becomeIdle 12 = .ok (.if_icmp .ge 14, 3) := by decide +kernel
theorem xd_De_becomeIdle_15 : decode xb_De_becomeIdle 15 = .ok (.aload_n 0, 1) := by decide +kernel
theorem xd_De_becomeIdle_16 : decode xb_De_becomeIdle 16 = .ok (.iload_n 1, 1) := by decide +kernel
theorem xd_De_becomeIdle_17 : decode xb_De_becomeIdle 17 = .ok (.invokevirtual 68, 3) := by decide +kernel
theorem xd_De_becomeIdle_20 : decode xb_De_becomeIdle 20 = .ok (.iinc 1 1, 3) := by decide +kernel
theorem xd_De_becomeIdle_23 : decode xb_De_becomeIdle 23 = .ok (.goto (-13), 3) := by decide +kernel
theorem xd_De_becomeIdle_26 : decode xb_De_becomeIdle 26 = .ok (.aload_n 0, 1) := by decide +kernel
theorem xd_De_becomeIdle_27 : decode xb_De_becomeIdle 27 = .ok (.iconst 0, 1) := by decide +kernel
theorem xd_De_becomeIdle_28 : decode xb_De_becomeIdle 28 = .ok (.putfield 62, 3) := by decide +kernel
theorem xd_De_becomeIdle_31 : decode xb_De_becomeIdle 31 = .ok (.aload_n 0, 1) := by decide +kernel
theorem xd_De_becomeIdle_32 : decode xb_De_becomeIdle 32 = .ok (.iconst 0, 1) := by decide +kernel
theorem xd_De_becomeIdle_33 : decode xb_De_becomeIdle 33 = .ok (.putfield 101, 3) := by decide +kernel
theorem xd_De_becomeIdle_36 : decode xb_De_becomeIdle 36 = .ok (.aload_n 0, 1) := by decide +kernel
theorem xd_De_becomeIdle_37 : decode xb_De_becomeIdle 37 = .ok (.iconst 0, 1) := by decide +kernel
theorem xd_De_becomeIdle_38 : decode xb_De_becomeIdle 38 = .ok (.putfield 120, 3) := by decide +kernel
theorem xd_De_becomeIdle_41 : decode xb_De_becomeIdle 41 = .ok (.aload_n 0, 1) := by decide +kernel
theorem xd_De_becomeIdle_42 : decode xb_De_becomeIdle 42 = .ok (.iconst 0, 1) := by decide +kernel
theorem xd_De_becomeIdle_43 : decode xb_De_becomeIdle 43 = .ok (.putfield 72, 3) := by decide +kernel
theorem xd_De_becomeIdle_46 : decode xb_De_becomeIdle 46 = .ok (.aload_n 0, 1) := by decide +kernel
theorem xd_De_becomeIdle_47 : decode xb_De_becomeIdle 47 = .ok (.getfield 21, 3) := by decide +kernel
theorem xd_De_becomeIdle_50 : decode xb_De_becomeIdle 50 = .ok (.invokevirtual 222, 3) := by decide +kernel
theorem xd_De_becomeIdle_53 : decode xb_De_becomeIdle 53 = .ok (.aload_n 0, 1) := by decide +kernel
theorem xd_De_becomeIdle_54 : decode xb_De_becomeIdle 54 = .ok (.getfield 42, 3) := by decide +kernel
theorem xd_De_becomeIdle_57 : decode xb_De_becomeIdle 57 = .ok (.iconst (-1), 1) := by decide +kernel
theorem xd_De_becomeIdle_58 : decode xb_De_becomeIdle 58 = .ok (.invokestatic 56, 3) := by decide +kernel
theorem xd_De_becomeIdle_61 : decode xb_De_becomeIdle 61 = .ok (.return_, 1) := by decide +kernel
abbrev xb_De_abort : ByteArray := prog_5_method_24_code
def xy_De_abort : MethodName := ⟨R_De, "abort", "()V"⟩
abbrev xrm_De_abort : Room := { frames := 3, cells := 0, slots := 0, locals := 72 }
theorem xK_De_abort : Cond.code xy_De_abort xb_De_abort 1 none ∈ vTB := vTB_in 595 (by decide +kernel) rfl
theorem xI_De_abort : Cond.instanceMethod xy_De_abort ∈ vTB := vTB_in 594 (by decide +kernel) rfl
theorem xS_De_abort : Cond.selects R_De xy_De_abort xy_De_abort ∈ vTB := vTB_sel (q := (xy_De_abort, 19)) 23 (by decide +kernel)
theorem xw_De_abort {R : Room} {s : State} {args : Array Value} {own : String} {index : Nat} (hts : ∀ w ∈ vTB, w.before args s = true) (hl : Cond.methodLink own index xy_De_abort ∈ vTB) (hR : xrm_De_abort.frames + 1 ≤ R.frames ∧ 8 + (1 + 11) + xrm_De_abort.locals ≤ R.locals) : CallW R s args own R_De index xy_De_abort xb_De_abort 1 none (Cond.code xy_De_abort xb_De_abort 1 none :: vTB) xrm_De_abort 0 0 0 := cwV 0 hts (fw_gV vTB_good xK_De_abort hl xI_De_abort xS_De_abort N_De) rfl rfl rfl (by decide +kernel) hR
theorem xd_De_abort_0 : decode xb_De_abort 0 = .ok (.aload_n 0, 1) := by decide +kernel
theorem xd_De_abort_1 : decode xb_De_abort 1 = .ok (.getfield 52, 3) := by decide +kernel
theorem xd_De_abort_4 : decode xb_De_abort 4 = .ok (.bipush 16, 2) := by decide +kernel
theorem xd_De_abort_6 : decode xb_De_abort 6 = .ok (.aload_n 0, 1) := by decide +kernel
theorem xd_De_abort_7 : decode xb_De_abort 7 = .ok (.getfield 101, 3) := by decide +kernel
theorem xd_De_abort_10 : decode xb_De_abort 10 = .ok (.iconst 0, 1) := by decide +kernel
theorem xd_De_abort_11 : decode xb_De_abort 11 = .ok (.iconst 2, 1) := by decide +kernel
theorem xd_De_abort_12 : decode xb_De_abort 12 = .ok (.invokevirtual 138, 3) := by decide +kernel
theorem xd_De_abort_15 : decode xb_De_abort 15 = .ok (.pop, 1) := by decide +kernel
theorem xd_De_abort_16 : decode xb_De_abort 16 = .ok (.aload_n 0, 1) := by decide +kernel
theorem xd_De_abort_17 : decode xb_De_abort 17 = .ok (.invokevirtual 117, 3) := by decide +kernel
theorem xd_De_abort_20 : decode xb_De_abort 20 = .ok (.return_, 1) := by decide +kernel
abbrev xb_De_answerEnd : ByteArray := prog_5_method_12_code
def xy_De_answerEnd : MethodName := ⟨R_De, "answerEnd", "()V"⟩
abbrev xrm_De_answerEnd : Room := { frames := 4, cells := 0, slots := 0, locals := 92 }
theorem xK_De_answerEnd : Cond.code xy_De_answerEnd xb_De_answerEnd 1 none ∈ vTB := vTB_in 581 (by decide +kernel) rfl
theorem xI_De_answerEnd : Cond.instanceMethod xy_De_answerEnd ∈ vTB := vTB_in 580 (by decide +kernel) rfl
theorem xS_De_answerEnd : Cond.selects R_De xy_De_answerEnd xy_De_answerEnd ∈ vTB := vTB_sel (q := (xy_De_answerEnd, 19)) 20 (by decide +kernel)
theorem xw_De_answerEnd {R : Room} {s : State} {args : Array Value} {own : String} {index : Nat} (hts : ∀ w ∈ vTB, w.before args s = true) (hl : Cond.methodLink own index xy_De_answerEnd ∈ vTB) (hR : xrm_De_answerEnd.frames + 1 ≤ R.frames ∧ 8 + (1 + 11) + xrm_De_answerEnd.locals ≤ R.locals) : CallW R s args own R_De index xy_De_answerEnd xb_De_answerEnd 1 none (Cond.code xy_De_answerEnd xb_De_answerEnd 1 none :: vTB) xrm_De_answerEnd 0 0 0 := cwV 0 hts (fw_gV vTB_good xK_De_answerEnd hl xI_De_answerEnd xS_De_answerEnd N_De) rfl rfl rfl (by decide +kernel) hR
theorem xd_De_answerEnd_0 : decode xb_De_answerEnd 0 = .ok (.aload_n 0, 1) := by decide +kernel
theorem xd_De_answerEnd_1 : decode xb_De_answerEnd 1 = .ok (.getfield 62, 3) := by decide +kernel
theorem xd_De_answerEnd_4 : decode xb_De_answerEnd 4 = .ok (.iconst 1, 1) := by decide +kernel
theorem xd_De_answerEnd_5 : decode xb_De_answerEnd 5 = .ok (.if_icmp .ne 17, 3) := by decide +kernel
theorem xd_De_answerEnd_8 : decode xb_De_answerEnd 8 = .ok (.aload_n 0, 1) := by decide +kernel
theorem xd_De_answerEnd_9 : decode xb_De_answerEnd 9 = .ok (.invokevirtual 154, 3) := by decide +kernel
theorem xd_De_answerEnd_12 : decode xb_De_answerEnd 12 = .ok (.ifCond .eq 10, 3) := by decide +kernel
theorem xd_De_answerEnd_15 : decode xb_De_answerEnd 15 = .ok (.aload_n 0, 1) := by decide +kernel
theorem xd_De_answerEnd_16 : decode xb_De_answerEnd 16 = .ok (.invokevirtual 158, 3) := by decide +kernel
theorem xd_De_answerEnd_19 : decode xb_De_answerEnd 19 = .ok (.goto 85, 3) := by decide +kernel
theorem xd_De_answerEnd_22 : decode xb_De_answerEnd 22 = .ok (.aload_n 0, 1) := by decide +kernel
theorem xd_De_answerEnd_23 : decode xb_De_answerEnd 23 = .ok (.getfield 62, 3) := by decide +kernel
theorem xd_De_answerEnd_26 : decode xb_De_answerEnd 26 = .ok (.iconst 1, 1) := by decide +kernel
theorem xd_De_answerEnd_27 : decode xb_De_answerEnd 27 = .ok (.if_icmp .ne 53, 3) := by decide +kernel
theorem xd_De_answerEnd_30 : decode xb_De_answerEnd 30 = .ok (.aload_n 0, 1) := by decide +kernel
theorem xd_De_answerEnd_31 : decode xb_De_answerEnd 31 = .ok (.iconst 2, 1) := by decide +kernel
theorem xd_De_answerEnd_32 : decode xb_De_answerEnd 32 = .ok (.putfield 62, 3) := by decide +kernel
theorem xd_De_answerEnd_35 : decode xb_De_answerEnd 35 = .ok (.aload_n 0, 1) := by decide +kernel
theorem xd_De_answerEnd_36 : decode xb_De_answerEnd 36 = .ok (.iconst 0, 1) := by decide +kernel
theorem xd_De_answerEnd_37 : decode xb_De_answerEnd 37 = .ok (.putfield 120, 3) := by decide +kernel
theorem xd_De_answerEnd_40 : decode xb_De_answerEnd 40 = .ok (.aload_n 0, 1) := by decide +kernel
theorem xd_De_answerEnd_41 : decode xb_De_answerEnd 41 = .ok (.iconst 0, 1) := by decide +kernel
theorem xd_De_answerEnd_42 : decode xb_De_answerEnd 42 = .ok (.putfield 161, 3) := by decide +kernel
theorem xd_De_answerEnd_45 : decode xb_De_answerEnd 45 = .ok (.aload_n 0, 1) := by decide +kernel
theorem xd_De_answerEnd_46 : decode xb_De_answerEnd 46 = .ok (.getfield 52, 3) := by decide +kernel
theorem xd_De_answerEnd_49 : decode xb_De_answerEnd 49 = .ok (.bipush 9, 2) := by decide +kernel
theorem xd_De_answerEnd_51 : decode xb_De_answerEnd 51 = .ok (.aload_n 0, 1) := by decide +kernel
theorem xd_De_answerEnd_52 : decode xb_De_answerEnd 52 = .ok (.getfield 101, 3) := by decide +kernel
theorem xd_De_answerEnd_55 : decode xb_De_answerEnd 55 = .ok (.iconst 0, 1) := by decide +kernel
theorem xd_De_answerEnd_56 : decode xb_De_answerEnd 56 = .ok (.iconst 2, 1) := by decide +kernel
theorem xd_De_answerEnd_57 : decode xb_De_answerEnd 57 = .ok (.invokevirtual 138, 3) := by decide +kernel
theorem xd_De_answerEnd_60 : decode xb_De_answerEnd 60 = .ok (.pop, 1) := by decide +kernel
theorem xd_De_answerEnd_61 : decode xb_De_answerEnd 61 = .ok (.aload_n 0, 1) := by decide +kernel
theorem xd_De_answerEnd_62 : decode xb_De_answerEnd 62 = .ok (.getfield 52, 3) := by decide +kernel
theorem xd_De_answerEnd_65 : decode xb_De_answerEnd 65 = .ok (.bipush 10, 2) := by decide +kernel
theorem xd_De_answerEnd_67 : decode xb_De_answerEnd 67 = .ok (.aload_n 0, 1) := by decide +kernel
theorem xd_De_answerEnd_68 : decode xb_De_answerEnd 68 = .ok (.getfield 101, 3) := by decide +kernel
theorem xd_De_answerEnd_71 : decode xb_De_answerEnd 71 = .ok (.iconst 0, 1) := by decide +kernel
theorem xd_De_answerEnd_72 : decode xb_De_answerEnd 72 = .ok (.iconst 2, 1) := by decide +kernel
theorem xd_De_answerEnd_73 : decode xb_De_answerEnd 73 = .ok (.invokevirtual 138, 3) := by decide +kernel
theorem xd_De_answerEnd_76 : decode xb_De_answerEnd 76 = .ok (.pop, 1) := by decide +kernel
theorem xd_De_answerEnd_77 : decode xb_De_answerEnd 77 = .ok (.goto 27, 3) := by decide +kernel
theorem xd_De_answerEnd_80 : decode xb_De_answerEnd 80 = .ok (.aload_n 0, 1) := by decide +kernel
theorem xd_De_answerEnd_81 : decode xb_De_answerEnd 81 = .ok (.getfield 62, 3) := by decide +kernel
theorem xd_De_answerEnd_84 : decode xb_De_answerEnd 84 = .ok (.iconst 2, 1) := by decide +kernel
theorem xd_De_answerEnd_85 : decode xb_De_answerEnd 85 = .ok (.if_icmp .ne 19, 3) := by decide +kernel
theorem xd_De_answerEnd_88 : decode xb_De_answerEnd 88 = .ok (.aload_n 0, 1) := by decide +kernel
theorem xd_De_answerEnd_89 : decode xb_De_answerEnd 89 = .ok (.getfield 52, 3) := by decide +kernel
theorem xd_De_answerEnd_92 : decode xb_De_answerEnd 92 = .ok (.bipush 9, 2) := by decide +kernel
theorem xd_De_answerEnd_94 : decode xb_De_answerEnd 94 = .ok (.aload_n 0, 1) := by decide +kernel
theorem xd_De_answerEnd_95 : decode xb_De_answerEnd 95 = .ok (.getfield 101, 3) := by decide +kernel
theorem xd_De_answerEnd_98 : decode xb_De_answerEnd 98 = .ok (.iconst 0, 1) := by decide +kernel
theorem xd_De_answerEnd_99 : decode xb_De_answerEnd 99 = .ok (.iconst 2, 1) := by decide +kernel
theorem xd_De_answerEnd_100 : decode xb_De_answerEnd 100 = .ok (.invokevirtual 138, 3) := by decide +kernel
theorem xd_De_answerEnd_103 : decode xb_De_answerEnd 103 = .ok (.pop, 1) := by decide +kernel
theorem xd_De_answerEnd_104 : decode xb_De_answerEnd 104 = .ok (.return_, 1) := by decide +kernel
abbrev xb_De_beginData : ByteArray := prog_5_method_15_code
def xy_De_beginData : MethodName := ⟨R_De, "beginData", "()V"⟩
abbrev xrm_De_beginData : Room := { frames := 1, cells := 0, slots := 0, locals := 20 }
theorem xK_De_beginData : Cond.code xy_De_beginData xb_De_beginData 1 none ∈ vTB := vTB_in 607 (by decide +kernel) rfl
theorem xI_De_beginData : Cond.instanceMethod xy_De_beginData ∈ vTB := vTB_in 606 (by decide +kernel) rfl
theorem xS_De_beginData : Cond.selects R_De xy_De_beginData xy_De_beginData ∈ vTB := vTB_sel (q := (xy_De_beginData, 19)) 25 (by decide +kernel)
theorem xw_De_beginData {R : Room} {s : State} {args : Array Value} {own : String} {index : Nat} (hts : ∀ w ∈ vTB, w.before args s = true) (hl : Cond.methodLink own index xy_De_beginData ∈ vTB) (hR : xrm_De_beginData.frames + 1 ≤ R.frames ∧ 8 + (1 + 11) + xrm_De_beginData.locals ≤ R.locals) : CallW R s args own R_De index xy_De_beginData xb_De_beginData 1 none (Cond.code xy_De_beginData xb_De_beginData 1 none :: vTB) xrm_De_beginData 0 0 0 := cwV 0 hts (fw_gV vTB_good xK_De_beginData hl xI_De_beginData xS_De_beginData N_De) rfl rfl rfl (by decide +kernel) hR
theorem xd_De_beginData_0 : decode xb_De_beginData 0 = .ok (.aload_n 0, 1) := by decide +kernel
theorem xd_De_beginData_1 : decode xb_De_beginData 1 = .ok (.getfield 62, 3) := by decide +kernel
theorem xd_De_beginData_4 : decode xb_De_beginData 4 = .ok (.iconst 2, 1) := by decide +kernel
theorem xd_De_beginData_5 : decode xb_De_beginData 5 = .ok (.if_icmp .ne 20, 3) := by decide +kernel
theorem xd_De_beginData_8 : decode xb_De_beginData 8 = .ok (.aload_n 0, 1) := by decide +kernel
theorem xd_De_beginData_9 : decode xb_De_beginData 9 = .ok (.iconst 3, 1) := by decide +kernel
theorem xd_De_beginData_10 : decode xb_De_beginData 10 = .ok (.putfield 62, 3) := by decide +kernel
theorem xd_De_beginData_13 : decode xb_De_beginData 13 = .ok (.aload_n 0, 1) := by decide +kernel
theorem xd_De_beginData_14 : decode xb_De_beginData 14 = .ok (.iconst 0, 1) := by decide +kernel
theorem xd_De_beginData_15 : decode xb_De_beginData 15 = .ok (.putfield 120, 3) := by decide +kernel
theorem xd_De_beginData_18 : decode xb_De_beginData 18 = .ok (.aload_n 0, 1) := by decide +kernel
theorem xd_De_beginData_19 : decode xb_De_beginData 19 = .ok (.getfield 12, 3) := by decide +kernel
theorem xd_De_beginData_22 : decode xb_De_beginData 22 = .ok (.invokevirtual 172, 3) := by decide +kernel
theorem xd_De_beginData_25 : decode xb_De_beginData 25 = .ok (.return_, 1) := by decide +kernel
abbrev xb_De_showRow : ByteArray := prog_5_method_17_code
def xy_De_showRow : MethodName := ⟨R_De, "showRow", "(LFieldRelay$Frame;I)V"⟩
abbrev xrm_De_showRow : Room := { frames := 1, cells := 0, slots := 0, locals := 21 }
theorem xK_De_showRow : Cond.code xy_De_showRow xb_De_showRow 5 none ∈ vTB := vTB_in 617 (by decide +kernel) rfl
theorem xI_De_showRow : Cond.instanceMethod xy_De_showRow ∈ vTB := vTB_in 616 (by decide +kernel) rfl
theorem xS_De_showRow : Cond.selects R_De xy_De_showRow xy_De_showRow ∈ vTB := vTB_sel (q := (xy_De_showRow, 19)) 27 (by decide +kernel)
theorem xw_De_showRow {R : Room} {s : State} {args : Array Value} {own : String} {index : Nat} (hts : ∀ w ∈ vTB, w.before args s = true) (hl : Cond.methodLink own index xy_De_showRow ∈ vTB) (hR : xrm_De_showRow.frames + 1 ≤ R.frames ∧ 8 + (5 + 11) + xrm_De_showRow.locals ≤ R.locals) : CallW R s args own R_De index xy_De_showRow xb_De_showRow 5 none (Cond.code xy_De_showRow xb_De_showRow 5 none :: vTB) xrm_De_showRow 0 0 2 := cwV 2 hts (fw_gV vTB_good xK_De_showRow hl xI_De_showRow xS_De_showRow N_De) rfl rfl rfl (by decide +kernel) hR
theorem xd_De_showRow_0 : decode xb_De_showRow 0 = .ok (.aload_n 0, 1) := by decide +kernel
theorem xd_De_showRow_1 : decode xb_De_showRow 1 = .ok (.getfield 48, 3) := by decide +kernel
theorem xd_De_showRow_4 : decode xb_De_showRow 4 = .ok (.aload_n 0, 1) := by decide +kernel
theorem xd_De_showRow_5 : decode xb_De_showRow 5 = .ok (.getfield 29, 3) := by decide +kernel
theorem xd_De_showRow_8 : decode xb_De_showRow 8 = .ok (.iload_n 2, 1) := by decide +kernel
theorem xd_De_showRow_9 : decode xb_De_showRow 9 = .ok (.iaload, 1) := by decide +kernel
theorem xd_De_showRow_10 : decode xb_De_showRow 10 = .ok (.invokevirtual 182, 3) := by decide +kernel
theorem xd_De_showRow_13 : decode xb_De_showRow 13 = .ok (.istore_n 3, 1) := by decide +kernel
theorem xd_De_showRow_14 : decode xb_De_showRow 14 = .ok (.iconst 0, 1) := by decide +kernel
theorem xd_De_showRow_15 : decode xb_De_showRow 15 = .ok (.istore 4, 2) := by decide +kernel
theorem xd_De_showRow_17 : decode xb_De_showRow 17 = .ok (.iload 4, 2) := by decide +kernel
theorem xd_De_showRow_19 : decode xb_De_showRow 19 = .ok (.iconst 2, 1) := by decide +kernel
theorem xd_De_showRow_20 : decode xb_De_showRow 20 = .ok (.if_icmp .ge 41, 3) := by decide +kernel
theorem xd_De_showRow_23 : decode xb_De_showRow 23 = .ok (.aload_n 0, 1) := by decide +kernel
theorem xd_De_showRow_24 : decode xb_De_showRow 24 = .ok (.getfield 36, 3) := by decide +kernel
theorem xd_De_showRow_27 : decode xb_De_showRow 27 = .ok (.iload_n 2, 1) := by decide +kernel
theorem xd_De_showRow_28 : decode xb_De_showRow 28 = .ok (.iload 4, 2) := by decide +kernel
theorem xd_De_showRow_30 : decode xb_De_showRow 30 = .ok (.invokestatic 186, 3) := by decide +kernel
theorem xd_De_showRow_33 : decode xb_De_showRow 33 = .ok (.iload 4, 2) := by decide +kernel
theorem xd_De_showRow_35 : decode xb_De_showRow 35 = .ok (.iload_n 3, 1) := by decide +kernel
theorem xd_De_showRow_36 : decode xb_De_showRow 36 = .ok (.if_icmp .ge 17, 3) := by decide +kernel
theorem xd_De_showRow_39 : decode xb_De_showRow 39 = .ok (.aload_n 1, 1) := by decide +kernel
theorem xd_De_showRow_40 : decode xb_De_showRow 40 = .ok (.getfield 144, 3) := by decide +kernel
theorem xd_De_showRow_43 : decode xb_De_showRow 43 = .ok (.iload_n 2, 1) := by decide +kernel
theorem xd_De_showRow_44 : decode xb_De_showRow 44 = .ok (.iload 4, 2) := by decide +kernel
theorem xd_De_showRow_46 : decode xb_De_showRow 46 = .ok (.invokestatic 186, 3) := by decide +kernel
theorem xd_De_showRow_49 : decode xb_De_showRow 49 = .ok (.iaload, 1) := by decide +kernel
theorem xd_De_showRow_50 : decode xb_De_showRow 50 = .ok (.goto 4, 3) := by decide +kernel
theorem xd_De_showRow_53 : decode xb_De_showRow 53 = .ok (.iconst 0, 1) := by decide +kernel
theorem xd_De_showRow_54 : decode xb_De_showRow 54 = .ok (.iastore, 1) := by decide +kernel
theorem xd_De_showRow_55 : decode xb_De_showRow 55 = .ok (.iinc 4 1, 3) := by decide +kernel
theorem xd_De_showRow_58 : decode xb_De_showRow 58 = .ok (.goto (-41), 3) := by decide +kernel
theorem xd_De_showRow_61 : decode xb_De_showRow 61 = .ok (.return_, 1) := by decide +kernel
abbrev xb_De_takeOutput : ByteArray := prog_5_method_16_code
def xy_De_takeOutput : MethodName := ⟨R_De, "takeOutput", "(LFieldRelay$Frame;)V"⟩
abbrev xrm_De_takeOutput : Room := { frames := 2, cells := 0, slots := 0, locals := 45 }
theorem xK_De_takeOutput : Cond.code xy_De_takeOutput xb_De_takeOutput 3 none ∈ vTB := vTB_in 612 (by decide +kernel) rfl
theorem xI_De_takeOutput : Cond.instanceMethod xy_De_takeOutput ∈ vTB := vTB_in 611 (by decide +kernel) rfl
theorem xS_De_takeOutput : Cond.selects R_De xy_De_takeOutput xy_De_takeOutput ∈ vTB := vTB_sel (q := (xy_De_takeOutput, 19)) 26 (by decide +kernel)
theorem xw_De_takeOutput {R : Room} {s : State} {args : Array Value} {own : String} {index : Nat} (hts : ∀ w ∈ vTB, w.before args s = true) (hl : Cond.methodLink own index xy_De_takeOutput ∈ vTB) (hR : xrm_De_takeOutput.frames + 1 ≤ R.frames ∧ 8 + (3 + 11) + xrm_De_takeOutput.locals ≤ R.locals) : CallW R s args own R_De index xy_De_takeOutput xb_De_takeOutput 3 none (Cond.code xy_De_takeOutput xb_De_takeOutput 3 none :: vTB) xrm_De_takeOutput 0 0 1 := cwV 1 hts (fw_gV vTB_good xK_De_takeOutput hl xI_De_takeOutput xS_De_takeOutput N_De) rfl rfl rfl (by decide +kernel) hR
theorem xd_De_takeOutput_0 : decode xb_De_takeOutput 0 = .ok (.aload_n 0, 1) := by decide +kernel
theorem xd_De_takeOutput_1 : decode xb_De_takeOutput 1 = .ok (.getfield 62, 3) := by decide +kernel
theorem xd_De_takeOutput_4 : decode xb_De_takeOutput 4 = .ok (.iconst 3, 1) := by decide +kernel
theorem xd_De_takeOutput_5 : decode xb_De_takeOutput 5 = .ok (.if_icmp .ne 17, 3) := by decide +kernel
theorem xd_De_takeOutput_8 : decode xb_De_takeOutput 8 = .ok (.aload_n 0, 1) := by decide +kernel
theorem xd_De_takeOutput_9 : decode xb_De_takeOutput 9 = .ok (.getfield 12, 3) := by decide +kernel
theorem xd_De_takeOutput_12 : decode xb_De_takeOutput 12 = .ok (.aload_n 1, 1) := by decide +kernel
theorem xd_De_takeOutput_13 : decode xb_De_takeOutput 13 = .ok (.getfield 88, 3) := by decide +kernel
theorem xd_De_takeOutput_16 : decode xb_De_takeOutput 16 = .ok (.invokevirtual 175, 3) := by decide +kernel
theorem xd_De_takeOutput_19 : decode xb_De_takeOutput 19 = .ok (.ifCond .ne 4, 3) := by decide +kernel
theorem xd_De_takeOutput_22 : decode xb_De_takeOutput 22 = .ok (.return_, 1) := by decide +kernel
theorem xd_De_takeOutput_23 : decode xb_De_takeOutput 23 = .ok (.aload_n 0, 1) := by decide +kernel
theorem xd_De_takeOutput_24 : decode xb_De_takeOutput 24 = .ok (.iconst 0, 1) := by decide +kernel
theorem xd_De_takeOutput_25 : decode xb_De_takeOutput 25 = .ok (.putfield 120, 3) := by decide +kernel
theorem xd_De_takeOutput_28 : decode xb_De_takeOutput 28 = .ok (.iconst 0, 1) := by decide +kernel
theorem xd_De_takeOutput_29 : decode xb_De_takeOutput 29 = .ok (.istore_n 2, 1) := by decide +kernel
theorem xd_De_takeOutput_30 : decode xb_De_takeOutput 30 = .ok (.iload_n 2, 1) := by decide +kernel
theorem xd_De_takeOutput_31 : decode xb_De_takeOutput 31 = .ok (.iconst 3, 1) := by decide +kernel
theorem xd_De_takeOutput_32 : decode xb_De_takeOutput 32 = .ok (.if_icmp .ge 23, 3) := by decide +kernel
theorem xd_De_takeOutput_35 : decode xb_De_takeOutput 35 = .ok (.aload_n 0, 1) := by decide +kernel
theorem xd_De_takeOutput_36 : decode xb_De_takeOutput 36 = .ok (.iload_n 2, 1) := by decide +kernel
theorem xd_De_takeOutput_37 : decode xb_De_takeOutput 37 = .ok (.invokevirtual 164, 3) := by decide +kernel
theorem xd_De_takeOutput_40 : decode xb_De_takeOutput 40 = .ok (.ifCond .eq 9, 3) := by decide +kernel
theorem xd_De_takeOutput_43 : decode xb_De_takeOutput 43 = .ok (.aload_n 0, 1) := by decide +kernel
theorem xd_De_takeOutput_44 : decode xb_De_takeOutput 44 = .ok (.aload_n 1, 1) := by decide +kernel
theorem xd_De_takeOutput_45 : decode xb_De_takeOutput 45 = .ok (.iload_n 2, 1) := by decide +kernel
theorem xd_De_takeOutput_46 : decode xb_De_takeOutput 46 = .ok (.invokevirtual 178, 3) := by decide +kernel
theorem xd_De_takeOutput_49 : decode xb_De_takeOutput 49 = .ok (.iinc 2 1, 3) := by decide +kernel
theorem xd_De_takeOutput_52 : decode xb_De_takeOutput 52 = .ok (.goto (-22), 3) := by decide +kernel
theorem xd_De_takeOutput_55 : decode xb_De_takeOutput 55 = .ok (.return_, 1) := by decide +kernel
abbrev xb_AQ_taken : ByteArray := prog_3_method_7_code
def xy_AQ_taken : MethodName := ⟨R_AQ, "taken", "(I)V"⟩
abbrev xrm_AQ_taken : Room := { frames := 0, cells := 0, slots := 0, locals := 0 }
theorem xK_AQ_taken : Cond.code xy_AQ_taken xb_AQ_taken 3 none ∈ vTB := vTB_in 621 (by decide +kernel) rfl
theorem xI_AQ_taken : Cond.instanceMethod xy_AQ_taken ∈ vTB := vTB_in 619 (by decide +kernel) rfl
theorem xS_AQ_taken : Cond.selects R_AQ xy_AQ_taken xy_AQ_taken ∈ vTB := vTB_in 620 (by decide +kernel) rfl
theorem xw_AQ_taken {R : Room} {s : State} {args : Array Value} {own : String} {index : Nat} (hts : ∀ w ∈ vTB, w.before args s = true) (hl : Cond.methodLink own index xy_AQ_taken ∈ vTB) (hR : xrm_AQ_taken.frames + 1 ≤ R.frames ∧ 8 + (3 + 11) + xrm_AQ_taken.locals ≤ R.locals) : CallW R s args own R_AQ index xy_AQ_taken xb_AQ_taken 3 none (Cond.code xy_AQ_taken xb_AQ_taken 3 none :: vTB) xrm_AQ_taken 0 0 1 := cwV 1 hts (fw_gV vTB_good xK_AQ_taken hl xI_AQ_taken xS_AQ_taken N_AQ) rfl rfl rfl (by decide +kernel) hR
theorem xd_AQ_taken_0 : decode xb_AQ_taken 0 = .ok (.aload_n 0, 1) := by decide +kernel
theorem xd_AQ_taken_1 : decode xb_AQ_taken 1 = .ok (.getfield 20, 3) := by decide +kernel
theorem xd_AQ_taken_4 : decode xb_AQ_taken 4 = .ok (.ifCond .eq 11, 3) := by decide +kernel
theorem xd_AQ_taken_7 : decode xb_AQ_taken 7 = .ok (.iload_n 1, 1) := by decide +kernel
theorem xd_AQ_taken_8 : decode xb_AQ_taken 8 = .ok (.aload_n 0, 1) := by decide +kernel
theorem xd_AQ_taken_9 : decode xb_AQ_taken 9 = .ok (.getfield 20, 3) := by decide +kernel
theorem xd_AQ_taken_12 : decode xb_AQ_taken 12 = .ok (.if_icmp .eq 4, 3) := by decide +kernel
theorem xd_AQ_taken_15 : decode xb_AQ_taken 15 = .ok (.return_, 1) := by decide +kernel
theorem xd_AQ_taken_16 : decode xb_AQ_taken 16 = .ok (.aload_n 0, 1) := by decide +kernel
theorem xd_AQ_taken_17 : decode xb_AQ_taken 17 = .ok (.iconst 0, 1) := by decide +kernel
theorem xd_AQ_taken_18 : decode xb_AQ_taken 18 = .ok (.putfield 20, 3) := by decide +kernel
theorem xd_AQ_taken_21 : decode xb_AQ_taken 21 = .ok (.aload_n 0, 1) := by decide +kernel
theorem xd_AQ_taken_22 : decode xb_AQ_taken 22 = .ok (.dup, 1) := by decide +kernel
theorem xd_AQ_taken_23 : decode xb_AQ_taken 23 = .ok (.getfield 16, 3) := by decide +kernel
theorem xd_AQ_taken_26 : decode xb_AQ_taken 26 = .ok (.iconst 1, 1) := by decide +kernel
theorem xd_AQ_taken_27 : decode xb_AQ_taken 27 = .ok (.isub, 1) := by decide +kernel
theorem xd_AQ_taken_28 : decode xb_AQ_taken 28 = .ok (.putfield 16, 3) := by decide +kernel
theorem xd_AQ_taken_31 : decode xb_AQ_taken 31 = .ok (.iconst 0, 1) := by decide +kernel
theorem xd_AQ_taken_32 : decode xb_AQ_taken 32 = .ok (.istore_n 2, 1) := by decide +kernel
theorem xd_AQ_taken_33 : decode xb_AQ_taken 33 = .ok (.iload_n 2, 1) := by decide +kernel
theorem xd_AQ_taken_34 : decode xb_AQ_taken 34 = .ok (.aload_n 0, 1) := by decide +kernel
theorem xd_AQ_taken_35 : decode xb_AQ_taken 35 = .ok (.getfield 16, 3) := by decide +kernel
theorem xd_AQ_taken_38 : decode xb_AQ_taken 38 = .ok (.if_icmp .ge 37, 3) := by decide +kernel
theorem xd_AQ_taken_41 : decode xb_AQ_taken 41 = .ok (.aload_n 0, 1) := by decide +kernel
theorem xd_AQ_taken_42 : decode xb_AQ_taken 42 = .ok (.getfield 9, 3) := by decide +kernel
theorem xd_AQ_taken_45 : decode xb_AQ_taken 45 = .ok (.iload_n 2, 1) := by decide +kernel
theorem xd_AQ_taken_46 : decode xb_AQ_taken 46 = .ok (.aload_n 0, 1) := by decide +kernel
theorem xd_AQ_taken_47 : decode xb_AQ_taken 47 = .ok (.getfield 9, 3) := by decide +kernel
theorem xd_AQ_taken_50 : decode xb_AQ_taken 50 = .ok (.iload_n 2, 1) := by decide +kernel
theorem xd_AQ_taken_51 : decode xb_AQ_taken 51 = .ok (.iconst 1, 1) := by decide +kernel
theorem xd_AQ_taken_52 : decode xb_AQ_taken 52 = .ok (.iadd, 1) := by decide +kernel
theorem xd_AQ_taken_53 : decode xb_AQ_taken 53 = .ok (.iaload, 1) := by decide +kernel
theorem xd_AQ_taken_54 : decode xb_AQ_taken 54 = .ok (.iastore, 1) := by decide +kernel
theorem xd_AQ_taken_55 : decode xb_AQ_taken 55 = .ok (.aload_n 0, 1) := by decide +kernel
theorem xd_AQ_taken_56 : decode xb_AQ_taken 56 = .ok (.getfield 13, 3) := by decide +kernel
theorem xd_AQ_taken_59 : decode xb_AQ_taken 59 = .ok (.iload_n 2, 1) := by decide +kernel
theorem xd_AQ_taken_60 : decode xb_AQ_taken 60 = .ok (.aload_n 0, 1) := by decide +kernel
theorem xd_AQ_taken_61 : decode xb_AQ_taken 61 = .ok (.getfield 13, 3) := by decide +kernel
theorem xd_AQ_taken_64 : decode xb_AQ_taken 64 = .ok (.iload_n 2, 1) := by decide +kernel
theorem xd_AQ_taken_65 : decode xb_AQ_taken 65 = .ok (.iconst 1, 1) := by decide +kernel
theorem xd_AQ_taken_66 : decode xb_AQ_taken 66 = .ok (.iadd, 1) := by decide +kernel
theorem xd_AQ_taken_67 : decode xb_AQ_taken 67 = .ok (.iaload, 1) := by decide +kernel
theorem xd_AQ_taken_68 : decode xb_AQ_taken 68 = .ok (.iastore, 1) := by decide +kernel
theorem xd_AQ_taken_69 : decode xb_AQ_taken 69 = .ok (.iinc 2 1, 3) := by decide +kernel
theorem xd_AQ_taken_72 : decode xb_AQ_taken 72 = .ok (.goto (-39), 3) := by decide +kernel
theorem xd_AQ_taken_75 : decode xb_AQ_taken 75 = .ok (.return_, 1) := by decide +kernel
abbrev xb_De_receive : ByteArray := prog_5_method_5_code
def xy_De_receive : MethodName := ⟨R_De, "receive", "(LFieldRelay$Frame;)V"⟩
abbrev xrm_De_receive : Room := { frames := 5, cells := 0, slots := 0, locals := 112 }
theorem xK_De_receive : Cond.code xy_De_receive xb_De_receive 2 none ∈ vTB := vTB_in 559 (by decide +kernel) rfl
theorem xI_De_receive : Cond.instanceMethod xy_De_receive ∈ vTB := vTB_in 557 (by decide +kernel) rfl
theorem xS_De_receive : Cond.selects R_De xy_De_receive xy_De_receive ∈ vTB := vTB_in 558 (by decide +kernel) rfl
theorem xw_De_receive {R : Room} {s : State} {args : Array Value} {own : String} {index : Nat} (hts : ∀ w ∈ vTB, w.before args s = true) (hl : Cond.methodLink own index xy_De_receive ∈ vTB) (hR : xrm_De_receive.frames + 1 ≤ R.frames ∧ 8 + (2 + 11) + xrm_De_receive.locals ≤ R.locals) : CallW R s args own R_De index xy_De_receive xb_De_receive 2 none (Cond.code xy_De_receive xb_De_receive 2 none :: vTB) xrm_De_receive 0 0 1 := cwV 1 hts (fw_gV vTB_good xK_De_receive hl xI_De_receive xS_De_receive N_De) rfl rfl rfl (by decide +kernel) hR
theorem xd_De_receive_0 : decode xb_De_receive 0 = .ok (.aload_n 1, 1) := by decide +kernel
theorem xd_De_receive_1 : decode xb_De_receive 1 = .ok (.getfield 83, 3) := by decide +kernel
theorem xd_De_receive_4 : decode xb_De_receive 4 = .ok (.iconst 1, 1) := by decide +kernel
theorem xd_De_receive_5 : decode xb_De_receive 5 = .ok (.if_icmp .ne 12, 3) := by decide +kernel
theorem xd_De_receive_8 : decode xb_De_receive 8 = .ok (.aload_n 0, 1) := by decide +kernel
theorem xd_De_receive_9 : decode xb_De_receive 9 = .ok (.aload_n 1, 1) := by decide +kernel
theorem xd_De_receive_10 : decode xb_De_receive 10 = .ok (.getfield 88, 3) := by decide +kernel
theorem xd_De_receive_13 : decode xb_De_receive 13 = .ok (.invokevirtual 91, 3) := by decide +kernel
theorem xd_De_receive_16 : decode xb_De_receive 16 = .ok (.return_, 1) := by decide +kernel
theorem xd_De_receive_17 : decode xb_De_receive 17 = .ok (.aload_n 1, 1) := by decide +kernel
theorem xd_De_receive_18 : decode xb_De_receive 18 = .ok (.getfield 83, 3) := by decide +kernel
theorem xd_De_receive_21 : decode xb_De_receive 21 = .ok (.iconst 3, 1) := by decide +kernel
theorem xd_De_receive_22 : decode xb_De_receive 22 = .ok (.if_icmp .ne 9, 3) := by decide +kernel
theorem xd_De_receive_25 : decode xb_De_receive 25 = .ok (.aload_n 0, 1) := by decide +kernel
theorem xd_De_receive_26 : decode xb_De_receive 26 = .ok (.aload_n 1, 1) := by decide +kernel
theorem xd_De_receive_27 : decode xb_De_receive 27 = .ok (.invokevirtual 94, 3) := by decide +kernel
theorem xd_De_receive_30 : decode xb_De_receive 30 = .ok (.return_, 1) := by decide +kernel
theorem xd_De_receive_31 : decode xb_De_receive 31 = .ok (.aload_n 0, 1) := by decide +kernel
theorem xd_De_receive_32 : decode xb_De_receive 32 = .ok (.getfield 62, 3) := by decide +kernel
theorem xd_De_receive_35 : decode xb_De_receive 35 = .ok (.ifCond .eq 14, 3) := by decide +kernel
theorem xd_De_receive_38 : decode xb_De_receive 38 = .ok (.aload_n 1, 1) := by decide +kernel
theorem xd_De_receive_39 : decode xb_De_receive 39 = .ok (.getfield 98, 3) := by decide +kernel
theorem xd_De_receive_42 : decode xb_De_receive 42 = .ok (.aload_n 0, 1) := by decide +kernel
theorem xd_De_receive_43 : decode xb_De_receive 43 = .ok (.getfield 101, 3) := by decide +kernel
theorem xd_De_receive_46 : decode xb_De_receive 46 = .ok (.if_icmp .eq 4, 3) := by decide +kernel
theorem xd_De_receive_49 : decode xb_De_receive 49 = .ok (.return_, 1) := by decide +kernel
theorem xd_De_receive_50 : decode xb_De_receive 50 = .ok (.aload_n 1, 1) := by decide +kernel
theorem xd_De_receive_51 : decode xb_De_receive 51 = .ok (.getfield 83, 3) := by decide +kernel
theorem xd_De_receive_54 : decode xb_De_receive 54 = .ok (.tableswitch 109 6 16 #[58, 109, 66, 109, 109, 73, 80, 109, 109, 88, 102], 58) := by decide +kernel
theorem xd_De_receive_112 : decode xb_De_receive 112 = .ok (.aload_n 0, 1) := by decide +kernel
theorem xd_De_receive_113 : decode xb_De_receive 113 = .ok (.aload_n 1, 1) := by decide +kernel
theorem xd_De_receive_114 : decode xb_De_receive 114 = .ok (.invokevirtual 102, 3) := by decide +kernel
theorem xd_De_receive_117 : decode xb_De_receive 117 = .ok (.goto 46, 3) := by decide +kernel
theorem xd_De_receive_120 : decode xb_De_receive 120 = .ok (.aload_n 0, 1) := by decide +kernel
theorem xd_De_receive_121 : decode xb_De_receive 121 = .ok (.invokevirtual 105, 3) := by decide +kernel
theorem xd_De_receive_124 : decode xb_De_receive 124 = .ok (.goto 39, 3) := by decide +kernel
theorem xd_De_receive_127 : decode xb_De_receive 127 = .ok (.aload_n 0, 1) := by decide +kernel
theorem xd_De_receive_128 : decode xb_De_receive 128 = .ok (.invokevirtual 108, 3) := by decide +kernel
theorem xd_De_receive_131 : decode xb_De_receive 131 = .ok (.goto 32, 3) := by decide +kernel
theorem xd_De_receive_134 : decode xb_De_receive 134 = .ok (.aload_n 0, 1) := by decide +kernel
theorem xd_De_receive_135 : decode xb_De_receive 135 = .ok (.aload_n 1, 1) := by decide +kernel
theorem xd_De_receive_136 : decode xb_De_receive 136 = .ok (.invokevirtual 111, 3) := by decide +kernel
theorem xd_De_receive_139 : decode xb_De_receive 139 = .ok (.goto 24, 3) := by decide +kernel
theorem xd_De_receive_142 : decode xb_De_receive 142 = .ok (.aload_n 0, 1) := by decide +kernel
theorem xd_De_receive_143 : decode xb_De_receive 143 = .ok (.getfield 21, 3) := by decide +kernel
theorem xd_De_receive_146 : decode xb_De_receive 146 = .ok (.aload_n 1, 1) := by decide +kernel
theorem xd_De_receive_147 : decode xb_De_receive 147 = .ok (.getfield 88, 3) := by decide +kernel
theorem xd_De_receive_150 : decode xb_De_receive 150 = .ok (.invokevirtual 114, 3) := by decide +kernel
theorem xd_De_receive_153 : decode xb_De_receive 153 = .ok (.goto 10, 3) := by decide +kernel
theorem xd_De_receive_156 : decode xb_De_receive 156 = .ok (.aload_n 0, 1) := by decide +kernel
theorem xd_De_receive_157 : decode xb_De_receive 157 = .ok (.invokevirtual 117, 3) := by decide +kernel
theorem xd_De_receive_160 : decode xb_De_receive 160 = .ok (.goto 3, 3) := by decide +kernel
theorem xd_De_receive_163 : decode xb_De_receive 163 = .ok (.return_, 1) := by decide +kernel
abbrev xb_FR_deliver : ByteArray := prog_1_method_12_code
def xy_FR_deliver : MethodName := ⟨R_FR, "deliver", "(I)I"⟩
abbrev xrm_FR_deliver : Room := { frames := 7, cells := 0, slots := 0, locals := 156 }
theorem xK_FR_deliver : Cond.code xy_FR_deliver xb_FR_deliver 4 (some .int) ∈ vTB := vTB_in 481 (by decide +kernel) rfl
theorem xI_FR_deliver : Cond.instanceMethod xy_FR_deliver ∈ vTB := vTB_in 479 (by decide +kernel) rfl
theorem xS_FR_deliver : Cond.selects R_FR xy_FR_deliver xy_FR_deliver ∈ vTB := vTB_in 480 (by decide +kernel) rfl
theorem xw_FR_deliver {R : Room} {s : State} {args : Array Value} {own : String} {index : Nat} (hts : ∀ w ∈ vTB, w.before args s = true) (hl : Cond.methodLink own index xy_FR_deliver ∈ vTB) (hR : xrm_FR_deliver.frames + 1 ≤ R.frames ∧ 8 + (4 + 11) + xrm_FR_deliver.locals ≤ R.locals) : CallW R s args own R_FR index xy_FR_deliver xb_FR_deliver 4 (some .int) (Cond.code xy_FR_deliver xb_FR_deliver 4 (some .int) :: vTB) xrm_FR_deliver 0 0 1 := cwV 1 hts (fw_gV vTB_good xK_FR_deliver hl xI_FR_deliver xS_FR_deliver N_FR) rfl rfl rfl (by decide +kernel) hR
theorem xd_FR_deliver_0 : decode xb_FR_deliver 0 = .ok (.aload_n 0, 1) := by decide +kernel
theorem xd_FR_deliver_1 : decode xb_FR_deliver 1 = .ok (.getfield 19, 3) := by decide +kernel
theorem xd_FR_deliver_4 : decode xb_FR_deliver 4 = .ok (.iload_n 1, 1) := by decide +kernel
theorem xd_FR_deliver_5 : decode xb_FR_deliver 5 = .ok (.invokevirtual 127, 3) := by decide +kernel
theorem xd_FR_deliver_8 : decode xb_FR_deliver 8 = .ok (.ifCond .ne 6, 3) := by decide +kernel
theorem xd_FR_deliver_11 : decode xb_FR_deliver 11 = .ok (.bipush (-2), 2) := by decide +kernel
theorem xd_FR_deliver_13 : decode xb_FR_deliver 13 = .ok (.ireturn, 1) := by decide +kernel
theorem xd_FR_deliver_14 : decode xb_FR_deliver 14 = .ok (.aload_n 0, 1) := by decide +kernel
theorem xd_FR_deliver_15 : decode xb_FR_deliver 15 = .ok (.getfield 19, 3) := by decide +kernel
theorem xd_FR_deliver_18 : decode xb_FR_deliver 18 = .ok (.iload_n 1, 1) := by decide +kernel
theorem xd_FR_deliver_19 : decode xb_FR_deliver 19 = .ok (.invokevirtual 130, 3) := by decide +kernel
theorem xd_FR_deliver_22 : decode xb_FR_deliver 22 = .ok (.astore_n 2, 1) := by decide +kernel
theorem xd_FR_deliver_23 : decode xb_FR_deliver 23 = .ok (.aload_n 0, 1) := by decide +kernel
theorem xd_FR_deliver_24 : decode xb_FR_deliver 24 = .ok (.dup, 1) := by decide +kernel
theorem xd_FR_deliver_25 : decode xb_FR_deliver 25 = .ok (.getfield 134, 3) := by decide +kernel
theorem xd_FR_deliver_28 : decode xb_FR_deliver 28 = .ok (.iconst 1, 1) := by decide +kernel
theorem xd_FR_deliver_29 : decode xb_FR_deliver 29 = .ok (.iadd, 1) := by decide +kernel
theorem xd_FR_deliver_30 : decode xb_FR_deliver 30 = .ok (.putfield 134, 3) := by decide +kernel
theorem xd_FR_deliver_33 : decode xb_FR_deliver 33 = .ok (.iconst 0, 1) := by decide +kernel
theorem xd_FR_deliver_34 : decode xb_FR_deliver 34 = .ok (.istore_n 3, 1) := by decide +kernel
theorem xd_FR_deliver_35 : decode xb_FR_deliver 35 = .ok (.iload_n 3, 1) := by decide +kernel
theorem xd_FR_deliver_36 : decode xb_FR_deliver 36 = .ok (.iconst 2, 1) := by decide +kernel
theorem xd_FR_deliver_37 : decode xb_FR_deliver 37 = .ok (.if_icmp .ge 56, 3) := by decide +kernel
theorem xd_FR_deliver_40 : decode xb_FR_deliver 40 = .ok (.aload_n 2, 1) := by decide +kernel
theorem xd_FR_deliver_41 : decode xb_FR_deliver 41 = .ok (.getfield 137, 3) := by decide +kernel
theorem xd_FR_deliver_44 : decode xb_FR_deliver 44 = .ok (.iconst 2, 1) := by decide +kernel
theorem xd_FR_deliver_45 : decode xb_FR_deliver 45 = .ok (.if_icmp .ne 16, 3) := by decide +kernel
theorem xd_FR_deliver_48 : decode xb_FR_deliver 48 = .ok (.aload_n 0, 1) := by decide +kernel
theorem xd_FR_deliver_49 : decode xb_FR_deliver 49 = .ok (.getfield 32, 3) := by decide +kernel
theorem xd_FR_deliver_52 : decode xb_FR_deliver 52 = .ok (.iload_n 3, 1) := by decide +kernel
theorem xd_FR_deliver_53 : decode xb_FR_deliver 53 = .ok (.aaload, 1) := by decide +kernel
theorem xd_FR_deliver_54 : decode xb_FR_deliver 54 = .ok (.aload_n 2, 1) := by decide +kernel
theorem xd_FR_deliver_55 : decode xb_FR_deliver 55 = .ok (.invokevirtual 142, 3) := by decide +kernel
theorem xd_FR_deliver_58 : decode xb_FR_deliver 58 = .ok (.goto 29, 3) := by decide +kernel
theorem xd_FR_deliver_61 : decode xb_FR_deliver 61 = .ok (.aload_n 2, 1) := by decide +kernel
theorem xd_FR_deliver_62 : decode xb_FR_deliver 62 = .ok (.getfield 137, 3) := by decide +kernel
theorem xd_FR_deliver_65 : decode xb_FR_deliver 65 = .ok (.iconst 3, 1) := by decide +kernel
theorem xd_FR_deliver_66 : decode xb_FR_deliver 66 = .ok (.if_icmp .eq 11, 3) := by decide +kernel
theorem xd_FR_deliver_69 : decode xb_FR_deliver 69 = .ok (.aload_n 2, 1) := by decide +kernel
theorem xd_FR_deliver_70 : decode xb_FR_deliver 70 = .ok (.getfield 137, 3) := by decide +kernel
theorem xd_FR_deliver_73 : decode xb_FR_deliver 73 = .ok (.iload_n 3, 1) := by decide +kernel
theorem xd_FR_deliver_74 : decode xb_FR_deliver 74 = .ok (.if_icmp .ne 13, 3) := by decide +kernel
theorem xd_FR_deliver_77 : decode xb_FR_deliver 77 = .ok (.aload_n 0, 1) := by decide +kernel
theorem xd_FR_deliver_78 : decode xb_FR_deliver 78 = .ok (.getfield 38, 3) := by decide +kernel
theorem xd_FR_deliver_81 : decode xb_FR_deliver 81 = .ok (.iload_n 3, 1) := by decide +kernel
theorem xd_FR_deliver_82 : decode xb_FR_deliver 82 = .ok (.aaload, 1) := by decide +kernel
theorem xd_FR_deliver_83 : decode xb_FR_deliver 83 = .ok (.aload_n 2, 1) := by decide +kernel
theorem xd_FR_deliver_84 : decode xb_FR_deliver 84 = .ok (.invokevirtual 146, 3) := by decide +kernel
theorem xd_FR_deliver_87 : decode xb_FR_deliver 87 = .ok (.iinc 3 1, 3) := by decide +kernel
theorem xd_FR_deliver_90 : decode xb_FR_deliver 90 = .ok (.goto (-55), 3) := by decide +kernel
theorem xd_FR_deliver_93 : decode xb_FR_deliver 93 = .ok (.aload_n 0, 1) := by decide +kernel
theorem xd_FR_deliver_94 : decode xb_FR_deliver 94 = .ok (.getfield 19, 3) := by decide +kernel
theorem xd_FR_deliver_97 : decode xb_FR_deliver 97 = .ok (.getfield 147, 3) := by decide +kernel
theorem xd_FR_deliver_100 : decode xb_FR_deliver 100 = .ok (.ireturn, 1) := by decide +kernel
abbrev xb_FR_lose : ByteArray := prog_1_method_13_code
def xy_FR_lose : MethodName := ⟨R_FR, "lose", "(I)I"⟩
abbrev xrm_FR_lose : Room := { frames := 2, cells := 0, slots := 0, locals := 43 }
theorem xK_FR_lose : Cond.code xy_FR_lose xb_FR_lose 2 (some .int) ∈ vTB := vTB_in 625 (by decide +kernel) rfl
theorem xI_FR_lose : Cond.instanceMethod xy_FR_lose ∈ vTB := vTB_in 623 (by decide +kernel) rfl
theorem xS_FR_lose : Cond.selects R_FR xy_FR_lose xy_FR_lose ∈ vTB := vTB_in 624 (by decide +kernel) rfl
theorem xw_FR_lose {R : Room} {s : State} {args : Array Value} {own : String} {index : Nat} (hts : ∀ w ∈ vTB, w.before args s = true) (hl : Cond.methodLink own index xy_FR_lose ∈ vTB) (hR : xrm_FR_lose.frames + 1 ≤ R.frames ∧ 8 + (2 + 11) + xrm_FR_lose.locals ≤ R.locals) : CallW R s args own R_FR index xy_FR_lose xb_FR_lose 2 (some .int) (Cond.code xy_FR_lose xb_FR_lose 2 (some .int) :: vTB) xrm_FR_lose 0 0 1 := cwV 1 hts (fw_gV vTB_good xK_FR_lose hl xI_FR_lose xS_FR_lose N_FR) rfl rfl rfl (by decide +kernel) hR
theorem xd_FR_lose_0 : decode xb_FR_lose 0 = .ok (.aload_n 0, 1) := by decide +kernel
theorem xd_FR_lose_1 : decode xb_FR_lose 1 = .ok (.getfield 19, 3) := by decide +kernel
theorem xd_FR_lose_4 : decode xb_FR_lose 4 = .ok (.iload_n 1, 1) := by decide +kernel
theorem xd_FR_lose_5 : decode xb_FR_lose 5 = .ok (.invokevirtual 127, 3) := by decide +kernel
theorem xd_FR_lose_8 : decode xb_FR_lose 8 = .ok (.ifCond .ne 6, 3) := by decide +kernel
theorem xd_FR_lose_11 : decode xb_FR_lose 11 = .ok (.bipush (-2), 2) := by decide +kernel
theorem xd_FR_lose_13 : decode xb_FR_lose 13 = .ok (.ireturn, 1) := by decide +kernel
theorem xd_FR_lose_14 : decode xb_FR_lose 14 = .ok (.aload_n 0, 1) := by decide +kernel
theorem xd_FR_lose_15 : decode xb_FR_lose 15 = .ok (.getfield 19, 3) := by decide +kernel
theorem xd_FR_lose_18 : decode xb_FR_lose 18 = .ok (.iload_n 1, 1) := by decide +kernel
theorem xd_FR_lose_19 : decode xb_FR_lose 19 = .ok (.invokevirtual 130, 3) := by decide +kernel
theorem xd_FR_lose_22 : decode xb_FR_lose 22 = .ok (.pop, 1) := by decide +kernel
theorem xd_FR_lose_23 : decode xb_FR_lose 23 = .ok (.aload_n 0, 1) := by decide +kernel
theorem xd_FR_lose_24 : decode xb_FR_lose 24 = .ok (.getfield 19, 3) := by decide +kernel
theorem xd_FR_lose_27 : decode xb_FR_lose 27 = .ok (.getfield 147, 3) := by decide +kernel
theorem xd_FR_lose_30 : decode xb_FR_lose 30 = .ok (.ireturn, 1) := by decide +kernel
abbrev xb_Fm_copyFrom : ByteArray := prog_6_method_3_code
def xy_Fm_copyFrom : MethodName := ⟨R_Fm, "copyFrom", "(LFieldRelay$Frame;)V"⟩
abbrev xrm_Fm_copyFrom : Room := { frames := 2, cells := 0, slots := 0, locals := 47 }
theorem xK_Fm_copyFrom : Cond.code xy_Fm_copyFrom xb_Fm_copyFrom 2 none ∈ vTB := vTB_in 638 (by decide +kernel) rfl
theorem xI_Fm_copyFrom : Cond.instanceMethod xy_Fm_copyFrom ∈ vTB := vTB_in 636 (by decide +kernel) rfl
theorem xS_Fm_copyFrom : Cond.selects R_Fm xy_Fm_copyFrom xy_Fm_copyFrom ∈ vTB := vTB_in 637 (by decide +kernel) rfl
theorem xw_Fm_copyFrom {R : Room} {s : State} {args : Array Value} {own : String} {index : Nat} (hts : ∀ w ∈ vTB, w.before args s = true) (hl : Cond.methodLink own index xy_Fm_copyFrom ∈ vTB) (hR : xrm_Fm_copyFrom.frames + 1 ≤ R.frames ∧ 8 + (2 + 11) + xrm_Fm_copyFrom.locals ≤ R.locals) : CallW R s args own R_Fm index xy_Fm_copyFrom xb_Fm_copyFrom 2 none (Cond.code xy_Fm_copyFrom xb_Fm_copyFrom 2 none :: vTB) xrm_Fm_copyFrom 0 0 1 := cwV 1 hts (fw_gV vTB_good xK_Fm_copyFrom hl xI_Fm_copyFrom xS_Fm_copyFrom N_Fm) rfl rfl rfl (by decide +kernel) hR
theorem xd_Fm_copyFrom_0 : decode xb_Fm_copyFrom 0 = .ok (.aload_n 0, 1) := by decide +kernel
theorem xd_Fm_copyFrom_1 : decode xb_Fm_copyFrom 1 = .ok (.aload_n 1, 1) := by decide +kernel
theorem xd_Fm_copyFrom_2 : decode xb_Fm_copyFrom 2 = .ok (.getfield 15, 3) := by decide +kernel
theorem xd_Fm_copyFrom_5 : decode xb_Fm_copyFrom 5 = .ok (.aload_n 1, 1) := by decide +kernel
theorem xd_Fm_copyFrom_6 : decode xb_Fm_copyFrom 6 = .ok (.getfield 19, 3) := by decide +kernel
theorem xd_Fm_copyFrom_9 : decode xb_Fm_copyFrom 9 = .ok (.aload_n 1, 1) := by decide +kernel
theorem xd_Fm_copyFrom_10 : decode xb_Fm_copyFrom 10 = .ok (.getfield 22, 3) := by decide +kernel
theorem xd_Fm_copyFrom_13 : decode xb_Fm_copyFrom 13 = .ok (.aload_n 1, 1) := by decide +kernel
theorem xd_Fm_copyFrom_14 : decode xb_Fm_copyFrom 14 = .ok (.getfield 25, 3) := by decide +kernel
theorem xd_Fm_copyFrom_17 : decode xb_Fm_copyFrom 17 = .ok (.invokevirtual 34, 3) := by decide +kernel
theorem xd_Fm_copyFrom_20 : decode xb_Fm_copyFrom 20 = .ok (.aload_n 1, 1) := by decide +kernel
theorem xd_Fm_copyFrom_21 : decode xb_Fm_copyFrom 21 = .ok (.getfield 11, 3) := by decide +kernel
theorem xd_Fm_copyFrom_24 : decode xb_Fm_copyFrom 24 = .ok (.iconst 0, 1) := by decide +kernel
theorem xd_Fm_copyFrom_25 : decode xb_Fm_copyFrom 25 = .ok (.aload_n 0, 1) := by decide +kernel
theorem xd_Fm_copyFrom_26 : decode xb_Fm_copyFrom 26 = .ok (.getfield 11, 3) := by decide +kernel
theorem xd_Fm_copyFrom_29 : decode xb_Fm_copyFrom 29 = .ok (.iconst 0, 1) := by decide +kernel
theorem xd_Fm_copyFrom_30 : decode xb_Fm_copyFrom 30 = .ok (.bipush 7, 2) := by decide +kernel
theorem xd_Fm_copyFrom_32 : decode xb_Fm_copyFrom 32 = .ok (.invokestatic 38, 3) := by decide +kernel
theorem xd_Fm_copyFrom_35 : decode xb_Fm_copyFrom 35 = .ok (.return_, 1) := by decide +kernel
abbrev xb_Wi_copyToEnd : ByteArray := prog_9_method_6_code
def xy_Wi_copyToEnd : MethodName := ⟨R_Wi, "copyToEnd", "(I)V"⟩
abbrev xrm_Wi_copyToEnd : Room := { frames := 3, cells := 0, slots := 0, locals := 68 }
theorem xK_Wi_copyToEnd : Cond.code xy_Wi_copyToEnd xb_Wi_copyToEnd 2 none ∈ vTB := vTB_in 634 (by decide +kernel) rfl
theorem xI_Wi_copyToEnd : Cond.instanceMethod xy_Wi_copyToEnd ∈ vTB := vTB_in 632 (by decide +kernel) rfl
theorem xS_Wi_copyToEnd : Cond.selects R_Wi xy_Wi_copyToEnd xy_Wi_copyToEnd ∈ vTB := vTB_in 633 (by decide +kernel) rfl
theorem xw_Wi_copyToEnd {R : Room} {s : State} {args : Array Value} {own : String} {index : Nat} (hts : ∀ w ∈ vTB, w.before args s = true) (hl : Cond.methodLink own index xy_Wi_copyToEnd ∈ vTB) (hR : xrm_Wi_copyToEnd.frames + 1 ≤ R.frames ∧ 8 + (2 + 11) + xrm_Wi_copyToEnd.locals ≤ R.locals) : CallW R s args own R_Wi index xy_Wi_copyToEnd xb_Wi_copyToEnd 2 none (Cond.code xy_Wi_copyToEnd xb_Wi_copyToEnd 2 none :: vTB) xrm_Wi_copyToEnd 0 0 1 := cwV 1 hts (fw_gV vTB_good xK_Wi_copyToEnd hl xI_Wi_copyToEnd xS_Wi_copyToEnd N_Wi) rfl rfl rfl (by decide +kernel) hR
theorem xd_Wi_copyToEnd_0 : decode xb_Wi_copyToEnd 0 = .ok (.aload_n 0, 1) := by decide +kernel
theorem xd_Wi_copyToEnd_1 : decode xb_Wi_copyToEnd 1 = .ok (.getfield 11, 3) := by decide +kernel
theorem xd_Wi_copyToEnd_4 : decode xb_Wi_copyToEnd 4 = .ok (.aload_n 0, 1) := by decide +kernel
theorem xd_Wi_copyToEnd_5 : decode xb_Wi_copyToEnd 5 = .ok (.getfield 20, 3) := by decide +kernel
theorem xd_Wi_copyToEnd_8 : decode xb_Wi_copyToEnd 8 = .ok (.aaload, 1) := by decide +kernel
theorem xd_Wi_copyToEnd_9 : decode xb_Wi_copyToEnd 9 = .ok (.aload_n 0, 1) := by decide +kernel
theorem xd_Wi_copyToEnd_10 : decode xb_Wi_copyToEnd 10 = .ok (.getfield 11, 3) := by decide +kernel
theorem xd_Wi_copyToEnd_13 : decode xb_Wi_copyToEnd 13 = .ok (.iload_n 1, 1) := by decide +kernel
theorem xd_Wi_copyToEnd_14 : decode xb_Wi_copyToEnd 14 = .ok (.aaload, 1) := by decide +kernel
theorem xd_Wi_copyToEnd_15 : decode xb_Wi_copyToEnd 15 = .ok (.invokevirtual 44, 3) := by decide +kernel
theorem xd_Wi_copyToEnd_18 : decode xb_Wi_copyToEnd 18 = .ok (.aload_n 0, 1) := by decide +kernel
theorem xd_Wi_copyToEnd_19 : decode xb_Wi_copyToEnd 19 = .ok (.dup, 1) := by decide +kernel
theorem xd_Wi_copyToEnd_20 : decode xb_Wi_copyToEnd 20 = .ok (.getfield 20, 3) := by decide +kernel
theorem xd_Wi_copyToEnd_23 : decode xb_Wi_copyToEnd 23 = .ok (.iconst 1, 1) := by decide +kernel
theorem xd_Wi_copyToEnd_24 : decode xb_Wi_copyToEnd 24 = .ok (.iadd, 1) := by decide +kernel
theorem xd_Wi_copyToEnd_25 : decode xb_Wi_copyToEnd 25 = .ok (.putfield 20, 3) := by decide +kernel
theorem xd_Wi_copyToEnd_28 : decode xb_Wi_copyToEnd 28 = .ok (.return_, 1) := by decide +kernel
abbrev xb_FR_repeat : ByteArray := prog_1_method_14_code
def xy_FR_repeat : MethodName := ⟨R_FR, "repeat", "(I)I"⟩
abbrev xrm_FR_repeat : Room := { frames := 4, cells := 0, slots := 0, locals := 89 }
theorem xK_FR_repeat : Cond.code xy_FR_repeat xb_FR_repeat 2 (some .int) ∈ vTB := vTB_in 629 (by decide +kernel) rfl
theorem xI_FR_repeat : Cond.instanceMethod xy_FR_repeat ∈ vTB := vTB_in 627 (by decide +kernel) rfl
theorem xS_FR_repeat : Cond.selects R_FR xy_FR_repeat xy_FR_repeat ∈ vTB := vTB_in 628 (by decide +kernel) rfl
theorem xw_FR_repeat {R : Room} {s : State} {args : Array Value} {own : String} {index : Nat} (hts : ∀ w ∈ vTB, w.before args s = true) (hl : Cond.methodLink own index xy_FR_repeat ∈ vTB) (hR : xrm_FR_repeat.frames + 1 ≤ R.frames ∧ 8 + (2 + 11) + xrm_FR_repeat.locals ≤ R.locals) : CallW R s args own R_FR index xy_FR_repeat xb_FR_repeat 2 (some .int) (Cond.code xy_FR_repeat xb_FR_repeat 2 (some .int) :: vTB) xrm_FR_repeat 0 0 1 := cwV 1 hts (fw_gV vTB_good xK_FR_repeat hl xI_FR_repeat xS_FR_repeat N_FR) rfl rfl rfl (by decide +kernel) hR
theorem xd_FR_repeat_0 : decode xb_FR_repeat 0 = .ok (.aload_n 0, 1) := by decide +kernel
theorem xd_FR_repeat_1 : decode xb_FR_repeat 1 = .ok (.getfield 19, 3) := by decide +kernel
theorem xd_FR_repeat_4 : decode xb_FR_repeat 4 = .ok (.iload_n 1, 1) := by decide +kernel
theorem xd_FR_repeat_5 : decode xb_FR_repeat 5 = .ok (.invokevirtual 127, 3) := by decide +kernel
theorem xd_FR_repeat_8 : decode xb_FR_repeat 8 = .ok (.ifCond .eq 13, 3) := by decide +kernel
theorem xd_FR_repeat_11 : decode xb_FR_repeat 11 = .ok (.aload_n 0, 1) := by decide +kernel
theorem xd_FR_repeat_12 : decode xb_FR_repeat 12 = .ok (.getfield 19, 3) := by decide +kernel
theorem xd_FR_repeat_15 : decode xb_FR_repeat 15 = .ok (.invokevirtual 150, 3) := by decide +kernel
theorem xd_FR_repeat_18 : decode xb_FR_repeat 18 = .ok (.ifCond .eq 6, 3) := by decide +kernel
theorem xd_FR_repeat_21 : decode xb_FR_repeat 21 = .ok (.bipush (-2), 2) := by decide +kernel
theorem xd_FR_repeat_23 : decode xb_FR_repeat 23 = .ok (.ireturn, 1) := by decide +kernel
theorem xd_FR_repeat_24 : decode xb_FR_repeat 24 = .ok (.aload_n 0, 1) := by decide +kernel
theorem xd_FR_repeat_25 : decode xb_FR_repeat 25 = .ok (.getfield 19, 3) := by decide +kernel
theorem xd_FR_repeat_28 : decode xb_FR_repeat 28 = .ok (.iload_n 1, 1) := by decide +kernel
theorem xd_FR_repeat_29 : decode xb_FR_repeat 29 = .ok (.invokevirtual 153, 3) := by decide +kernel
theorem xd_FR_repeat_32 : decode xb_FR_repeat 32 = .ok (.aload_n 0, 1) := by decide +kernel
theorem xd_FR_repeat_33 : decode xb_FR_repeat 33 = .ok (.getfield 19, 3) := by decide +kernel
theorem xd_FR_repeat_36 : decode xb_FR_repeat 36 = .ok (.getfield 147, 3) := by decide +kernel
theorem xd_FR_repeat_39 : decode xb_FR_repeat 39 = .ok (.ireturn, 1) := by decide +kernel
abbrev xb_Cy_nextToSend : ByteArray := prog_4_method_3_code
def xy_Cy_nextToSend : MethodName := ⟨R_Cy, "nextToSend", "()I"⟩
abbrev xrm_Cy_nextToSend : Room := { frames := 0, cells := 0, slots := 0, locals := 0 }
theorem xK_Cy_nextToSend : Cond.code xy_Cy_nextToSend xb_Cy_nextToSend 2 (some .int) ∈ vTB := vTB_in 660 (by decide +kernel) rfl
theorem xI_Cy_nextToSend : Cond.instanceMethod xy_Cy_nextToSend ∈ vTB := vTB_in 658 (by decide +kernel) rfl
theorem xS_Cy_nextToSend : Cond.selects R_Cy xy_Cy_nextToSend xy_Cy_nextToSend ∈ vTB := vTB_in 659 (by decide +kernel) rfl
theorem xw_Cy_nextToSend {R : Room} {s : State} {args : Array Value} {own : String} {index : Nat} (hts : ∀ w ∈ vTB, w.before args s = true) (hl : Cond.methodLink own index xy_Cy_nextToSend ∈ vTB) (hR : xrm_Cy_nextToSend.frames + 1 ≤ R.frames ∧ 8 + (2 + 11) + xrm_Cy_nextToSend.locals ≤ R.locals) : CallW R s args own R_Cy index xy_Cy_nextToSend xb_Cy_nextToSend 2 (some .int) (Cond.code xy_Cy_nextToSend xb_Cy_nextToSend 2 (some .int) :: vTB) xrm_Cy_nextToSend 0 0 0 := cwV 0 hts (fw_gV vTB_good xK_Cy_nextToSend hl xI_Cy_nextToSend xS_Cy_nextToSend N_Cy) rfl rfl rfl (by decide +kernel) hR
theorem xd_Cy_nextToSend_0 : decode xb_Cy_nextToSend 0 = .ok (.aload_n 0, 1) := by decide +kernel
theorem xd_Cy_nextToSend_1 : decode xb_Cy_nextToSend 1 = .ok (.getfield 15, 3) := by decide +kernel
theorem xd_Cy_nextToSend_4 : decode xb_Cy_nextToSend 4 = .ok (.istore_n 1, 1) := by decide +kernel
theorem xd_Cy_nextToSend_5 : decode xb_Cy_nextToSend 5 = .ok (.aload_n 0, 1) := by decide +kernel
theorem xd_Cy_nextToSend_6 : decode xb_Cy_nextToSend 6 = .ok (.aload_n 0, 1) := by decide +kernel
theorem xd_Cy_nextToSend_7 : decode xb_Cy_nextToSend 7 = .ok (.getfield 15, 3) := by decide +kernel
theorem xd_Cy_nextToSend_10 : decode xb_Cy_nextToSend 10 = .ok (.iconst 1, 1) := by decide +kernel
theorem xd_Cy_nextToSend_11 : decode xb_Cy_nextToSend 11 = .ok (.iadd, 1) := by decide +kernel
theorem xd_Cy_nextToSend_12 : decode xb_Cy_nextToSend 12 = .ok (.sipush 255, 3) := by decide +kernel
theorem xd_Cy_nextToSend_15 : decode xb_Cy_nextToSend 15 = .ok (.iand, 1) := by decide +kernel
theorem xd_Cy_nextToSend_16 : decode xb_Cy_nextToSend 16 = .ok (.putfield 15, 3) := by decide +kernel
theorem xd_Cy_nextToSend_19 : decode xb_Cy_nextToSend 19 = .ok (.iload_n 1, 1) := by decide +kernel
theorem xd_Cy_nextToSend_20 : decode xb_Cy_nextToSend 20 = .ok (.ireturn, 1) := by decide +kernel
abbrev xb_Re_sendOutput : ByteArray := prog_8_method_23_code
def xy_Re_sendOutput : MethodName := ⟨R_Re, "sendOutput", "()V"⟩
abbrev xrm_Re_sendOutput : Room := { frames := 3, cells := 0, slots := 0, locals := 72 }
theorem xK_Re_sendOutput : Cond.code xy_Re_sendOutput xb_Re_sendOutput 5 none ∈ vTB := vTB_in 656 (by decide +kernel) rfl
theorem xI_Re_sendOutput : Cond.instanceMethod xy_Re_sendOutput ∈ vTB := vTB_in 655 (by decide +kernel) rfl
theorem xS_Re_sendOutput : Cond.selects R_Re xy_Re_sendOutput xy_Re_sendOutput ∈ vTB := vTB_sel (q := (xy_Re_sendOutput, 20)) 29 (by decide +kernel)
theorem xw_Re_sendOutput {R : Room} {s : State} {args : Array Value} {own : String} {index : Nat} (hts : ∀ w ∈ vTB, w.before args s = true) (hl : Cond.methodLink own index xy_Re_sendOutput ∈ vTB) (hR : xrm_Re_sendOutput.frames + 1 ≤ R.frames ∧ 8 + (5 + 11) + xrm_Re_sendOutput.locals ≤ R.locals) : CallW R s args own R_Re index xy_Re_sendOutput xb_Re_sendOutput 5 none (Cond.code xy_Re_sendOutput xb_Re_sendOutput 5 none :: vTB) xrm_Re_sendOutput 0 0 0 := cwV 0 hts (fw_gV vTB_good xK_Re_sendOutput hl xI_Re_sendOutput xS_Re_sendOutput N_Re) rfl rfl rfl (by decide +kernel) hR
theorem xd_Re_sendOutput_0 : decode xb_Re_sendOutput 0 = .ok (.aload_n 0, 1) := by decide +kernel
theorem xd_Re_sendOutput_1 : decode xb_Re_sendOutput 1 = .ok (.getfield 42, 3) := by decide +kernel
theorem xd_Re_sendOutput_4 : decode xb_Re_sendOutput 4 = .ok (.bipush 12, 2) := by decide +kernel
theorem xd_Re_sendOutput_6 : decode xb_Re_sendOutput 6 = .ok (.aload_n 0, 1) := by decide +kernel
theorem xd_Re_sendOutput_7 : decode xb_Re_sendOutput 7 = .ok (.getfield 59, 3) := by decide +kernel
theorem xd_Re_sendOutput_10 : decode xb_Re_sendOutput 10 = .ok (.aload_n 0, 1) := by decide +kernel
theorem xd_Re_sendOutput_11 : decode xb_Re_sendOutput 11 = .ok (.getfield 12, 3) := by decide +kernel
theorem xd_Re_sendOutput_14 : decode xb_Re_sendOutput 14 = .ok (.invokevirtual 192, 3) := by decide +kernel
theorem xd_Re_sendOutput_17 : decode xb_Re_sendOutput 17 = .ok (.aload_n 0, 1) := by decide +kernel
theorem xd_Re_sendOutput_18 : decode xb_Re_sendOutput 18 = .ok (.getfield 31, 3) := by decide +kernel
theorem xd_Re_sendOutput_21 : decode xb_Re_sendOutput 21 = .ok (.invokevirtual 145, 3) := by decide +kernel
theorem xd_Re_sendOutput_24 : decode xb_Re_sendOutput 24 = .ok (.astore_n 1, 1) := by decide +kernel
theorem xd_Re_sendOutput_25 : decode xb_Re_sendOutput 25 = .ok (.iconst 0, 1) := by decide +kernel
theorem xd_Re_sendOutput_26 : decode xb_Re_sendOutput 26 = .ok (.istore_n 2, 1) := by decide +kernel
theorem xd_Re_sendOutput_27 : decode xb_Re_sendOutput 27 = .ok (.iload_n 2, 1) := by decide +kernel
theorem xd_Re_sendOutput_28 : decode xb_Re_sendOutput 28 = .ok (.iconst 3, 1) := by decide +kernel
theorem xd_Re_sendOutput_29 : decode xb_Re_sendOutput 29 = .ok (.if_icmp .ge 75, 3) := by decide +kernel
theorem xd_Re_sendOutput_32 : decode xb_Re_sendOutput 32 = .ok (.aload_n 0, 1) := by decide +kernel
theorem xd_Re_sendOutput_33 : decode xb_Re_sendOutput 33 = .ok (.getfield 62, 3) := by decide +kernel
theorem xd_Re_sendOutput_36 : decode xb_Re_sendOutput 36 = .ok (.iload_n 2, 1) := by decide +kernel
theorem xd_Re_sendOutput_37 : decode xb_Re_sendOutput 37 = .ok (.invokestatic 179, 3) := by decide +kernel
theorem xd_Re_sendOutput_40 : decode xb_Re_sendOutput 40 = .ok (.ifCond .eq 7, 3) := by decide +kernel
theorem xd_Re_sendOutput_43 : decode xb_Re_sendOutput 43 = .ok (.iconst 0, 1) := by decide +kernel
theorem xd_Re_sendOutput_44 : decode xb_Re_sendOutput 44 = .ok (.goto 16, 3) := by decide +kernel
theorem xd_Re_sendOutput_47 : decode xb_Re_sendOutput 47 = .ok (.aload_n 0, 1) := by decide +kernel
theorem xd_Re_sendOutput_48 : decode xb_Re_sendOutput 48 = .ok (.getfield 38, 3) := by decide +kernel
theorem xd_Re_sendOutput_51 : decode xb_Re_sendOutput 51 = .ok (.aload_n 0, 1) := by decide +kernel
theorem xd_Re_sendOutput_52 : decode xb_Re_sendOutput 52 = .ok (.getfield 18, 3) := by decide +kernel
theorem xd_Re_sendOutput_55 : decode xb_Re_sendOutput 55 = .ok (.iload_n 2, 1) := by decide +kernel
theorem xd_Re_sendOutput_56 : decode xb_Re_sendOutput 56 = .ok (.iaload, 1) := by decide +kernel
theorem xd_Re_sendOutput_57 : decode xb_Re_sendOutput 57 = .ok (.invokevirtual 196, 3) := by decide +kernel
theorem xd_Re_sendOutput_60 : decode xb_Re_sendOutput 60 = .ok (.istore_n 3, 1) := by decide +kernel
theorem xd_Re_sendOutput_61 : decode xb_Re_sendOutput 61 = .ok (.iconst 0, 1) := by decide +kernel
theorem xd_Re_sendOutput_62 : decode xb_Re_sendOutput 62 = .ok (.istore 4, 2) := by decide +kernel
theorem xd_Re_sendOutput_64 : decode xb_Re_sendOutput 64 = .ok (.iload 4, 2) := by decide +kernel
theorem xd_Re_sendOutput_66 : decode xb_Re_sendOutput 66 = .ok (.iload_n 3, 1) := by decide +kernel
theorem xd_Re_sendOutput_67 : decode xb_Re_sendOutput 67 = .ok (.if_icmp .ge 31, 3) := by decide +kernel
theorem xd_Re_sendOutput_70 : decode xb_Re_sendOutput 70 = .ok (.aload_n 1, 1) := by decide +kernel
theorem xd_Re_sendOutput_71 : decode xb_Re_sendOutput 71 = .ok (.getfield 130, 3) := by decide +kernel
theorem xd_Re_sendOutput_74 : decode xb_Re_sendOutput 74 = .ok (.iload_n 2, 1) := by decide +kernel
theorem xd_Re_sendOutput_75 : decode xb_Re_sendOutput 75 = .ok (.iload 4, 2) := by decide +kernel
theorem xd_Re_sendOutput_77 : decode xb_Re_sendOutput 77 = .ok (.invokestatic 200, 3) := by decide +kernel
theorem xd_Re_sendOutput_80 : decode xb_Re_sendOutput 80 = .ok (.aload_n 0, 1) := by decide +kernel
theorem xd_Re_sendOutput_81 : decode xb_Re_sendOutput 81 = .ok (.getfield 25, 3) := by decide +kernel
theorem xd_Re_sendOutput_84 : decode xb_Re_sendOutput 84 = .ok (.iload_n 2, 1) := by decide +kernel
theorem xd_Re_sendOutput_85 : decode xb_Re_sendOutput 85 = .ok (.iload 4, 2) := by decide +kernel
theorem xd_Re_sendOutput_87 : decode xb_Re_sendOutput 87 = .ok (.invokestatic 200, 3) := by decide +kernel
theorem xd_Re_sendOutput_90 : decode xb_Re_sendOutput 90 = .ok (.iaload, 1) := by decide +kernel
theorem xd_Re_sendOutput_91 : decode xb_Re_sendOutput 91 = .ok (.iastore, 1) := by decide +kernel
theorem xd_Re_sendOutput_92 : decode xb_Re_sendOutput 92 = .ok (.iinc 4 1, 3) := by decide +kernel
theorem xd_Re_sendOutput_95 : decode xb_Re_sendOutput 95 = .ok (.goto (-31), 3) := by decide +kernel
theorem xd_Re_sendOutput_98 : decode xb_Re_sendOutput 98 = .ok (.iinc 2 1, 3) := by decide +kernel
theorem xd_Re_sendOutput_101 : decode xb_Re_sendOutput 101 = .ok (.goto (-74), 3) := by decide +kernel
theorem xd_Re_sendOutput_104 : decode xb_Re_sendOutput 104 = .ok (.return_, 1) := by decide +kernel
abbrev xb_Re_passTickInData : ByteArray := prog_8_method_22_code
def xy_Re_passTickInData : MethodName := ⟨R_Re, "passTickInData", "()V"⟩
abbrev xrm_Re_passTickInData : Room := { frames := 4, cells := 0, slots := 0, locals := 96 }
theorem xK_Re_passTickInData : Cond.code xy_Re_passTickInData xb_Re_passTickInData 1 none ∈ vTB := vTB_in 652 (by decide +kernel) rfl
theorem xI_Re_passTickInData : Cond.instanceMethod xy_Re_passTickInData ∈ vTB := vTB_in 651 (by decide +kernel) rfl
theorem xS_Re_passTickInData : Cond.selects R_Re xy_Re_passTickInData xy_Re_passTickInData ∈ vTB := vTB_sel (q := (xy_Re_passTickInData, 20)) 28 (by decide +kernel)
theorem xw_Re_passTickInData {R : Room} {s : State} {args : Array Value} {own : String} {index : Nat} (hts : ∀ w ∈ vTB, w.before args s = true) (hl : Cond.methodLink own index xy_Re_passTickInData ∈ vTB) (hR : xrm_Re_passTickInData.frames + 1 ≤ R.frames ∧ 8 + (1 + 11) + xrm_Re_passTickInData.locals ≤ R.locals) : CallW R s args own R_Re index xy_Re_passTickInData xb_Re_passTickInData 1 none (Cond.code xy_Re_passTickInData xb_Re_passTickInData 1 none :: vTB) xrm_Re_passTickInData 0 0 0 := cwV 0 hts (fw_gV vTB_good xK_Re_passTickInData hl xI_Re_passTickInData xS_Re_passTickInData N_Re) rfl rfl rfl (by decide +kernel) hR
theorem xd_Re_passTickInData_0 : decode xb_Re_passTickInData 0 = .ok (.aload_n 0, 1) := by decide +kernel
theorem xd_Re_passTickInData_1 : decode xb_Re_passTickInData 1 = .ok (.getfield 115, 3) := by decide +kernel
theorem xd_Re_passTickInData_4 : decode xb_Re_passTickInData 4 = .ok (.iconst 4, 1) := by decide +kernel
theorem xd_Re_passTickInData_5 : decode xb_Re_passTickInData 5 = .ok (.if_icmp .lt 20, 3) := by decide +kernel
theorem xd_Re_passTickInData_8 : decode xb_Re_passTickInData 8 = .ok (.aload_n 0, 1) := by decide +kernel
theorem xd_Re_passTickInData_9 : decode xb_Re_passTickInData 9 = .ok (.dup, 1) := by decide +kernel
theorem xd_Re_passTickInData_10 : decode xb_Re_passTickInData 10 = .ok (.getfield 186, 3) := by decide +kernel
theorem xd_Re_passTickInData_13 : decode xb_Re_passTickInData 13 = .ok (.iconst 1, 1) := by decide +kernel
theorem xd_Re_passTickInData_14 : decode xb_Re_passTickInData 14 = .ok (.iadd, 1) := by decide +kernel
theorem xd_Re_passTickInData_15 : decode xb_Re_passTickInData 15 = .ok (.putfield 186, 3) := by decide +kernel
theorem xd_Re_passTickInData_18 : decode xb_Re_passTickInData 18 = .ok (.aload_n 0, 1) := by decide +kernel
theorem xd_Re_passTickInData_19 : decode xb_Re_passTickInData 19 = .ok (.invokevirtual 75, 3) := by decide +kernel
theorem xd_Re_passTickInData_22 : decode xb_Re_passTickInData 22 = .ok (.goto 7, 3) := by decide +kernel
theorem xd_Re_passTickInData_25 : decode xb_Re_passTickInData 25 = .ok (.aload_n 0, 1) := by decide +kernel
theorem xd_Re_passTickInData_26 : decode xb_Re_passTickInData 26 = .ok (.invokevirtual 189, 3) := by decide +kernel
theorem xd_Re_passTickInData_29 : decode xb_Re_passTickInData 29 = .ok (.return_, 1) := by decide +kernel
abbrev xb_Re_requestAgain : ByteArray := prog_8_method_19_code
def xy_Re_requestAgain : MethodName := ⟨R_Re, "requestAgain", "()V"⟩
abbrev xrm_Re_requestAgain : Room := { frames := 5, cells := 0, slots := 0, locals := 114 }
theorem xK_Re_requestAgain : Cond.code xy_Re_requestAgain xb_Re_requestAgain 1 none ∈ vTB := vTB_in 666 (by decide +kernel) rfl
theorem xI_Re_requestAgain : Cond.instanceMethod xy_Re_requestAgain ∈ vTB := vTB_in 665 (by decide +kernel) rfl
theorem xS_Re_requestAgain : Cond.selects R_Re xy_Re_requestAgain xy_Re_requestAgain ∈ vTB := vTB_sel (q := (xy_Re_requestAgain, 20)) 30 (by decide +kernel)
theorem xw_Re_requestAgain {R : Room} {s : State} {args : Array Value} {own : String} {index : Nat} (hts : ∀ w ∈ vTB, w.before args s = true) (hl : Cond.methodLink own index xy_Re_requestAgain ∈ vTB) (hR : xrm_Re_requestAgain.frames + 1 ≤ R.frames ∧ 8 + (1 + 11) + xrm_Re_requestAgain.locals ≤ R.locals) : CallW R s args own R_Re index xy_Re_requestAgain xb_Re_requestAgain 1 none (Cond.code xy_Re_requestAgain xb_Re_requestAgain 1 none :: vTB) xrm_Re_requestAgain 0 0 0 := cwV 0 hts (fw_gV vTB_good xK_Re_requestAgain hl xI_Re_requestAgain xS_Re_requestAgain N_Re) rfl rfl rfl (by decide +kernel) hR
theorem xd_Re_requestAgain_0 : decode xb_Re_requestAgain 0 = .ok (.aload_n 0, 1) := by decide +kernel
theorem xd_Re_requestAgain_1 : decode xb_Re_requestAgain 1 = .ok (.getfield 127, 3) := by decide +kernel
theorem xd_Re_requestAgain_4 : decode xb_Re_requestAgain 4 = .ok (.iconst 2, 1) := by decide +kernel
theorem xd_Re_requestAgain_5 : decode xb_Re_requestAgain 5 = .ok (.if_icmp .ge 25, 3) := by decide +kernel
theorem xd_Re_requestAgain_8 : decode xb_Re_requestAgain 8 = .ok (.aload_n 0, 1) := by decide +kernel
theorem xd_Re_requestAgain_9 : decode xb_Re_requestAgain 9 = .ok (.dup, 1) := by decide +kernel
theorem xd_Re_requestAgain_10 : decode xb_Re_requestAgain 10 = .ok (.getfield 127, 3) := by decide +kernel
theorem xd_Re_requestAgain_13 : decode xb_Re_requestAgain 13 = .ok (.iconst 1, 1) := by decide +kernel
theorem xd_Re_requestAgain_14 : decode xb_Re_requestAgain 14 = .ok (.iadd, 1) := by decide +kernel
theorem xd_Re_requestAgain_15 : decode xb_Re_requestAgain 15 = .ok (.putfield 127, 3) := by decide +kernel
theorem xd_Re_requestAgain_18 : decode xb_Re_requestAgain 18 = .ok (.aload_n 0, 1) := by decide +kernel
theorem xd_Re_requestAgain_19 : decode xb_Re_requestAgain 19 = .ok (.iconst 0, 1) := by decide +kernel
theorem xd_Re_requestAgain_20 : decode xb_Re_requestAgain 20 = .ok (.putfield 115, 3) := by decide +kernel
theorem xd_Re_requestAgain_23 : decode xb_Re_requestAgain 23 = .ok (.aload_n 0, 1) := by decide +kernel
theorem xd_Re_requestAgain_24 : decode xb_Re_requestAgain 24 = .ok (.invokevirtual 72, 3) := by decide +kernel
theorem xd_Re_requestAgain_27 : decode xb_Re_requestAgain 27 = .ok (.goto 22, 3) := by decide +kernel
theorem xd_Re_requestAgain_30 : decode xb_Re_requestAgain 30 = .ok (.aload_n 0, 1) := by decide +kernel
theorem xd_Re_requestAgain_31 : decode xb_Re_requestAgain 31 = .ok (.getfield 56, 3) := by decide +kernel
theorem xd_Re_requestAgain_34 : decode xb_Re_requestAgain 34 = .ok (.iconst 1, 1) := by decide +kernel
theorem xd_Re_requestAgain_35 : decode xb_Re_requestAgain 35 = .ok (.if_icmp .ne 10, 3) := by decide +kernel
theorem xd_Re_requestAgain_38 : decode xb_Re_requestAgain 38 = .ok (.aload_n 0, 1) := by decide +kernel
theorem xd_Re_requestAgain_39 : decode xb_Re_requestAgain 39 = .ok (.invokevirtual 78, 3) := by decide +kernel
theorem xd_Re_requestAgain_42 : decode xb_Re_requestAgain 42 = .ok (.goto 7, 3) := by decide +kernel
theorem xd_Re_requestAgain_45 : decode xb_Re_requestAgain 45 = .ok (.aload_n 0, 1) := by decide +kernel
theorem xd_Re_requestAgain_46 : decode xb_Re_requestAgain 46 = .ok (.invokevirtual 75, 3) := by decide +kernel
theorem xd_Re_requestAgain_49 : decode xb_Re_requestAgain 49 = .ok (.return_, 1) := by decide +kernel
abbrev xb_Re_passTick : ByteArray := prog_8_method_7_code
def xy_Re_passTick : MethodName := ⟨R_Re, "passTick", "()V"⟩
abbrev xrm_Re_passTick : Room := { frames := 6, cells := 0, slots := 0, locals := 134 }
theorem xK_Re_passTick : Cond.code xy_Re_passTick xb_Re_passTick 1 none ∈ vTB := vTB_in 648 (by decide +kernel) rfl
theorem xI_Re_passTick : Cond.instanceMethod xy_Re_passTick ∈ vTB := vTB_in 646 (by decide +kernel) rfl
theorem xS_Re_passTick : Cond.selects R_Re xy_Re_passTick xy_Re_passTick ∈ vTB := vTB_in 647 (by decide +kernel) rfl
theorem xw_Re_passTick {R : Room} {s : State} {args : Array Value} {own : String} {index : Nat} (hts : ∀ w ∈ vTB, w.before args s = true) (hl : Cond.methodLink own index xy_Re_passTick ∈ vTB) (hR : xrm_Re_passTick.frames + 1 ≤ R.frames ∧ 8 + (1 + 11) + xrm_Re_passTick.locals ≤ R.locals) : CallW R s args own R_Re index xy_Re_passTick xb_Re_passTick 1 none (Cond.code xy_Re_passTick xb_Re_passTick 1 none :: vTB) xrm_Re_passTick 0 0 0 := cwV 0 hts (fw_gV vTB_good xK_Re_passTick hl xI_Re_passTick xS_Re_passTick N_Re) rfl rfl rfl (by decide +kernel) hR
theorem xd_Re_passTick_0 : decode xb_Re_passTick 0 = .ok (.aload_n 0, 1) := by decide +kernel
theorem xd_Re_passTick_1 : decode xb_Re_passTick 1 = .ok (.getfield 56, 3) := by decide +kernel
theorem xd_Re_passTick_4 : decode xb_Re_passTick 4 = .ok (.ifCond .ne 4, 3) := by decide +kernel
theorem xd_Re_passTick_7 : decode xb_Re_passTick 7 = .ok (.return_, 1) := by decide +kernel
theorem xd_Re_passTick_8 : decode xb_Re_passTick 8 = .ok (.aload_n 0, 1) := by decide +kernel
theorem xd_Re_passTick_9 : decode xb_Re_passTick 9 = .ok (.dup, 1) := by decide +kernel
theorem xd_Re_passTick_10 : decode xb_Re_passTick 10 = .ok (.getfield 115, 3) := by decide +kernel
theorem xd_Re_passTick_13 : decode xb_Re_passTick 13 = .ok (.iconst 1, 1) := by decide +kernel
theorem xd_Re_passTick_14 : decode xb_Re_passTick 14 = .ok (.iadd, 1) := by decide +kernel
theorem xd_Re_passTick_15 : decode xb_Re_passTick 15 = .ok (.putfield 115, 3) := by decide +kernel
theorem xd_Re_passTick_18 : decode xb_Re_passTick 18 = .ok (.aload_n 0, 1) := by decide +kernel
theorem xd_Re_passTick_19 : decode xb_Re_passTick 19 = .ok (.getfield 56, 3) := by decide +kernel
theorem xd_Re_passTick_22 : decode xb_Re_passTick 22 = .ok (.bipush 6, 2) := by decide +kernel
theorem xd_Re_passTick_24 : decode xb_Re_passTick 24 = .ok (.if_icmp .ne 10, 3) := by decide +kernel
theorem xd_Re_passTick_27 : decode xb_Re_passTick 27 = .ok (.aload_n 0, 1) := by decide +kernel
theorem xd_Re_passTick_28 : decode xb_Re_passTick 28 = .ok (.invokevirtual 118, 3) := by decide +kernel
theorem xd_Re_passTick_31 : decode xb_Re_passTick 31 = .ok (.goto 39, 3) := by decide +kernel
theorem xd_Re_passTick_34 : decode xb_Re_passTick 34 = .ok (.aload_n 0, 1) := by decide +kernel
theorem xd_Re_passTick_35 : decode xb_Re_passTick 35 = .ok (.getfield 56, 3) := by decide +kernel
theorem xd_Re_passTick_38 : decode xb_Re_passTick 38 = .ok (.iconst 5, 1) := by decide +kernel
theorem xd_Re_passTick_39 : decode xb_Re_passTick 39 = .ok (.if_icmp .ne 19, 3) := by decide +kernel
theorem xd_Re_passTick_42 : decode xb_Re_passTick 42 = .ok (.aload_n 0, 1) := by decide +kernel
theorem xd_Re_passTick_43 : decode xb_Re_passTick 43 = .ok (.getfield 115, 3) := by decide +kernel
theorem xd_Re_passTick_46 : decode xb_Re_passTick 46 = .ok (.bipush 12, 2) := by decide +kernel
theorem xd_Re_passTick_48 : decode xb_Re_passTick 48 = .ok (.if_icmp .lt 22, 3) := by decide +kernel
theorem xd_Re_passTick_51 : decode xb_Re_passTick 51 = .ok (.aload_n 0, 1) := by decide +kernel
theorem xd_Re_passTick_52 : decode xb_Re_passTick 52 = .ok (.invokevirtual 75, 3) := by decide +kernel
theorem xd_Re_passTick_55 : decode xb_Re_passTick 55 = .ok (.goto 15, 3) := by decide +kernel
theorem xd_Re_passTick_58 : decode xb_Re_passTick 58 = .ok (.aload_n 0, 1) := by decide +kernel
theorem xd_Re_passTick_59 : decode xb_Re_passTick 59 = .ok (.getfield 115, 3) := by decide +kernel
theorem xd_Re_passTick_62 : decode xb_Re_passTick 62 = .ok (.iconst 4, 1) := by decide +kernel
theorem xd_Re_passTick_63 : decode xb_Re_passTick 63 = .ok (.if_icmp .lt 7, 3) := by decide +kernel
theorem xd_Re_passTick_66 : decode xb_Re_passTick 66 = .ok (.aload_n 0, 1) := by decide +kernel
theorem xd_Re_passTick_67 : decode xb_Re_passTick 67 = .ok (.invokevirtual 121, 3) := by decide +kernel
theorem xd_Re_passTick_70 : decode xb_Re_passTick 70 = .ok (.return_, 1) := by decide +kernel
