abbrev xb_AQ_isDueThisTick : ByteArray := prog_3_method_6_code
def xy_AQ_isDueThisTick : MethodName := ⟨R_AQ, "isDueThisTick", "()Z"⟩
abbrev xrm_AQ_isDueThisTick : Room := { frames := 0, cells := 0, slots := 0, locals := 0 }
theorem xK_AQ_isDueThisTick : Cond.code xy_AQ_isDueThisTick xb_AQ_isDueThisTick 1 (some .boolean) ∈ vTB := vTB_in 678 (by decide +kernel) rfl
theorem xI_AQ_isDueThisTick : Cond.instanceMethod xy_AQ_isDueThisTick ∈ vTB := vTB_in 676 (by decide +kernel) rfl
theorem xS_AQ_isDueThisTick : Cond.selects R_AQ xy_AQ_isDueThisTick xy_AQ_isDueThisTick ∈ vTB := vTB_in 677 (by decide +kernel) rfl
theorem xw_AQ_isDueThisTick {R : Room} {s : State} {args : Array Value} {own : String} {index : Nat} (hts : ∀ w ∈ vTB, w.before args s = true) (hl : Cond.methodLink own index xy_AQ_isDueThisTick ∈ vTB) (hR : xrm_AQ_isDueThisTick.frames + 1 ≤ R.frames ∧ 8 + (1 + 11) + xrm_AQ_isDueThisTick.locals ≤ R.locals) : CallW R s args own R_AQ index xy_AQ_isDueThisTick xb_AQ_isDueThisTick 1 (some .boolean) (Cond.code xy_AQ_isDueThisTick xb_AQ_isDueThisTick 1 (some .boolean) :: vTB) xrm_AQ_isDueThisTick 0 0 0 := cwV 0 hts (fw_gV vTB_good xK_AQ_isDueThisTick hl xI_AQ_isDueThisTick xS_AQ_isDueThisTick N_AQ) rfl rfl rfl (by decide +kernel) hR
theorem xd_AQ_isDueThisTick_0 : decode xb_AQ_isDueThisTick 0 = .ok (.aload_n 0, 1) := by decide +kernel
theorem xd_AQ_isDueThisTick_1 : decode xb_AQ_isDueThisTick 1 = .ok (.getfield 16, 3) := by decide +kernel
theorem xd_AQ_isDueThisTick_4 : decode xb_AQ_isDueThisTick 4 = .ok (.ifCond .ne 5, 3) := by decide +kernel
theorem xd_AQ_isDueThisTick_7 : decode xb_AQ_isDueThisTick 7 = .ok (.iconst 0, 1) := by decide +kernel
theorem xd_AQ_isDueThisTick_8 : decode xb_AQ_isDueThisTick 8 = .ok (.ireturn, 1) := by decide +kernel
theorem xd_AQ_isDueThisTick_9 : decode xb_AQ_isDueThisTick 9 = .ok (.aload_n 0, 1) := by decide +kernel
theorem xd_AQ_isDueThisTick_10 : decode xb_AQ_isDueThisTick 10 = .ok (.getfield 20, 3) := by decide +kernel
theorem xd_AQ_isDueThisTick_13 : decode xb_AQ_isDueThisTick 13 = .ok (.ifCond .ne 42, 3) := by decide +kernel
theorem xd_AQ_isDueThisTick_16 : decode xb_AQ_isDueThisTick 16 = .ok (.aload_n 0, 1) := by decide +kernel
theorem xd_AQ_isDueThisTick_17 : decode xb_AQ_isDueThisTick 17 = .ok (.aload_n 0, 1) := by decide +kernel
theorem xd_AQ_isDueThisTick_18 : decode xb_AQ_isDueThisTick 18 = .ok (.getfield 23, 3) := by decide +kernel
theorem xd_AQ_isDueThisTick_21 : decode xb_AQ_isDueThisTick 21 = .ok (.sipush 255, 3) := by decide +kernel
theorem xd_AQ_isDueThisTick_24 : decode xb_AQ_isDueThisTick 24 = .ok (.if_icmp .lt 7, 3) := by decide +kernel
theorem xd_AQ_isDueThisTick_27 : decode xb_AQ_isDueThisTick 27 = .ok (.iconst 1, 1) := by decide +kernel
theorem xd_AQ_isDueThisTick_28 : decode xb_AQ_isDueThisTick 28 = .ok (.goto 9, 3) := by decide +kernel
theorem xd_AQ_isDueThisTick_31 : decode xb_AQ_isDueThisTick 31 = .ok (.aload_n 0, 1) := by decide +kernel
theorem xd_AQ_isDueThisTick_32 : decode xb_AQ_isDueThisTick 32 = .ok (.getfield 23, 3) := by decide +kernel
theorem xd_AQ_isDueThisTick_35 : decode xb_AQ_isDueThisTick 35 = .ok (.iconst 1, 1) := by decide +kernel
theorem xd_AQ_isDueThisTick_36 : decode xb_AQ_isDueThisTick 36 = .ok (.iadd, 1) := by decide +kernel
theorem xd_AQ_isDueThisTick_37 : decode xb_AQ_isDueThisTick 37 = .ok (.putfield 23, 3) := by decide +kernel
theorem xd_AQ_isDueThisTick_40 : decode xb_AQ_isDueThisTick 40 = .ok (.aload_n 0, 1) := by decide +kernel
theorem xd_AQ_isDueThisTick_41 : decode xb_AQ_isDueThisTick 41 = .ok (.aload_n 0, 1) := by decide +kernel
theorem xd_AQ_isDueThisTick_42 : decode xb_AQ_isDueThisTick 42 = .ok (.getfield 23, 3) := by decide +kernel
theorem xd_AQ_isDueThisTick_45 : decode xb_AQ_isDueThisTick 45 = .ok (.putfield 20, 3) := by decide +kernel
theorem xd_AQ_isDueThisTick_48 : decode xb_AQ_isDueThisTick 48 = .ok (.aload_n 0, 1) := by decide +kernel
theorem xd_AQ_isDueThisTick_49 : decode xb_AQ_isDueThisTick 49 = .ok (.iconst 0, 1) := by decide +kernel
theorem xd_AQ_isDueThisTick_50 : decode xb_AQ_isDueThisTick 50 = .ok (.putfield 26, 3) := by decide +kernel
theorem xd_AQ_isDueThisTick_53 : decode xb_AQ_isDueThisTick 53 = .ok (.iconst 1, 1) := by decide +kernel
theorem xd_AQ_isDueThisTick_54 : decode xb_AQ_isDueThisTick 54 = .ok (.ireturn, 1) := by decide +kernel
theorem xd_AQ_isDueThisTick_55 : decode xb_AQ_isDueThisTick 55 = .ok (.aload_n 0, 1) := by decide +kernel
theorem xd_AQ_isDueThisTick_56 : decode xb_AQ_isDueThisTick 56 = .ok (.dup, 1) := by decide +kernel
theorem xd_AQ_isDueThisTick_57 : decode xb_AQ_isDueThisTick 57 = .ok (.getfield 26, 3) := by decide +kernel
theorem xd_AQ_isDueThisTick_60 : decode xb_AQ_isDueThisTick 60 = .ok (.iconst 1, 1) := by decide +kernel
theorem xd_AQ_isDueThisTick_61 : decode xb_AQ_isDueThisTick 61 = .ok (.iadd, 1) := by decide +kernel
theorem xd_AQ_isDueThisTick_62 : decode xb_AQ_isDueThisTick 62 = .ok (.putfield 26, 3) := by decide +kernel
theorem xd_AQ_isDueThisTick_65 : decode xb_AQ_isDueThisTick 65 = .ok (.aload_n 0, 1) := by decide +kernel
theorem xd_AQ_isDueThisTick_66 : decode xb_AQ_isDueThisTick 66 = .ok (.getfield 26, 3) := by decide +kernel
theorem xd_AQ_isDueThisTick_69 : decode xb_AQ_isDueThisTick 69 = .ok (.iconst 3, 1) := by decide +kernel
theorem xd_AQ_isDueThisTick_70 : decode xb_AQ_isDueThisTick 70 = .ok (.if_icmp .ge 5, 3) := by decide +kernel
theorem xd_AQ_isDueThisTick_73 : decode xb_AQ_isDueThisTick 73 = .ok (.iconst 0, 1) := by decide +kernel
theorem xd_AQ_isDueThisTick_74 : decode xb_AQ_isDueThisTick 74 = .ok (.ireturn, 1) := by decide +kernel
theorem xd_AQ_isDueThisTick_75 : decode xb_AQ_isDueThisTick 75 = .ok (.aload_n 0, 1) := by decide +kernel
theorem xd_AQ_isDueThisTick_76 : decode xb_AQ_isDueThisTick 76 = .ok (.iconst 0, 1) := by decide +kernel
theorem xd_AQ_isDueThisTick_77 : decode xb_AQ_isDueThisTick 77 = .ok (.putfield 26, 3) := by decide +kernel
theorem xd_AQ_isDueThisTick_80 : decode xb_AQ_isDueThisTick 80 = .ok (.iconst 1, 1) := by decide +kernel
theorem xd_AQ_isDueThisTick_81 : decode xb_AQ_isDueThisTick 81 = .ok (.ireturn, 1) := by decide +kernel
abbrev xb_AQ_firstSlot : ByteArray := prog_3_method_4_code
def xy_AQ_firstSlot : MethodName := ⟨R_AQ, "firstSlot", "()I"⟩
abbrev xrm_AQ_firstSlot : Room := { frames := 0, cells := 0, slots := 0, locals := 0 }
theorem xK_AQ_firstSlot : Cond.code xy_AQ_firstSlot xb_AQ_firstSlot 1 (some .int) ∈ vTB := vTB_in 686 (by decide +kernel) rfl
theorem xI_AQ_firstSlot : Cond.instanceMethod xy_AQ_firstSlot ∈ vTB := vTB_in 684 (by decide +kernel) rfl
theorem xS_AQ_firstSlot : Cond.selects R_AQ xy_AQ_firstSlot xy_AQ_firstSlot ∈ vTB := vTB_in 685 (by decide +kernel) rfl
theorem xw_AQ_firstSlot {R : Room} {s : State} {args : Array Value} {own : String} {index : Nat} (hts : ∀ w ∈ vTB, w.before args s = true) (hl : Cond.methodLink own index xy_AQ_firstSlot ∈ vTB) (hR : xrm_AQ_firstSlot.frames + 1 ≤ R.frames ∧ 8 + (1 + 11) + xrm_AQ_firstSlot.locals ≤ R.locals) : CallW R s args own R_AQ index xy_AQ_firstSlot xb_AQ_firstSlot 1 (some .int) (Cond.code xy_AQ_firstSlot xb_AQ_firstSlot 1 (some .int) :: vTB) xrm_AQ_firstSlot 0 0 0 := cwV 0 hts (fw_gV vTB_good xK_AQ_firstSlot hl xI_AQ_firstSlot xS_AQ_firstSlot N_AQ) rfl rfl rfl (by decide +kernel) hR
theorem xd_AQ_firstSlot_0 : decode xb_AQ_firstSlot 0 = .ok (.aload_n 0, 1) := by decide +kernel
theorem xd_AQ_firstSlot_1 : decode xb_AQ_firstSlot 1 = .ok (.getfield 9, 3) := by decide +kernel
theorem xd_AQ_firstSlot_4 : decode xb_AQ_firstSlot 4 = .ok (.iconst 0, 1) := by decide +kernel
theorem xd_AQ_firstSlot_5 : decode xb_AQ_firstSlot 5 = .ok (.iaload, 1) := by decide +kernel
theorem xd_AQ_firstSlot_6 : decode xb_AQ_firstSlot 6 = .ok (.ireturn, 1) := by decide +kernel
abbrev xb_AQ_firstKindPlusOne : ByteArray := prog_3_method_5_code
def xy_AQ_firstKindPlusOne : MethodName := ⟨R_AQ, "firstKindPlusOne", "()I"⟩
abbrev xrm_AQ_firstKindPlusOne : Room := { frames := 0, cells := 0, slots := 0, locals := 0 }
theorem xK_AQ_firstKindPlusOne : Cond.code xy_AQ_firstKindPlusOne xb_AQ_firstKindPlusOne 1 (some .int) ∈ vTB := vTB_in 690 (by decide +kernel) rfl
theorem xI_AQ_firstKindPlusOne : Cond.instanceMethod xy_AQ_firstKindPlusOne ∈ vTB := vTB_in 688 (by decide +kernel) rfl
theorem xS_AQ_firstKindPlusOne : Cond.selects R_AQ xy_AQ_firstKindPlusOne xy_AQ_firstKindPlusOne ∈ vTB := vTB_in 689 (by decide +kernel) rfl
theorem xw_AQ_firstKindPlusOne {R : Room} {s : State} {args : Array Value} {own : String} {index : Nat} (hts : ∀ w ∈ vTB, w.before args s = true) (hl : Cond.methodLink own index xy_AQ_firstKindPlusOne ∈ vTB) (hR : xrm_AQ_firstKindPlusOne.frames + 1 ≤ R.frames ∧ 8 + (1 + 11) + xrm_AQ_firstKindPlusOne.locals ≤ R.locals) : CallW R s args own R_AQ index xy_AQ_firstKindPlusOne xb_AQ_firstKindPlusOne 1 (some .int) (Cond.code xy_AQ_firstKindPlusOne xb_AQ_firstKindPlusOne 1 (some .int) :: vTB) xrm_AQ_firstKindPlusOne 0 0 0 := cwV 0 hts (fw_gV vTB_good xK_AQ_firstKindPlusOne hl xI_AQ_firstKindPlusOne xS_AQ_firstKindPlusOne N_AQ) rfl rfl rfl (by decide +kernel) hR
theorem xd_AQ_firstKindPlusOne_0 : decode xb_AQ_firstKindPlusOne 0 = .ok (.aload_n 0, 1) := by decide +kernel
theorem xd_AQ_firstKindPlusOne_1 : decode xb_AQ_firstKindPlusOne 1 = .ok (.getfield 13, 3) := by decide +kernel
theorem xd_AQ_firstKindPlusOne_4 : decode xb_AQ_firstKindPlusOne 4 = .ok (.iconst 0, 1) := by decide +kernel
theorem xd_AQ_firstKindPlusOne_5 : decode xb_AQ_firstKindPlusOne 5 = .ok (.iaload, 1) := by decide +kernel
theorem xd_AQ_firstKindPlusOne_6 : decode xb_AQ_firstKindPlusOne 6 = .ok (.ireturn, 1) := by decide +kernel
abbrev xb_De_sendAlarm : ByteArray := prog_5_method_21_code
def xy_De_sendAlarm : MethodName := ⟨R_De, "sendAlarm", "()V"⟩
abbrev xrm_De_sendAlarm : Room := { frames := 3, cells := 0, slots := 0, locals := 72 }
theorem xK_De_sendAlarm : Cond.code xy_De_sendAlarm xb_De_sendAlarm 2 none ∈ vTB := vTB_in 682 (by decide +kernel) rfl
theorem xI_De_sendAlarm : Cond.instanceMethod xy_De_sendAlarm ∈ vTB := vTB_in 681 (by decide +kernel) rfl
theorem xS_De_sendAlarm : Cond.selects R_De xy_De_sendAlarm xy_De_sendAlarm ∈ vTB := vTB_sel (q := (xy_De_sendAlarm, 19)) 32 (by decide +kernel)
theorem xw_De_sendAlarm {R : Room} {s : State} {args : Array Value} {own : String} {index : Nat} (hts : ∀ w ∈ vTB, w.before args s = true) (hl : Cond.methodLink own index xy_De_sendAlarm ∈ vTB) (hR : xrm_De_sendAlarm.frames + 1 ≤ R.frames ∧ 8 + (2 + 11) + xrm_De_sendAlarm.locals ≤ R.locals) : CallW R s args own R_De index xy_De_sendAlarm xb_De_sendAlarm 2 none (Cond.code xy_De_sendAlarm xb_De_sendAlarm 2 none :: vTB) xrm_De_sendAlarm 0 0 0 := cwV 0 hts (fw_gV vTB_good xK_De_sendAlarm hl xI_De_sendAlarm xS_De_sendAlarm N_De) rfl rfl rfl (by decide +kernel) hR
theorem xd_De_sendAlarm_0 : decode xb_De_sendAlarm 0 = .ok (.aload_n 0, 1) := by decide +kernel
theorem xd_De_sendAlarm_1 : decode xb_De_sendAlarm 1 = .ok (.getfield 52, 3) := by decide +kernel
theorem xd_De_sendAlarm_4 : decode xb_De_sendAlarm 4 = .ok (.bipush 14, 2) := by decide +kernel
theorem xd_De_sendAlarm_6 : decode xb_De_sendAlarm 6 = .ok (.aload_n 0, 1) := by decide +kernel
theorem xd_De_sendAlarm_7 : decode xb_De_sendAlarm 7 = .ok (.getfield 101, 3) := by decide +kernel
theorem xd_De_sendAlarm_10 : decode xb_De_sendAlarm 10 = .ok (.aload_n 0, 1) := by decide +kernel
theorem xd_De_sendAlarm_11 : decode xb_De_sendAlarm 11 = .ok (.getfield 21, 3) := by decide +kernel
theorem xd_De_sendAlarm_14 : decode xb_De_sendAlarm 14 = .ok (.getfield 132, 3) := by decide +kernel
theorem xd_De_sendAlarm_17 : decode xb_De_sendAlarm 17 = .ok (.iconst 2, 1) := by decide +kernel
theorem xd_De_sendAlarm_18 : decode xb_De_sendAlarm 18 = .ok (.invokevirtual 138, 3) := by decide +kernel
theorem xd_De_sendAlarm_21 : decode xb_De_sendAlarm 21 = .ok (.astore_n 1, 1) := by decide +kernel
theorem xd_De_sendAlarm_22 : decode xb_De_sendAlarm 22 = .ok (.aload_n 1, 1) := by decide +kernel
theorem xd_De_sendAlarm_23 : decode xb_De_sendAlarm 23 = .ok (.getfield 144, 3) := by decide +kernel
theorem xd_De_sendAlarm_26 : decode xb_De_sendAlarm 26 = .ok (.iconst 0, 1) := by decide +kernel
theorem xd_De_sendAlarm_27 : decode xb_De_sendAlarm 27 = .ok (.aload_n 0, 1) := by decide +kernel
theorem xd_De_sendAlarm_28 : decode xb_De_sendAlarm 28 = .ok (.getfield 21, 3) := by decide +kernel
theorem xd_De_sendAlarm_31 : decode xb_De_sendAlarm 31 = .ok (.invokevirtual 206, 3) := by decide +kernel
theorem xd_De_sendAlarm_34 : decode xb_De_sendAlarm 34 = .ok (.iastore, 1) := by decide +kernel
theorem xd_De_sendAlarm_35 : decode xb_De_sendAlarm 35 = .ok (.aload_n 1, 1) := by decide +kernel
theorem xd_De_sendAlarm_36 : decode xb_De_sendAlarm 36 = .ok (.getfield 144, 3) := by decide +kernel
theorem xd_De_sendAlarm_39 : decode xb_De_sendAlarm 39 = .ok (.iconst 1, 1) := by decide +kernel
theorem xd_De_sendAlarm_40 : decode xb_De_sendAlarm 40 = .ok (.aload_n 0, 1) := by decide +kernel
theorem xd_De_sendAlarm_41 : decode xb_De_sendAlarm 41 = .ok (.getfield 21, 3) := by decide +kernel
theorem xd_De_sendAlarm_44 : decode xb_De_sendAlarm 44 = .ok (.invokevirtual 210, 3) := by decide +kernel
theorem xd_De_sendAlarm_47 : decode xb_De_sendAlarm 47 = .ok (.iastore, 1) := by decide +kernel
theorem xd_De_sendAlarm_48 : decode xb_De_sendAlarm 48 = .ok (.return_, 1) := by decide +kernel
abbrev xb_KT_insOf : ByteArray := prog_7_method_3_code
def xy_KT_insOf : MethodName := ⟨R_KT, "insOf", "(I)I"⟩
abbrev xrm_KT_insOf : Room := { frames := 0, cells := 0, slots := 0, locals := 0 }
theorem xK_KT_insOf : Cond.code xy_KT_insOf xb_KT_insOf 2 (some .int) ∈ vTB := vTB_in 703 (by decide +kernel) rfl
theorem xI_KT_insOf : Cond.instanceMethod xy_KT_insOf ∈ vTB := vTB_in 701 (by decide +kernel) rfl
theorem xS_KT_insOf : Cond.selects R_KT xy_KT_insOf xy_KT_insOf ∈ vTB := vTB_in 702 (by decide +kernel) rfl
theorem xw_KT_insOf {R : Room} {s : State} {args : Array Value} {own : String} {index : Nat} (hts : ∀ w ∈ vTB, w.before args s = true) (hl : Cond.methodLink own index xy_KT_insOf ∈ vTB) (hR : xrm_KT_insOf.frames + 1 ≤ R.frames ∧ 8 + (2 + 11) + xrm_KT_insOf.locals ≤ R.locals) : CallW R s args own R_KT index xy_KT_insOf xb_KT_insOf 2 (some .int) (Cond.code xy_KT_insOf xb_KT_insOf 2 (some .int) :: vTB) xrm_KT_insOf 0 0 1 := cwV 1 hts (fw_gV vTB_good xK_KT_insOf hl xI_KT_insOf xS_KT_insOf N_KT) rfl rfl rfl (by decide +kernel) hR
theorem xd_KT_insOf_0 : decode xb_KT_insOf 0 = .ok (.iload_n 1, 1) := by decide +kernel
theorem xd_KT_insOf_1 : decode xb_KT_insOf 1 = .ok (.ifCond .lt 18, 3) := by decide +kernel
theorem xd_KT_insOf_4 : decode xb_KT_insOf 4 = .ok (.iload_n 1, 1) := by decide +kernel
theorem xd_KT_insOf_5 : decode xb_KT_insOf 5 = .ok (.bipush 8, 2) := by decide +kernel
theorem xd_KT_insOf_7 : decode xb_KT_insOf 7 = .ok (.if_icmp .ge 12, 3) := by decide +kernel
theorem xd_KT_insOf_10 : decode xb_KT_insOf 10 = .ok (.aload_n 0, 1) := by decide +kernel
theorem xd_KT_insOf_11 : decode xb_KT_insOf 11 = .ok (.getfield 9, 3) := by decide +kernel
theorem xd_KT_insOf_14 : decode xb_KT_insOf 14 = .ok (.iload_n 1, 1) := by decide +kernel
theorem xd_KT_insOf_15 : decode xb_KT_insOf 15 = .ok (.iaload, 1) := by decide +kernel
theorem xd_KT_insOf_16 : decode xb_KT_insOf 16 = .ok (.goto 4, 3) := by decide +kernel
theorem xd_KT_insOf_19 : decode xb_KT_insOf 19 = .ok (.iconst 0, 1) := by decide +kernel
theorem xd_KT_insOf_20 : decode xb_KT_insOf 20 = .ok (.ireturn, 1) := by decide +kernel
abbrev xb_De_copySensed : ByteArray := prog_5_method_23_code
def xy_De_copySensed : MethodName := ⟨R_De, "copySensed", "(LFieldRelay$Frame;I)V"⟩
abbrev xrm_De_copySensed : Room := { frames := 1, cells := 0, slots := 0, locals := 21 }
theorem xK_De_copySensed : Cond.code xy_De_copySensed xb_De_copySensed 5 none ∈ vTB := vTB_in 699 (by decide +kernel) rfl
theorem xI_De_copySensed : Cond.instanceMethod xy_De_copySensed ∈ vTB := vTB_in 698 (by decide +kernel) rfl
theorem xS_De_copySensed : Cond.selects R_De xy_De_copySensed xy_De_copySensed ∈ vTB := vTB_sel (q := (xy_De_copySensed, 19)) 34 (by decide +kernel)
theorem xw_De_copySensed {R : Room} {s : State} {args : Array Value} {own : String} {index : Nat} (hts : ∀ w ∈ vTB, w.before args s = true) (hl : Cond.methodLink own index xy_De_copySensed ∈ vTB) (hR : xrm_De_copySensed.frames + 1 ≤ R.frames ∧ 8 + (5 + 11) + xrm_De_copySensed.locals ≤ R.locals) : CallW R s args own R_De index xy_De_copySensed xb_De_copySensed 5 none (Cond.code xy_De_copySensed xb_De_copySensed 5 none :: vTB) xrm_De_copySensed 0 0 2 := cwV 2 hts (fw_gV vTB_good xK_De_copySensed hl xI_De_copySensed xS_De_copySensed N_De) rfl rfl rfl (by decide +kernel) hR
theorem xd_De_copySensed_0 : decode xb_De_copySensed 0 = .ok (.aload_n 0, 1) := by decide +kernel
theorem xd_De_copySensed_1 : decode xb_De_copySensed 1 = .ok (.getfield 48, 3) := by decide +kernel
theorem xd_De_copySensed_4 : decode xb_De_copySensed 4 = .ok (.aload_n 0, 1) := by decide +kernel
theorem xd_De_copySensed_5 : decode xb_De_copySensed 5 = .ok (.getfield 29, 3) := by decide +kernel
theorem xd_De_copySensed_8 : decode xb_De_copySensed 8 = .ok (.iload_n 2, 1) := by decide +kernel
theorem xd_De_copySensed_9 : decode xb_De_copySensed 9 = .ok (.iaload, 1) := by decide +kernel
theorem xd_De_copySensed_10 : decode xb_De_copySensed 10 = .ok (.invokevirtual 219, 3) := by decide +kernel
theorem xd_De_copySensed_13 : decode xb_De_copySensed 13 = .ok (.istore_n 3, 1) := by decide +kernel
theorem xd_De_copySensed_14 : decode xb_De_copySensed 14 = .ok (.iconst 0, 1) := by decide +kernel
theorem xd_De_copySensed_15 : decode xb_De_copySensed 15 = .ok (.istore 4, 2) := by decide +kernel
theorem xd_De_copySensed_17 : decode xb_De_copySensed 17 = .ok (.iload 4, 2) := by decide +kernel
theorem xd_De_copySensed_19 : decode xb_De_copySensed 19 = .ok (.iload_n 3, 1) := by decide +kernel
theorem xd_De_copySensed_20 : decode xb_De_copySensed 20 = .ok (.if_icmp .ge 31, 3) := by decide +kernel
theorem xd_De_copySensed_23 : decode xb_De_copySensed 23 = .ok (.aload_n 1, 1) := by decide +kernel
theorem xd_De_copySensed_24 : decode xb_De_copySensed 24 = .ok (.getfield 144, 3) := by decide +kernel
theorem xd_De_copySensed_27 : decode xb_De_copySensed 27 = .ok (.iload_n 2, 1) := by decide +kernel
theorem xd_De_copySensed_28 : decode xb_De_copySensed 28 = .ok (.iload 4, 2) := by decide +kernel
theorem xd_De_copySensed_30 : decode xb_De_copySensed 30 = .ok (.invokestatic 186, 3) := by decide +kernel
theorem xd_De_copySensed_33 : decode xb_De_copySensed 33 = .ok (.aload_n 0, 1) := by decide +kernel
theorem xd_De_copySensed_34 : decode xb_De_copySensed 34 = .ok (.getfield 33, 3) := by decide +kernel
theorem xd_De_copySensed_37 : decode xb_De_copySensed 37 = .ok (.iload_n 2, 1) := by decide +kernel
theorem xd_De_copySensed_38 : decode xb_De_copySensed 38 = .ok (.iload 4, 2) := by decide +kernel
theorem xd_De_copySensed_40 : decode xb_De_copySensed 40 = .ok (.invokestatic 186, 3) := by decide +kernel
theorem xd_De_copySensed_43 : decode xb_De_copySensed 43 = .ok (.iaload, 1) := by decide +kernel
theorem xd_De_copySensed_44 : decode xb_De_copySensed 44 = .ok (.iastore, 1) := by decide +kernel
theorem xd_De_copySensed_45 : decode xb_De_copySensed 45 = .ok (.iinc 4 1, 3) := by decide +kernel
theorem xd_De_copySensed_48 : decode xb_De_copySensed 48 = .ok (.goto (-31), 3) := by decide +kernel
theorem xd_De_copySensed_51 : decode xb_De_copySensed 51 = .ok (.return_, 1) := by decide +kernel
abbrev xb_De_sendInput : ByteArray := prog_5_method_22_code
def xy_De_sendInput : MethodName := ⟨R_De, "sendInput", "()V"⟩
abbrev xrm_De_sendInput : Room := { frames := 3, cells := 0, slots := 0, locals := 72 }
theorem xK_De_sendInput : Cond.code xy_De_sendInput xb_De_sendInput 4 none ∈ vTB := vTB_in 694 (by decide +kernel) rfl
theorem xI_De_sendInput : Cond.instanceMethod xy_De_sendInput ∈ vTB := vTB_in 693 (by decide +kernel) rfl
theorem xS_De_sendInput : Cond.selects R_De xy_De_sendInput xy_De_sendInput ∈ vTB := vTB_sel (q := (xy_De_sendInput, 19)) 33 (by decide +kernel)
theorem xw_De_sendInput {R : Room} {s : State} {args : Array Value} {own : String} {index : Nat} (hts : ∀ w ∈ vTB, w.before args s = true) (hl : Cond.methodLink own index xy_De_sendInput ∈ vTB) (hR : xrm_De_sendInput.frames + 1 ≤ R.frames ∧ 8 + (4 + 11) + xrm_De_sendInput.locals ≤ R.locals) : CallW R s args own R_De index xy_De_sendInput xb_De_sendInput 4 none (Cond.code xy_De_sendInput xb_De_sendInput 4 none :: vTB) xrm_De_sendInput 0 0 0 := cwV 0 hts (fw_gV vTB_good xK_De_sendInput hl xI_De_sendInput xS_De_sendInput N_De) rfl rfl rfl (by decide +kernel) hR
theorem xd_De_sendInput_0 : decode xb_De_sendInput 0 = .ok (.aload_n 0, 1) := by decide +kernel
theorem xd_De_sendInput_1 : decode xb_De_sendInput 1 = .ok (.getfield 52, 3) := by decide +kernel
theorem xd_De_sendInput_4 : decode xb_De_sendInput 4 = .ok (.bipush 13, 2) := by decide +kernel
theorem xd_De_sendInput_6 : decode xb_De_sendInput 6 = .ok (.aload_n 0, 1) := by decide +kernel
theorem xd_De_sendInput_7 : decode xb_De_sendInput 7 = .ok (.getfield 101, 3) := by decide +kernel
theorem xd_De_sendInput_10 : decode xb_De_sendInput 10 = .ok (.aload_n 0, 1) := by decide +kernel
theorem xd_De_sendInput_11 : decode xb_De_sendInput 11 = .ok (.getfield 12, 3) := by decide +kernel
theorem xd_De_sendInput_14 : decode xb_De_sendInput 14 = .ok (.invokevirtual 213, 3) := by decide +kernel
theorem xd_De_sendInput_17 : decode xb_De_sendInput 17 = .ok (.iconst 2, 1) := by decide +kernel
theorem xd_De_sendInput_18 : decode xb_De_sendInput 18 = .ok (.invokevirtual 138, 3) := by decide +kernel
theorem xd_De_sendInput_21 : decode xb_De_sendInput 21 = .ok (.astore_n 1, 1) := by decide +kernel
theorem xd_De_sendInput_22 : decode xb_De_sendInput 22 = .ok (.iconst 0, 1) := by decide +kernel
theorem xd_De_sendInput_23 : decode xb_De_sendInput 23 = .ok (.istore_n 2, 1) := by decide +kernel
theorem xd_De_sendInput_24 : decode xb_De_sendInput 24 = .ok (.iconst 0, 1) := by decide +kernel
theorem xd_De_sendInput_25 : decode xb_De_sendInput 25 = .ok (.istore_n 3, 1) := by decide +kernel
theorem xd_De_sendInput_26 : decode xb_De_sendInput 26 = .ok (.iload_n 3, 1) := by decide +kernel
theorem xd_De_sendInput_27 : decode xb_De_sendInput 27 = .ok (.iconst 3, 1) := by decide +kernel
theorem xd_De_sendInput_28 : decode xb_De_sendInput 28 = .ok (.if_icmp .ge 30, 3) := by decide +kernel
theorem xd_De_sendInput_31 : decode xb_De_sendInput 31 = .ok (.aload_n 0, 1) := by decide +kernel
theorem xd_De_sendInput_32 : decode xb_De_sendInput 32 = .ok (.iload_n 3, 1) := by decide +kernel
theorem xd_De_sendInput_33 : decode xb_De_sendInput 33 = .ok (.invokevirtual 164, 3) := by decide +kernel
theorem xd_De_sendInput_36 : decode xb_De_sendInput 36 = .ok (.ifCond .eq 16, 3) := by decide +kernel
theorem xd_De_sendInput_39 : decode xb_De_sendInput 39 = .ok (.iload_n 2, 1) := by decide +kernel
theorem xd_De_sendInput_40 : decode xb_De_sendInput 40 = .ok (.iload_n 3, 1) := by decide +kernel
theorem xd_De_sendInput_41 : decode xb_De_sendInput 41 = .ok (.iconst 1, 1) := by decide +kernel
theorem xd_De_sendInput_42 : decode xb_De_sendInput 42 = .ok (.invokestatic 75, 3) := by decide +kernel
theorem xd_De_sendInput_45 : decode xb_De_sendInput 45 = .ok (.istore_n 2, 1) := by decide +kernel
theorem xd_De_sendInput_46 : decode xb_De_sendInput 46 = .ok (.aload_n 0, 1) := by decide +kernel
theorem xd_De_sendInput_47 : decode xb_De_sendInput 47 = .ok (.aload_n 1, 1) := by decide +kernel
theorem xd_De_sendInput_48 : decode xb_De_sendInput 48 = .ok (.iload_n 3, 1) := by decide +kernel
theorem xd_De_sendInput_49 : decode xb_De_sendInput 49 = .ok (.invokevirtual 216, 3) := by decide +kernel
theorem xd_De_sendInput_52 : decode xb_De_sendInput 52 = .ok (.iinc 3 1, 3) := by decide +kernel
theorem xd_De_sendInput_55 : decode xb_De_sendInput 55 = .ok (.goto (-29), 3) := by decide +kernel
theorem xd_De_sendInput_58 : decode xb_De_sendInput 58 = .ok (.aload_n 1, 1) := by decide +kernel
theorem xd_De_sendInput_59 : decode xb_De_sendInput 59 = .ok (.getfield 144, 3) := by decide +kernel
theorem xd_De_sendInput_62 : decode xb_De_sendInput 62 = .ok (.bipush 6, 2) := by decide +kernel
theorem xd_De_sendInput_64 : decode xb_De_sendInput 64 = .ok (.iload_n 2, 1) := by decide +kernel
theorem xd_De_sendInput_65 : decode xb_De_sendInput 65 = .ok (.iastore, 1) := by decide +kernel
theorem xd_De_sendInput_66 : decode xb_De_sendInput 66 = .ok (.return_, 1) := by decide +kernel
abbrev xb_De_passTickInData : ByteArray := prog_5_method_20_code
def xy_De_passTickInData : MethodName := ⟨R_De, "passTickInData", "()V"⟩
abbrev xrm_De_passTickInData : Room := { frames := 4, cells := 0, slots := 0, locals := 95 }
theorem xK_De_passTickInData : Cond.code xy_De_passTickInData xb_De_passTickInData 1 none ∈ vTB := vTB_in 674 (by decide +kernel) rfl
theorem xI_De_passTickInData : Cond.instanceMethod xy_De_passTickInData ∈ vTB := vTB_in 673 (by decide +kernel) rfl
theorem xS_De_passTickInData : Cond.selects R_De xy_De_passTickInData xy_De_passTickInData ∈ vTB := vTB_sel (q := (xy_De_passTickInData, 19)) 31 (by decide +kernel)
theorem xw_De_passTickInData {R : Room} {s : State} {args : Array Value} {own : String} {index : Nat} (hts : ∀ w ∈ vTB, w.before args s = true) (hl : Cond.methodLink own index xy_De_passTickInData ∈ vTB) (hR : xrm_De_passTickInData.frames + 1 ≤ R.frames ∧ 8 + (1 + 11) + xrm_De_passTickInData.locals ≤ R.locals) : CallW R s args own R_De index xy_De_passTickInData xb_De_passTickInData 1 none (Cond.code xy_De_passTickInData xb_De_passTickInData 1 none :: vTB) xrm_De_passTickInData 0 0 0 := cwV 0 hts (fw_gV vTB_good xK_De_passTickInData hl xI_De_passTickInData xS_De_passTickInData N_De) rfl rfl rfl (by decide +kernel) hR
theorem xd_De_passTickInData_0 : decode xb_De_passTickInData 0 = .ok (.aload_n 0, 1) := by decide +kernel
theorem xd_De_passTickInData_1 : decode xb_De_passTickInData 1 = .ok (.getfield 120, 3) := by decide +kernel
theorem xd_De_passTickInData_4 : decode xb_De_passTickInData 4 = .ok (.iconst 4, 1) := by decide +kernel
theorem xd_De_passTickInData_5 : decode xb_De_passTickInData 5 = .ok (.if_icmp .lt 18, 3) := by decide +kernel
theorem xd_De_passTickInData_8 : decode xb_De_passTickInData 8 = .ok (.aload_n 0, 1) := by decide +kernel
theorem xd_De_passTickInData_9 : decode xb_De_passTickInData 9 = .ok (.dup, 1) := by decide +kernel
theorem xd_De_passTickInData_10 : decode xb_De_passTickInData 10 = .ok (.getfield 194, 3) := by decide +kernel
theorem xd_De_passTickInData_13 : decode xb_De_passTickInData 13 = .ok (.iconst 1, 1) := by decide +kernel
theorem xd_De_passTickInData_14 : decode xb_De_passTickInData 14 = .ok (.iadd, 1) := by decide +kernel
theorem xd_De_passTickInData_15 : decode xb_De_passTickInData 15 = .ok (.putfield 194, 3) := by decide +kernel
theorem xd_De_passTickInData_18 : decode xb_De_passTickInData 18 = .ok (.aload_n 0, 1) := by decide +kernel
theorem xd_De_passTickInData_19 : decode xb_De_passTickInData 19 = .ok (.invokevirtual 158, 3) := by decide +kernel
theorem xd_De_passTickInData_22 : decode xb_De_passTickInData 22 = .ok (.return_, 1) := by decide +kernel
theorem xd_De_passTickInData_23 : decode xb_De_passTickInData 23 = .ok (.aload_n 0, 1) := by decide +kernel
theorem xd_De_passTickInData_24 : decode xb_De_passTickInData 24 = .ok (.getfield 21, 3) := by decide +kernel
theorem xd_De_passTickInData_27 : decode xb_De_passTickInData 27 = .ok (.invokevirtual 197, 3) := by decide +kernel
theorem xd_De_passTickInData_30 : decode xb_De_passTickInData 30 = .ok (.ifCond .eq 7, 3) := by decide +kernel
theorem xd_De_passTickInData_33 : decode xb_De_passTickInData 33 = .ok (.aload_n 0, 1) := by decide +kernel
theorem xd_De_passTickInData_34 : decode xb_De_passTickInData 34 = .ok (.invokevirtual 200, 3) := by decide +kernel
theorem xd_De_passTickInData_37 : decode xb_De_passTickInData 37 = .ok (.aload_n 0, 1) := by decide +kernel
theorem xd_De_passTickInData_38 : decode xb_De_passTickInData 38 = .ok (.invokevirtual 203, 3) := by decide +kernel
theorem xd_De_passTickInData_41 : decode xb_De_passTickInData 41 = .ok (.return_, 1) := by decide +kernel
abbrev xb_De_readyAgain : ByteArray := prog_5_method_14_code
def xy_De_readyAgain : MethodName := ⟨R_De, "readyAgain", "()V"⟩
abbrev xrm_De_readyAgain : Room := { frames := 4, cells := 0, slots := 0, locals := 92 }
theorem xK_De_readyAgain : Cond.code xy_De_readyAgain xb_De_readyAgain 1 none ∈ vTB := vTB_in 707 (by decide +kernel) rfl
theorem xI_De_readyAgain : Cond.instanceMethod xy_De_readyAgain ∈ vTB := vTB_in 706 (by decide +kernel) rfl
theorem xS_De_readyAgain : Cond.selects R_De xy_De_readyAgain xy_De_readyAgain ∈ vTB := vTB_sel (q := (xy_De_readyAgain, 19)) 35 (by decide +kernel)
theorem xw_De_readyAgain {R : Room} {s : State} {args : Array Value} {own : String} {index : Nat} (hts : ∀ w ∈ vTB, w.before args s = true) (hl : Cond.methodLink own index xy_De_readyAgain ∈ vTB) (hR : xrm_De_readyAgain.frames + 1 ≤ R.frames ∧ 8 + (1 + 11) + xrm_De_readyAgain.locals ≤ R.locals) : CallW R s args own R_De index xy_De_readyAgain xb_De_readyAgain 1 none (Cond.code xy_De_readyAgain xb_De_readyAgain 1 none :: vTB) xrm_De_readyAgain 0 0 0 := cwV 0 hts (fw_gV vTB_good xK_De_readyAgain hl xI_De_readyAgain xS_De_readyAgain N_De) rfl rfl rfl (by decide +kernel) hR
theorem xd_De_readyAgain_0 : decode xb_De_readyAgain 0 = .ok (.aload_n 0, 1) := by decide +kernel
theorem xd_De_readyAgain_1 : decode xb_De_readyAgain 1 = .ok (.getfield 161, 3) := by decide +kernel
theorem xd_De_readyAgain_4 : decode xb_De_readyAgain 4 = .ok (.iconst 3, 1) := by decide +kernel
theorem xd_De_readyAgain_5 : decode xb_De_readyAgain 5 = .ok (.if_icmp .ge 37, 3) := by decide +kernel
theorem xd_De_readyAgain_8 : decode xb_De_readyAgain 8 = .ok (.aload_n 0, 1) := by decide +kernel
theorem xd_De_readyAgain_9 : decode xb_De_readyAgain 9 = .ok (.dup, 1) := by decide +kernel
theorem xd_De_readyAgain_10 : decode xb_De_readyAgain 10 = .ok (.getfield 161, 3) := by decide +kernel
theorem xd_De_readyAgain_13 : decode xb_De_readyAgain 13 = .ok (.iconst 1, 1) := by decide +kernel
theorem xd_De_readyAgain_14 : decode xb_De_readyAgain 14 = .ok (.iadd, 1) := by decide +kernel
theorem xd_De_readyAgain_15 : decode xb_De_readyAgain 15 = .ok (.putfield 161, 3) := by decide +kernel
theorem xd_De_readyAgain_18 : decode xb_De_readyAgain 18 = .ok (.aload_n 0, 1) := by decide +kernel
theorem xd_De_readyAgain_19 : decode xb_De_readyAgain 19 = .ok (.iconst 0, 1) := by decide +kernel
theorem xd_De_readyAgain_20 : decode xb_De_readyAgain 20 = .ok (.putfield 120, 3) := by decide +kernel
theorem xd_De_readyAgain_23 : decode xb_De_readyAgain 23 = .ok (.aload_n 0, 1) := by decide +kernel
theorem xd_De_readyAgain_24 : decode xb_De_readyAgain 24 = .ok (.getfield 52, 3) := by decide +kernel
theorem xd_De_readyAgain_27 : decode xb_De_readyAgain 27 = .ok (.bipush 10, 2) := by decide +kernel
theorem xd_De_readyAgain_29 : decode xb_De_readyAgain 29 = .ok (.aload_n 0, 1) := by decide +kernel
theorem xd_De_readyAgain_30 : decode xb_De_readyAgain 30 = .ok (.getfield 101, 3) := by decide +kernel
theorem xd_De_readyAgain_33 : decode xb_De_readyAgain 33 = .ok (.iconst 0, 1) := by decide +kernel
theorem xd_De_readyAgain_34 : decode xb_De_readyAgain 34 = .ok (.iconst 2, 1) := by decide +kernel
theorem xd_De_readyAgain_35 : decode xb_De_readyAgain 35 = .ok (.invokevirtual 138, 3) := by decide +kernel
theorem xd_De_readyAgain_38 : decode xb_De_readyAgain 38 = .ok (.pop, 1) := by decide +kernel
theorem xd_De_readyAgain_39 : decode xb_De_readyAgain 39 = .ok (.goto 7, 3) := by decide +kernel
theorem xd_De_readyAgain_42 : decode xb_De_readyAgain 42 = .ok (.aload_n 0, 1) := by decide +kernel
theorem xd_De_readyAgain_43 : decode xb_De_readyAgain 43 = .ok (.invokevirtual 158, 3) := by decide +kernel
theorem xd_De_readyAgain_46 : decode xb_De_readyAgain 46 = .ok (.return_, 1) := by decide +kernel
abbrev xb_De_passTick : ByteArray := prog_5_method_6_code
def xy_De_passTick : MethodName := ⟨R_De, "passTick", "()V"⟩
abbrev xrm_De_passTick : Room := { frames := 5, cells := 0, slots := 0, locals := 115 }
theorem xK_De_passTick : Cond.code xy_De_passTick xb_De_passTick 1 none ∈ vTB := vTB_in 670 (by decide +kernel) rfl
theorem xI_De_passTick : Cond.instanceMethod xy_De_passTick ∈ vTB := vTB_in 668 (by decide +kernel) rfl
theorem xS_De_passTick : Cond.selects R_De xy_De_passTick xy_De_passTick ∈ vTB := vTB_in 669 (by decide +kernel) rfl
theorem xw_De_passTick {R : Room} {s : State} {args : Array Value} {own : String} {index : Nat} (hts : ∀ w ∈ vTB, w.before args s = true) (hl : Cond.methodLink own index xy_De_passTick ∈ vTB) (hR : xrm_De_passTick.frames + 1 ≤ R.frames ∧ 8 + (1 + 11) + xrm_De_passTick.locals ≤ R.locals) : CallW R s args own R_De index xy_De_passTick xb_De_passTick 1 none (Cond.code xy_De_passTick xb_De_passTick 1 none :: vTB) xrm_De_passTick 0 0 0 := cwV 0 hts (fw_gV vTB_good xK_De_passTick hl xI_De_passTick xS_De_passTick N_De) rfl rfl rfl (by decide +kernel) hR
theorem xd_De_passTick_0 : decode xb_De_passTick 0 = .ok (.aload_n 0, 1) := by decide +kernel
theorem xd_De_passTick_1 : decode xb_De_passTick 1 = .ok (.getfield 62, 3) := by decide +kernel
theorem xd_De_passTick_4 : decode xb_De_passTick 4 = .ok (.ifCond .ne 4, 3) := by decide +kernel
theorem xd_De_passTick_7 : decode xb_De_passTick 7 = .ok (.return_, 1) := by decide +kernel
theorem xd_De_passTick_8 : decode xb_De_passTick 8 = .ok (.aload_n 0, 1) := by decide +kernel
theorem xd_De_passTick_9 : decode xb_De_passTick 9 = .ok (.dup, 1) := by decide +kernel
theorem xd_De_passTick_10 : decode xb_De_passTick 10 = .ok (.getfield 120, 3) := by decide +kernel
theorem xd_De_passTick_13 : decode xb_De_passTick 13 = .ok (.iconst 1, 1) := by decide +kernel
theorem xd_De_passTick_14 : decode xb_De_passTick 14 = .ok (.iadd, 1) := by decide +kernel
theorem xd_De_passTick_15 : decode xb_De_passTick 15 = .ok (.putfield 120, 3) := by decide +kernel
theorem xd_De_passTick_18 : decode xb_De_passTick 18 = .ok (.aload_n 0, 1) := by decide +kernel
theorem xd_De_passTick_19 : decode xb_De_passTick 19 = .ok (.getfield 62, 3) := by decide +kernel
theorem xd_De_passTick_22 : decode xb_De_passTick 22 = .ok (.iconst 3, 1) := by decide +kernel
theorem xd_De_passTick_23 : decode xb_De_passTick 23 = .ok (.if_icmp .ne 10, 3) := by decide +kernel
theorem xd_De_passTick_26 : decode xb_De_passTick 26 = .ok (.aload_n 0, 1) := by decide +kernel
theorem xd_De_passTick_27 : decode xb_De_passTick 27 = .ok (.invokevirtual 123, 3) := by decide +kernel
theorem xd_De_passTick_30 : decode xb_De_passTick 30 = .ok (.goto 39, 3) := by decide +kernel
theorem xd_De_passTick_33 : decode xb_De_passTick 33 = .ok (.aload_n 0, 1) := by decide +kernel
theorem xd_De_passTick_34 : decode xb_De_passTick 34 = .ok (.getfield 62, 3) := by decide +kernel
theorem xd_De_passTick_37 : decode xb_De_passTick 37 = .ok (.iconst 2, 1) := by decide +kernel
theorem xd_De_passTick_38 : decode xb_De_passTick 38 = .ok (.if_icmp .ne 18, 3) := by decide +kernel
theorem xd_De_passTick_41 : decode xb_De_passTick 41 = .ok (.aload_n 0, 1) := by decide +kernel
theorem xd_De_passTick_42 : decode xb_De_passTick 42 = .ok (.getfield 120, 3) := by decide +kernel
theorem xd_De_passTick_45 : decode xb_De_passTick 45 = .ok (.iconst 3, 1) := by decide +kernel
theorem xd_De_passTick_46 : decode xb_De_passTick 46 = .ok (.if_icmp .lt 23, 3) := by decide +kernel
theorem xd_De_passTick_49 : decode xb_De_passTick 49 = .ok (.aload_n 0, 1) := by decide +kernel
theorem xd_De_passTick_50 : decode xb_De_passTick 50 = .ok (.invokevirtual 126, 3) := by decide +kernel
theorem xd_De_passTick_53 : decode xb_De_passTick 53 = .ok (.goto 16, 3) := by decide +kernel
theorem xd_De_passTick_56 : decode xb_De_passTick 56 = .ok (.aload_n 0, 1) := by decide +kernel
theorem xd_De_passTick_57 : decode xb_De_passTick 57 = .ok (.getfield 120, 3) := by decide +kernel
theorem xd_De_passTick_60 : decode xb_De_passTick 60 = .ok (.bipush 16, 2) := by decide +kernel
theorem xd_De_passTick_62 : decode xb_De_passTick 62 = .ok (.if_icmp .lt 7, 3) := by decide +kernel
theorem xd_De_passTick_65 : decode xb_De_passTick 65 = .ok (.aload_n 0, 1) := by decide +kernel
theorem xd_De_passTick_66 : decode xb_De_passTick 66 = .ok (.invokevirtual 117, 3) := by decide +kernel
theorem xd_De_passTick_69 : decode xb_De_passTick 69 = .ok (.return_, 1) := by decide +kernel
abbrev xb_FR_tick : ByteArray := prog_1_method_15_code
def xy_FR_tick : MethodName := ⟨R_FR, "tick", "(I)I"⟩
abbrev xrm_FR_tick : Room := { frames := 7, cells := 0, slots := 0, locals := 154 }
theorem xK_FR_tick : Cond.code xy_FR_tick xb_FR_tick 4 (some .int) ∈ vTB := vTB_in 644 (by decide +kernel) rfl
theorem xI_FR_tick : Cond.instanceMethod xy_FR_tick ∈ vTB := vTB_in 642 (by decide +kernel) rfl
theorem xS_FR_tick : Cond.selects R_FR xy_FR_tick xy_FR_tick ∈ vTB := vTB_in 643 (by decide +kernel) rfl
theorem xw_FR_tick {R : Room} {s : State} {args : Array Value} {own : String} {index : Nat} (hts : ∀ w ∈ vTB, w.before args s = true) (hl : Cond.methodLink own index xy_FR_tick ∈ vTB) (hR : xrm_FR_tick.frames + 1 ≤ R.frames ∧ 8 + (4 + 11) + xrm_FR_tick.locals ≤ R.locals) : CallW R s args own R_FR index xy_FR_tick xb_FR_tick 4 (some .int) (Cond.code xy_FR_tick xb_FR_tick 4 (some .int) :: vTB) xrm_FR_tick 0 0 1 := cwV 1 hts (fw_gV vTB_good xK_FR_tick hl xI_FR_tick xS_FR_tick N_FR) rfl rfl rfl (by decide +kernel) hR
theorem xd_FR_tick_0 : decode xb_FR_tick 0 = .ok (.iload_n 1, 1) := by decide +kernel
theorem xd_FR_tick_1 : decode xb_FR_tick 1 = .ok (.iconst 1, 1) := by decide +kernel
theorem xd_FR_tick_2 : decode xb_FR_tick 2 = .ok (.bipush 8, 2) := by decide +kernel
theorem xd_FR_tick_4 : decode xb_FR_tick 4 = .ok (.invokestatic 52, 3) := by decide +kernel
theorem xd_FR_tick_7 : decode xb_FR_tick 7 = .ok (.ifCond .ne 5, 3) := by decide +kernel
theorem xd_FR_tick_10 : decode xb_FR_tick 10 = .ok (.iconst (-1), 1) := by decide +kernel
theorem xd_FR_tick_11 : decode xb_FR_tick 11 = .ok (.ireturn, 1) := by decide +kernel
theorem xd_FR_tick_12 : decode xb_FR_tick 12 = .ok (.iconst 0, 1) := by decide +kernel
theorem xd_FR_tick_13 : decode xb_FR_tick 13 = .ok (.istore_n 2, 1) := by decide +kernel
theorem xd_FR_tick_14 : decode xb_FR_tick 14 = .ok (.iload_n 2, 1) := by decide +kernel
theorem xd_FR_tick_15 : decode xb_FR_tick 15 = .ok (.iload_n 1, 1) := by decide +kernel
theorem xd_FR_tick_16 : decode xb_FR_tick 16 = .ok (.if_icmp .ge 63, 3) := by decide +kernel
theorem xd_FR_tick_19 : decode xb_FR_tick 19 = .ok (.aload_n 0, 1) := by decide +kernel
theorem xd_FR_tick_20 : decode xb_FR_tick 20 = .ok (.dup, 1) := by decide +kernel
theorem xd_FR_tick_21 : decode xb_FR_tick 21 = .ok (.getfield 156, 3) := by decide +kernel
theorem xd_FR_tick_24 : decode xb_FR_tick 24 = .ok (.iconst 1, 1) := by decide +kernel
theorem xd_FR_tick_25 : decode xb_FR_tick 25 = .ok (.iadd, 1) := by decide +kernel
theorem xd_FR_tick_26 : decode xb_FR_tick 26 = .ok (.putfield 156, 3) := by decide +kernel
theorem xd_FR_tick_29 : decode xb_FR_tick 29 = .ok (.iconst 0, 1) := by decide +kernel
theorem xd_FR_tick_30 : decode xb_FR_tick 30 = .ok (.istore_n 3, 1) := by decide +kernel
theorem xd_FR_tick_31 : decode xb_FR_tick 31 = .ok (.iload_n 3, 1) := by decide +kernel
theorem xd_FR_tick_32 : decode xb_FR_tick 32 = .ok (.iconst 2, 1) := by decide +kernel
theorem xd_FR_tick_33 : decode xb_FR_tick 33 = .ok (.if_icmp .ge 18, 3) := by decide +kernel
theorem xd_FR_tick_36 : decode xb_FR_tick 36 = .ok (.aload_n 0, 1) := by decide +kernel
theorem xd_FR_tick_37 : decode xb_FR_tick 37 = .ok (.getfield 32, 3) := by decide +kernel
theorem xd_FR_tick_40 : decode xb_FR_tick 40 = .ok (.iload_n 3, 1) := by decide +kernel
theorem xd_FR_tick_41 : decode xb_FR_tick 41 = .ok (.aaload, 1) := by decide +kernel
theorem xd_FR_tick_42 : decode xb_FR_tick 42 = .ok (.invokevirtual 159, 3) := by decide +kernel
theorem xd_FR_tick_45 : decode xb_FR_tick 45 = .ok (.iinc 3 1, 3) := by decide +kernel
theorem xd_FR_tick_48 : decode xb_FR_tick 48 = .ok (.goto (-17), 3) := by decide +kernel
theorem xd_FR_tick_51 : decode xb_FR_tick 51 = .ok (.iconst 0, 1) := by decide +kernel
theorem xd_FR_tick_52 : decode xb_FR_tick 52 = .ok (.istore_n 3, 1) := by decide +kernel
theorem xd_FR_tick_53 : decode xb_FR_tick 53 = .ok (.iload_n 3, 1) := by decide +kernel
theorem xd_FR_tick_54 : decode xb_FR_tick 54 = .ok (.iconst 2, 1) := by decide +kernel
theorem xd_FR_tick_55 : decode xb_FR_tick 55 = .ok (.if_icmp .ge 18, 3) := by decide +kernel
theorem xd_FR_tick_58 : decode xb_FR_tick 58 = .ok (.aload_n 0, 1) := by decide +kernel
theorem xd_FR_tick_59 : decode xb_FR_tick 59 = .ok (.getfield 38, 3) := by decide +kernel
theorem xd_FR_tick_62 : decode xb_FR_tick 62 = .ok (.iload_n 3, 1) := by decide +kernel
theorem xd_FR_tick_63 : decode xb_FR_tick 63 = .ok (.aaload, 1) := by decide +kernel
theorem xd_FR_tick_64 : decode xb_FR_tick 64 = .ok (.invokevirtual 162, 3) := by decide +kernel
theorem xd_FR_tick_67 : decode xb_FR_tick 67 = .ok (.iinc 3 1, 3) := by decide +kernel
theorem xd_FR_tick_70 : decode xb_FR_tick 70 = .ok (.goto (-17), 3) := by decide +kernel
theorem xd_FR_tick_73 : decode xb_FR_tick 73 = .ok (.iinc 2 1, 3) := by decide +kernel
theorem xd_FR_tick_76 : decode xb_FR_tick 76 = .ok (.goto (-62), 3) := by decide +kernel
theorem xd_FR_tick_79 : decode xb_FR_tick 79 = .ok (.aload_n 0, 1) := by decide +kernel
theorem xd_FR_tick_80 : decode xb_FR_tick 80 = .ok (.getfield 19, 3) := by decide +kernel
theorem xd_FR_tick_83 : decode xb_FR_tick 83 = .ok (.getfield 147, 3) := by decide +kernel
theorem xd_FR_tick_86 : decode xb_FR_tick 86 = .ok (.ireturn, 1) := by decide +kernel
abbrev xb_Fm_tell : ByteArray := prog_6_method_4_code
def xy_Fm_tell : MethodName := ⟨R_Fm, "tell", "(I)I"⟩
abbrev xrm_Fm_tell : Room := { frames := 1, cells := 0, slots := 0, locals := 22 }
theorem xK_Fm_tell : Cond.code xy_Fm_tell xb_Fm_tell 2 (some .int) ∈ vTB := vTB_in 715 (by decide +kernel) rfl
theorem xI_Fm_tell : Cond.instanceMethod xy_Fm_tell ∈ vTB := vTB_in 713 (by decide +kernel) rfl
theorem xS_Fm_tell : Cond.selects R_Fm xy_Fm_tell xy_Fm_tell ∈ vTB := vTB_in 714 (by decide +kernel) rfl
theorem xw_Fm_tell {R : Room} {s : State} {args : Array Value} {own : String} {index : Nat} (hts : ∀ w ∈ vTB, w.before args s = true) (hl : Cond.methodLink own index xy_Fm_tell ∈ vTB) (hR : xrm_Fm_tell.frames + 1 ≤ R.frames ∧ 8 + (2 + 11) + xrm_Fm_tell.locals ≤ R.locals) : CallW R s args own R_Fm index xy_Fm_tell xb_Fm_tell 2 (some .int) (Cond.code xy_Fm_tell xb_Fm_tell 2 (some .int) :: vTB) xrm_Fm_tell 0 0 1 := cwV 1 hts (fw_gV vTB_good xK_Fm_tell hl xI_Fm_tell xS_Fm_tell N_Fm) rfl rfl rfl (by decide +kernel) hR
theorem xd_Fm_tell_0 : decode xb_Fm_tell 0 = .ok (.iload_n 1, 1) := by decide +kernel
theorem xd_Fm_tell_1 : decode xb_Fm_tell 1 = .ok (.tableswitch 51 0 3 #[31, 36, 41, 46], 31) := by decide +kernel
theorem xd_Fm_tell_32 : decode xb_Fm_tell 32 = .ok (.aload_n 0, 1) := by decide +kernel
theorem xd_Fm_tell_33 : decode xb_Fm_tell 33 = .ok (.getfield 15, 3) := by decide +kernel
theorem xd_Fm_tell_36 : decode xb_Fm_tell 36 = .ok (.ireturn, 1) := by decide +kernel
theorem xd_Fm_tell_37 : decode xb_Fm_tell 37 = .ok (.aload_n 0, 1) := by decide +kernel
theorem xd_Fm_tell_38 : decode xb_Fm_tell 38 = .ok (.getfield 19, 3) := by decide +kernel
theorem xd_Fm_tell_41 : decode xb_Fm_tell 41 = .ok (.ireturn, 1) := by decide +kernel
theorem xd_Fm_tell_42 : decode xb_Fm_tell 42 = .ok (.aload_n 0, 1) := by decide +kernel
theorem xd_Fm_tell_43 : decode xb_Fm_tell 43 = .ok (.getfield 22, 3) := by decide +kernel
theorem xd_Fm_tell_46 : decode xb_Fm_tell 46 = .ok (.ireturn, 1) := by decide +kernel
theorem xd_Fm_tell_47 : decode xb_Fm_tell 47 = .ok (.aload_n 0, 1) := by decide +kernel
theorem xd_Fm_tell_48 : decode xb_Fm_tell 48 = .ok (.getfield 25, 3) := by decide +kernel
theorem xd_Fm_tell_51 : decode xb_Fm_tell 51 = .ok (.ireturn, 1) := by decide +kernel
theorem xd_Fm_tell_52 : decode xb_Fm_tell 52 = .ok (.iload_n 1, 1) := by decide +kernel
theorem xd_Fm_tell_53 : decode xb_Fm_tell 53 = .ok (.iconst 4, 1) := by decide +kernel
theorem xd_Fm_tell_54 : decode xb_Fm_tell 54 = .ok (.bipush 10, 2) := by decide +kernel
theorem xd_Fm_tell_56 : decode xb_Fm_tell 56 = .ok (.invokestatic 44, 3) := by decide +kernel
theorem xd_Fm_tell_59 : decode xb_Fm_tell 59 = .ok (.ifCond .eq 14, 3) := by decide +kernel
theorem xd_Fm_tell_62 : decode xb_Fm_tell 62 = .ok (.aload_n 0, 1) := by decide +kernel
theorem xd_Fm_tell_63 : decode xb_Fm_tell 63 = .ok (.getfield 11, 3) := by decide +kernel
theorem xd_Fm_tell_66 : decode xb_Fm_tell 66 = .ok (.iload_n 1, 1) := by decide +kernel
theorem xd_Fm_tell_67 : decode xb_Fm_tell 67 = .ok (.iconst 4, 1) := by decide +kernel
theorem xd_Fm_tell_68 : decode xb_Fm_tell 68 = .ok (.isub, 1) := by decide +kernel
theorem xd_Fm_tell_69 : decode xb_Fm_tell 69 = .ok (.iaload, 1) := by decide +kernel
theorem xd_Fm_tell_70 : decode xb_Fm_tell 70 = .ok (.goto 4, 3) := by decide +kernel
theorem xd_Fm_tell_73 : decode xb_Fm_tell 73 = .ok (.iconst (-1), 1) := by decide +kernel
theorem xd_Fm_tell_74 : decode xb_Fm_tell 74 = .ok (.ireturn, 1) := by decide +kernel
abbrev xb_FR_frame : ByteArray := prog_1_method_16_code
def xy_FR_frame : MethodName := ⟨R_FR, "frame", "(II)I"⟩
abbrev xrm_FR_frame : Room := { frames := 2, cells := 0, slots := 0, locals := 43 }
theorem xK_FR_frame : Cond.code xy_FR_frame xb_FR_frame 3 (some .int) ∈ vTB := vTB_in 711 (by decide +kernel) rfl
theorem xI_FR_frame : Cond.instanceMethod xy_FR_frame ∈ vTB := vTB_in 709 (by decide +kernel) rfl
theorem xS_FR_frame : Cond.selects R_FR xy_FR_frame xy_FR_frame ∈ vTB := vTB_in 710 (by decide +kernel) rfl
theorem xw_FR_frame {R : Room} {s : State} {args : Array Value} {own : String} {index : Nat} (hts : ∀ w ∈ vTB, w.before args s = true) (hl : Cond.methodLink own index xy_FR_frame ∈ vTB) (hR : xrm_FR_frame.frames + 1 ≤ R.frames ∧ 8 + (3 + 11) + xrm_FR_frame.locals ≤ R.locals) : CallW R s args own R_FR index xy_FR_frame xb_FR_frame 3 (some .int) (Cond.code xy_FR_frame xb_FR_frame 3 (some .int) :: vTB) xrm_FR_frame 0 0 2 := cwV 2 hts (fw_gV vTB_good xK_FR_frame hl xI_FR_frame xS_FR_frame N_FR) rfl rfl rfl (by decide +kernel) hR
theorem xd_FR_frame_0 : decode xb_FR_frame 0 = .ok (.aload_n 0, 1) := by decide +kernel
theorem xd_FR_frame_1 : decode xb_FR_frame 1 = .ok (.getfield 19, 3) := by decide +kernel
theorem xd_FR_frame_4 : decode xb_FR_frame 4 = .ok (.iload_n 1, 1) := by decide +kernel
theorem xd_FR_frame_5 : decode xb_FR_frame 5 = .ok (.invokevirtual 127, 3) := by decide +kernel
theorem xd_FR_frame_8 : decode xb_FR_frame 8 = .ok (.ifCond .eq 19, 3) := by decide +kernel
theorem xd_FR_frame_11 : decode xb_FR_frame 11 = .ok (.aload_n 0, 1) := by decide +kernel
theorem xd_FR_frame_12 : decode xb_FR_frame 12 = .ok (.getfield 19, 3) := by decide +kernel
theorem xd_FR_frame_15 : decode xb_FR_frame 15 = .ok (.getfield 163, 3) := by decide +kernel
theorem xd_FR_frame_18 : decode xb_FR_frame 18 = .ok (.iload_n 1, 1) := by decide +kernel
theorem xd_FR_frame_19 : decode xb_FR_frame 19 = .ok (.aaload, 1) := by decide +kernel
theorem xd_FR_frame_20 : decode xb_FR_frame 20 = .ok (.iload_n 2, 1) := by decide +kernel
theorem xd_FR_frame_21 : decode xb_FR_frame 21 = .ok (.invokevirtual 167, 3) := by decide +kernel
theorem xd_FR_frame_24 : decode xb_FR_frame 24 = .ok (.goto 5, 3) := by decide +kernel
theorem xd_FR_frame_27 : decode xb_FR_frame 27 = .ok (.bipush (-2), 2) := by decide +kernel
theorem xd_FR_frame_29 : decode xb_FR_frame 29 = .ok (.ireturn, 1) := by decide +kernel
abbrev xb_Re_tell : ByteArray := prog_8_method_8_code
def xy_Re_tell : MethodName := ⟨R_Re, "tell", "(I)I"⟩
abbrev xrm_Re_tell : Room := { frames := 0, cells := 0, slots := 0, locals := 0 }
theorem xK_Re_tell : Cond.code xy_Re_tell xb_Re_tell 2 (some .int) ∈ vTB := vTB_in 724 (by decide +kernel) rfl
theorem xI_Re_tell : Cond.instanceMethod xy_Re_tell ∈ vTB := vTB_in 722 (by decide +kernel) rfl
theorem xS_Re_tell : Cond.selects R_Re xy_Re_tell xy_Re_tell ∈ vTB := vTB_in 723 (by decide +kernel) rfl
theorem xw_Re_tell {R : Room} {s : State} {args : Array Value} {own : String} {index : Nat} (hts : ∀ w ∈ vTB, w.before args s = true) (hl : Cond.methodLink own index xy_Re_tell ∈ vTB) (hR : xrm_Re_tell.frames + 1 ≤ R.frames ∧ 8 + (2 + 11) + xrm_Re_tell.locals ≤ R.locals) : CallW R s args own R_Re index xy_Re_tell xb_Re_tell 2 (some .int) (Cond.code xy_Re_tell xb_Re_tell 2 (some .int) :: vTB) xrm_Re_tell 0 0 1 := cwV 1 hts (fw_gV vTB_good xK_Re_tell hl xI_Re_tell xS_Re_tell N_Re) rfl rfl rfl (by decide +kernel) hR
theorem xd_Re_tell_0 : decode xb_Re_tell 0 = .ok (.iload_n 1, 1) := by decide +kernel
theorem xd_Re_tell_1 : decode xb_Re_tell 1 = .ok (.tableswitch 78 0 6 #[43, 48, 53, 58, 63, 68, 73], 43) := by decide +kernel
theorem xd_Re_tell_44 : decode xb_Re_tell 44 = .ok (.aload_n 0, 1) := by decide +kernel
theorem xd_Re_tell_45 : decode xb_Re_tell 45 = .ok (.getfield 56, 3) := by decide +kernel
theorem xd_Re_tell_48 : decode xb_Re_tell 48 = .ok (.ireturn, 1) := by decide +kernel
theorem xd_Re_tell_49 : decode xb_Re_tell 49 = .ok (.aload_n 0, 1) := by decide +kernel
theorem xd_Re_tell_50 : decode xb_Re_tell 50 = .ok (.getfield 59, 3) := by decide +kernel
theorem xd_Re_tell_53 : decode xb_Re_tell 53 = .ok (.ireturn, 1) := by decide +kernel
theorem xd_Re_tell_54 : decode xb_Re_tell 54 = .ok (.aload_n 0, 1) := by decide +kernel
theorem xd_Re_tell_55 : decode xb_Re_tell 55 = .ok (.getfield 31, 3) := by decide +kernel
theorem xd_Re_tell_58 : decode xb_Re_tell 58 = .ok (.ireturn, 1) := by decide +kernel
theorem xd_Re_tell_59 : decode xb_Re_tell 59 = .ok (.aload_n 0, 1) := by decide +kernel
theorem xd_Re_tell_60 : decode xb_Re_tell 60 = .ok (.getfield 62, 3) := by decide +kernel
theorem xd_Re_tell_63 : decode xb_Re_tell 63 = .ok (.ireturn, 1) := by decide +kernel
theorem xd_Re_tell_64 : decode xb_Re_tell 64 = .ok (.aload_n 0, 1) := by decide +kernel
theorem xd_Re_tell_65 : decode xb_Re_tell 65 = .ok (.getfield 124, 3) := by decide +kernel
theorem xd_Re_tell_68 : decode xb_Re_tell 68 = .ok (.ireturn, 1) := by decide +kernel
theorem xd_Re_tell_69 : decode xb_Re_tell 69 = .ok (.aload_n 0, 1) := by decide +kernel
theorem xd_Re_tell_70 : decode xb_Re_tell 70 = .ok (.getfield 115, 3) := by decide +kernel
theorem xd_Re_tell_73 : decode xb_Re_tell 73 = .ok (.ireturn, 1) := by decide +kernel
theorem xd_Re_tell_74 : decode xb_Re_tell 74 = .ok (.aload_n 0, 1) := by decide +kernel
theorem xd_Re_tell_75 : decode xb_Re_tell 75 = .ok (.getfield 127, 3) := by decide +kernel
theorem xd_Re_tell_78 : decode xb_Re_tell 78 = .ok (.ireturn, 1) := by decide +kernel
theorem xd_Re_tell_79 : decode xb_Re_tell 79 = .ok (.iconst (-1), 1) := by decide +kernel
theorem xd_Re_tell_80 : decode xb_Re_tell 80 = .ok (.ireturn, 1) := by decide +kernel
abbrev xb_FR_relation : ByteArray := prog_1_method_17_code
def xy_FR_relation : MethodName := ⟨R_FR, "relation", "(II)I"⟩
abbrev xrm_FR_relation : Room := { frames := 2, cells := 0, slots := 0, locals := 42 }
theorem xK_FR_relation : Cond.code xy_FR_relation xb_FR_relation 3 (some .int) ∈ vTB := vTB_in 720 (by decide +kernel) rfl
theorem xI_FR_relation : Cond.instanceMethod xy_FR_relation ∈ vTB := vTB_in 718 (by decide +kernel) rfl
theorem xS_FR_relation : Cond.selects R_FR xy_FR_relation xy_FR_relation ∈ vTB := vTB_in 719 (by decide +kernel) rfl
theorem xw_FR_relation {R : Room} {s : State} {args : Array Value} {own : String} {index : Nat} (hts : ∀ w ∈ vTB, w.before args s = true) (hl : Cond.methodLink own index xy_FR_relation ∈ vTB) (hR : xrm_FR_relation.frames + 1 ≤ R.frames ∧ 8 + (3 + 11) + xrm_FR_relation.locals ≤ R.locals) : CallW R s args own R_FR index xy_FR_relation xb_FR_relation 3 (some .int) (Cond.code xy_FR_relation xb_FR_relation 3 (some .int) :: vTB) xrm_FR_relation 0 0 2 := cwV 2 hts (fw_gV vTB_good xK_FR_relation hl xI_FR_relation xS_FR_relation N_FR) rfl rfl rfl (by decide +kernel) hR
theorem xd_FR_relation_0 : decode xb_FR_relation 0 = .ok (.iload_n 1, 1) := by decide +kernel
theorem xd_FR_relation_1 : decode xb_FR_relation 1 = .ok (.invokestatic 64, 3) := by decide +kernel
theorem xd_FR_relation_4 : decode xb_FR_relation 4 = .ok (.ifCond .eq 16, 3) := by decide +kernel
theorem xd_FR_relation_7 : decode xb_FR_relation 7 = .ok (.aload_n 0, 1) := by decide +kernel
theorem xd_FR_relation_8 : decode xb_FR_relation 8 = .ok (.getfield 32, 3) := by decide +kernel
theorem xd_FR_relation_11 : decode xb_FR_relation 11 = .ok (.iload_n 1, 1) := by decide +kernel
theorem xd_FR_relation_12 : decode xb_FR_relation 12 = .ok (.aaload, 1) := by decide +kernel
theorem xd_FR_relation_13 : decode xb_FR_relation 13 = .ok (.iload_n 2, 1) := by decide +kernel
theorem xd_FR_relation_14 : decode xb_FR_relation 14 = .ok (.invokevirtual 171, 3) := by decide +kernel
theorem xd_FR_relation_17 : decode xb_FR_relation 17 = .ok (.goto 4, 3) := by decide +kernel
theorem xd_FR_relation_20 : decode xb_FR_relation 20 = .ok (.iconst (-1), 1) := by decide +kernel
theorem xd_FR_relation_21 : decode xb_FR_relation 21 = .ok (.ireturn, 1) := by decide +kernel
abbrev xb_De_tell : ByteArray := prog_5_method_7_code
def xy_De_tell : MethodName := ⟨R_De, "tell", "(I)I"⟩
abbrev xrm_De_tell : Room := { frames := 0, cells := 0, slots := 0, locals := 0 }
theorem xK_De_tell : Cond.code xy_De_tell xb_De_tell 2 (some .int) ∈ vTB := vTB_in 732 (by decide +kernel) rfl
theorem xI_De_tell : Cond.instanceMethod xy_De_tell ∈ vTB := vTB_in 730 (by decide +kernel) rfl
theorem xS_De_tell : Cond.selects R_De xy_De_tell xy_De_tell ∈ vTB := vTB_in 731 (by decide +kernel) rfl
theorem xw_De_tell {R : Room} {s : State} {args : Array Value} {own : String} {index : Nat} (hts : ∀ w ∈ vTB, w.before args s = true) (hl : Cond.methodLink own index xy_De_tell ∈ vTB) (hR : xrm_De_tell.frames + 1 ≤ R.frames ∧ 8 + (2 + 11) + xrm_De_tell.locals ≤ R.locals) : CallW R s args own R_De index xy_De_tell xb_De_tell 2 (some .int) (Cond.code xy_De_tell xb_De_tell 2 (some .int) :: vTB) xrm_De_tell 0 0 1 := cwV 1 hts (fw_gV vTB_good xK_De_tell hl xI_De_tell xS_De_tell N_De) rfl rfl rfl (by decide +kernel) hR
theorem xd_De_tell_0 : decode xb_De_tell 0 = .ok (.iload_n 1, 1) := by decide +kernel
theorem xd_De_tell_1 : decode xb_De_tell 1 = .ok (.tableswitch 108 0 8 #[51, 56, 61, 66, 74, 82, 89, 96, 103], 51) := by decide +kernel
theorem xd_De_tell_52 : decode xb_De_tell 52 = .ok (.aload_n 0, 1) := by decide +kernel
theorem xd_De_tell_53 : decode xb_De_tell 53 = .ok (.getfield 62, 3) := by decide +kernel
theorem xd_De_tell_56 : decode xb_De_tell 56 = .ok (.ireturn, 1) := by decide +kernel
theorem xd_De_tell_57 : decode xb_De_tell 57 = .ok (.aload_n 0, 1) := by decide +kernel
theorem xd_De_tell_58 : decode xb_De_tell 58 = .ok (.getfield 101, 3) := by decide +kernel
theorem xd_De_tell_61 : decode xb_De_tell 61 = .ok (.ireturn, 1) := by decide +kernel
theorem xd_De_tell_62 : decode xb_De_tell 62 = .ok (.aload_n 0, 1) := by decide +kernel
theorem xd_De_tell_63 : decode xb_De_tell 63 = .ok (.getfield 72, 3) := by decide +kernel
theorem xd_De_tell_66 : decode xb_De_tell 66 = .ok (.ireturn, 1) := by decide +kernel
theorem xd_De_tell_67 : decode xb_De_tell 67 = .ok (.aload_n 0, 1) := by decide +kernel
theorem xd_De_tell_68 : decode xb_De_tell 68 = .ok (.getfield 21, 3) := by decide +kernel
theorem xd_De_tell_71 : decode xb_De_tell 71 = .ok (.getfield 129, 3) := by decide +kernel
theorem xd_De_tell_74 : decode xb_De_tell 74 = .ok (.ireturn, 1) := by decide +kernel
theorem xd_De_tell_75 : decode xb_De_tell 75 = .ok (.aload_n 0, 1) := by decide +kernel
theorem xd_De_tell_76 : decode xb_De_tell 76 = .ok (.getfield 21, 3) := by decide +kernel
theorem xd_De_tell_79 : decode xb_De_tell 79 = .ok (.getfield 132, 3) := by decide +kernel
theorem xd_De_tell_82 : decode xb_De_tell 82 = .ok (.ireturn, 1) := by decide +kernel
theorem xd_De_tell_83 : decode xb_De_tell 83 = .ok (.aload_n 0, 1) := by decide +kernel
theorem xd_De_tell_84 : decode xb_De_tell 84 = .ok (.getfield 42, 3) := by decide +kernel
theorem xd_De_tell_87 : decode xb_De_tell 87 = .ok (.iconst 0, 1) := by decide +kernel
theorem xd_De_tell_88 : decode xb_De_tell 88 = .ok (.iaload, 1) := by decide +kernel
theorem xd_De_tell_89 : decode xb_De_tell 89 = .ok (.ireturn, 1) := by decide +kernel
theorem xd_De_tell_90 : decode xb_De_tell 90 = .ok (.aload_n 0, 1) := by decide +kernel
theorem xd_De_tell_91 : decode xb_De_tell 91 = .ok (.getfield 42, 3) := by decide +kernel
theorem xd_De_tell_94 : decode xb_De_tell 94 = .ok (.iconst 1, 1) := by decide +kernel
theorem xd_De_tell_95 : decode xb_De_tell 95 = .ok (.iaload, 1) := by decide +kernel
theorem xd_De_tell_96 : decode xb_De_tell 96 = .ok (.ireturn, 1) := by decide +kernel
theorem xd_De_tell_97 : decode xb_De_tell 97 = .ok (.aload_n 0, 1) := by decide +kernel
theorem xd_De_tell_98 : decode xb_De_tell 98 = .ok (.getfield 42, 3) := by decide +kernel
theorem xd_De_tell_101 : decode xb_De_tell 101 = .ok (.iconst 2, 1) := by decide +kernel
theorem xd_De_tell_102 : decode xb_De_tell 102 = .ok (.iaload, 1) := by decide +kernel
theorem xd_De_tell_103 : decode xb_De_tell 103 = .ok (.ireturn, 1) := by decide +kernel
theorem xd_De_tell_104 : decode xb_De_tell 104 = .ok (.aload_n 0, 1) := by decide +kernel
theorem xd_De_tell_105 : decode xb_De_tell 105 = .ok (.getfield 120, 3) := by decide +kernel
theorem xd_De_tell_108 : decode xb_De_tell 108 = .ok (.ireturn, 1) := by decide +kernel
theorem xd_De_tell_109 : decode xb_De_tell 109 = .ok (.iconst (-1), 1) := by decide +kernel
theorem xd_De_tell_110 : decode xb_De_tell 110 = .ok (.ireturn, 1) := by decide +kernel
abbrev xb_FR_device : ByteArray := prog_1_method_18_code
def xy_FR_device : MethodName := ⟨R_FR, "device", "(II)I"⟩
abbrev xrm_FR_device : Room := { frames := 2, cells := 0, slots := 0, locals := 42 }
theorem xK_FR_device : Cond.code xy_FR_device xb_FR_device 3 (some .int) ∈ vTB := vTB_in 728 (by decide +kernel) rfl
theorem xI_FR_device : Cond.instanceMethod xy_FR_device ∈ vTB := vTB_in 726 (by decide +kernel) rfl
theorem xS_FR_device : Cond.selects R_FR xy_FR_device xy_FR_device ∈ vTB := vTB_in 727 (by decide +kernel) rfl
theorem xw_FR_device {R : Room} {s : State} {args : Array Value} {own : String} {index : Nat} (hts : ∀ w ∈ vTB, w.before args s = true) (hl : Cond.methodLink own index xy_FR_device ∈ vTB) (hR : xrm_FR_device.frames + 1 ≤ R.frames ∧ 8 + (3 + 11) + xrm_FR_device.locals ≤ R.locals) : CallW R s args own R_FR index xy_FR_device xb_FR_device 3 (some .int) (Cond.code xy_FR_device xb_FR_device 3 (some .int) :: vTB) xrm_FR_device 0 0 2 := cwV 2 hts (fw_gV vTB_good xK_FR_device hl xI_FR_device xS_FR_device N_FR) rfl rfl rfl (by decide +kernel) hR
theorem xd_FR_device_0 : decode xb_FR_device 0 = .ok (.iload_n 1, 1) := by decide +kernel
theorem xd_FR_device_1 : decode xb_FR_device 1 = .ok (.invokestatic 64, 3) := by decide +kernel
theorem xd_FR_device_4 : decode xb_FR_device 4 = .ok (.ifCond .eq 16, 3) := by decide +kernel
theorem xd_FR_device_7 : decode xb_FR_device 7 = .ok (.aload_n 0, 1) := by decide +kernel
theorem xd_FR_device_8 : decode xb_FR_device 8 = .ok (.getfield 38, 3) := by decide +kernel
theorem xd_FR_device_11 : decode xb_FR_device 11 = .ok (.iload_n 1, 1) := by decide +kernel
theorem xd_FR_device_12 : decode xb_FR_device 12 = .ok (.aaload, 1) := by decide +kernel
theorem xd_FR_device_13 : decode xb_FR_device 13 = .ok (.iload_n 2, 1) := by decide +kernel
theorem xd_FR_device_14 : decode xb_FR_device 14 = .ok (.invokevirtual 172, 3) := by decide +kernel
theorem xd_FR_device_17 : decode xb_FR_device 17 = .ok (.goto 4, 3) := by decide +kernel
theorem xd_FR_device_20 : decode xb_FR_device 20 = .ok (.iconst (-1), 1) := by decide +kernel
theorem xd_FR_device_21 : decode xb_FR_device 21 = .ok (.ireturn, 1) := by decide +kernel
abbrev xb_FR_data : ByteArray := prog_1_method_19_code
def xy_FR_data : MethodName := ⟨R_FR, "data", "(IIII)I"⟩
abbrev xrm_FR_data : Room := { frames := 3, cells := 0, slots := 0, locals := 63 }
theorem xK_FR_data : Cond.code xy_FR_data xb_FR_data 5 (some .int) ∈ vTB := vTB_in 736 (by decide +kernel) rfl
theorem xI_FR_data : Cond.instanceMethod xy_FR_data ∈ vTB := vTB_in 734 (by decide +kernel) rfl
theorem xS_FR_data : Cond.selects R_FR xy_FR_data xy_FR_data ∈ vTB := vTB_in 735 (by decide +kernel) rfl
theorem xw_FR_data {R : Room} {s : State} {args : Array Value} {own : String} {index : Nat} (hts : ∀ w ∈ vTB, w.before args s = true) (hl : Cond.methodLink own index xy_FR_data ∈ vTB) (hR : xrm_FR_data.frames + 1 ≤ R.frames ∧ 8 + (5 + 11) + xrm_FR_data.locals ≤ R.locals) : CallW R s args own R_FR index xy_FR_data xb_FR_data 5 (some .int) (Cond.code xy_FR_data xb_FR_data 5 (some .int) :: vTB) xrm_FR_data 0 0 4 := cwV 4 hts (fw_gV vTB_good xK_FR_data hl xI_FR_data xS_FR_data N_FR) rfl rfl rfl (by decide +kernel) hR
theorem xd_FR_data_0 : decode xb_FR_data 0 = .ok (.iload_n 1, 1) := by decide +kernel
theorem xd_FR_data_1 : decode xb_FR_data 1 = .ok (.iconst 0, 1) := by decide +kernel
theorem xd_FR_data_2 : decode xb_FR_data 2 = .ok (.iconst 1, 1) := by decide +kernel
theorem xd_FR_data_3 : decode xb_FR_data 3 = .ok (.invokestatic 52, 3) := by decide +kernel
theorem xd_FR_data_6 : decode xb_FR_data 6 = .ok (.ifCond .eq 19, 3) := by decide +kernel
theorem xd_FR_data_9 : decode xb_FR_data 9 = .ok (.iload_n 2, 1) := by decide +kernel
theorem xd_FR_data_10 : decode xb_FR_data 10 = .ok (.invokestatic 64, 3) := by decide +kernel
theorem xd_FR_data_13 : decode xb_FR_data 13 = .ok (.ifCond .eq 12, 3) := by decide +kernel
theorem xd_FR_data_16 : decode xb_FR_data 16 = .ok (.iload_n 3, 1) := by decide +kernel
theorem xd_FR_data_17 : decode xb_FR_data 17 = .ok (.iload 4, 2) := by decide +kernel
theorem xd_FR_data_19 : decode xb_FR_data 19 = .ok (.invokestatic 87, 3) := by decide +kernel
theorem xd_FR_data_22 : decode xb_FR_data 22 = .ok (.ifCond .ne 5, 3) := by decide +kernel
theorem xd_FR_data_25 : decode xb_FR_data 25 = .ok (.iconst (-1), 1) := by decide +kernel
theorem xd_FR_data_26 : decode xb_FR_data 26 = .ok (.ireturn, 1) := by decide +kernel
theorem xd_FR_data_27 : decode xb_FR_data 27 = .ok (.iload_n 1, 1) := by decide +kernel
theorem xd_FR_data_28 : decode xb_FR_data 28 = .ok (.ifCond .ne 22, 3) := by decide +kernel
theorem xd_FR_data_31 : decode xb_FR_data 31 = .ok (.aload_n 0, 1) := by decide +kernel
theorem xd_FR_data_32 : decode xb_FR_data 32 = .ok (.getfield 38, 3) := by decide +kernel
theorem xd_FR_data_35 : decode xb_FR_data 35 = .ok (.iload_n 2, 1) := by decide +kernel
theorem xd_FR_data_36 : decode xb_FR_data 36 = .ok (.aaload, 1) := by decide +kernel
theorem xd_FR_data_37 : decode xb_FR_data 37 = .ok (.getfield 173, 3) := by decide +kernel
theorem xd_FR_data_40 : decode xb_FR_data 40 = .ok (.iload_n 3, 1) := by decide +kernel
theorem xd_FR_data_41 : decode xb_FR_data 41 = .ok (.iload 4, 2) := by decide +kernel
theorem xd_FR_data_43 : decode xb_FR_data 43 = .ok (.invokestatic 95, 3) := by decide +kernel
theorem xd_FR_data_46 : decode xb_FR_data 46 = .ok (.iaload, 1) := by decide +kernel
theorem xd_FR_data_47 : decode xb_FR_data 47 = .ok (.goto 19, 3) := by decide +kernel
theorem xd_FR_data_50 : decode xb_FR_data 50 = .ok (.aload_n 0, 1) := by decide +kernel
theorem xd_FR_data_51 : decode xb_FR_data 51 = .ok (.getfield 32, 3) := by decide +kernel
theorem xd_FR_data_54 : decode xb_FR_data 54 = .ok (.iload_n 2, 1) := by decide +kernel
theorem xd_FR_data_55 : decode xb_FR_data 55 = .ok (.aaload, 1) := by decide +kernel
theorem xd_FR_data_56 : decode xb_FR_data 56 = .ok (.getfield 176, 3) := by decide +kernel
theorem xd_FR_data_59 : decode xb_FR_data 59 = .ok (.iload_n 3, 1) := by decide +kernel
theorem xd_FR_data_60 : decode xb_FR_data 60 = .ok (.iload 4, 2) := by decide +kernel
theorem xd_FR_data_62 : decode xb_FR_data 62 = .ok (.invokestatic 95, 3) := by decide +kernel
theorem xd_FR_data_65 : decode xb_FR_data 65 = .ok (.iaload, 1) := by decide +kernel
theorem xd_FR_data_66 : decode xb_FR_data 66 = .ok (.ireturn, 1) := by decide +kernel
abbrev xb_AL_latest : ByteArray := prog_2_method_3_code
def xy_AL_latest : MethodName := ⟨R_AL, "latest", "(I)I"⟩
abbrev xrm_AL_latest : Room := { frames := 1, cells := 0, slots := 0, locals := 22 }
theorem xK_AL_latest : Cond.code xy_AL_latest xb_AL_latest 2 (some .int) ∈ vTB := vTB_in 744 (by decide +kernel) rfl
theorem xI_AL_latest : Cond.instanceMethod xy_AL_latest ∈ vTB := vTB_in 742 (by decide +kernel) rfl
theorem xS_AL_latest : Cond.selects R_AL xy_AL_latest xy_AL_latest ∈ vTB := vTB_in 743 (by decide +kernel) rfl
theorem xw_AL_latest {R : Room} {s : State} {args : Array Value} {own : String} {index : Nat} (hts : ∀ w ∈ vTB, w.before args s = true) (hl : Cond.methodLink own index xy_AL_latest ∈ vTB) (hR : xrm_AL_latest.frames + 1 ≤ R.frames ∧ 8 + (2 + 11) + xrm_AL_latest.locals ≤ R.locals) : CallW R s args own R_AL index xy_AL_latest xb_AL_latest 2 (some .int) (Cond.code xy_AL_latest xb_AL_latest 2 (some .int) :: vTB) xrm_AL_latest 0 0 1 := cwV 1 hts (fw_gV vTB_good xK_AL_latest hl xI_AL_latest xS_AL_latest N_AL) rfl rfl rfl (by decide +kernel) hR
theorem xd_AL_latest_0 : decode xb_AL_latest 0 = .ok (.iload_n 1, 1) := by decide +kernel
theorem xd_AL_latest_1 : decode xb_AL_latest 1 = .ok (.iconst 0, 1) := by decide +kernel
theorem xd_AL_latest_2 : decode xb_AL_latest 2 = .ok (.aload_n 0, 1) := by decide +kernel
theorem xd_AL_latest_3 : decode xb_AL_latest 3 = .ok (.getfield 15, 3) := by decide +kernel
theorem xd_AL_latest_6 : decode xb_AL_latest 6 = .ok (.bipush 8, 2) := by decide +kernel
theorem xd_AL_latest_8 : decode xb_AL_latest 8 = .ok (.invokestatic 19, 3) := by decide +kernel
theorem xd_AL_latest_11 : decode xb_AL_latest 11 = .ok (.iconst 1, 1) := by decide +kernel
theorem xd_AL_latest_12 : decode xb_AL_latest 12 = .ok (.isub, 1) := by decide +kernel
theorem xd_AL_latest_13 : decode xb_AL_latest 13 = .ok (.invokestatic 25, 3) := by decide +kernel
theorem xd_AL_latest_16 : decode xb_AL_latest 16 = .ok (.ifCond .ne 6, 3) := by decide +kernel
theorem xd_AL_latest_19 : decode xb_AL_latest 19 = .ok (.bipush (-2), 2) := by decide +kernel
theorem xd_AL_latest_21 : decode xb_AL_latest 21 = .ok (.ireturn, 1) := by decide +kernel
theorem xd_AL_latest_22 : decode xb_AL_latest 22 = .ok (.aload_n 0, 1) := by decide +kernel
theorem xd_AL_latest_23 : decode xb_AL_latest 23 = .ok (.getfield 11, 3) := by decide +kernel
theorem xd_AL_latest_26 : decode xb_AL_latest 26 = .ok (.aload_n 0, 1) := by decide +kernel
theorem xd_AL_latest_27 : decode xb_AL_latest 27 = .ok (.getfield 15, 3) := by decide +kernel
theorem xd_AL_latest_30 : decode xb_AL_latest 30 = .ok (.iconst 1, 1) := by decide +kernel
theorem xd_AL_latest_31 : decode xb_AL_latest 31 = .ok (.isub, 1) := by decide +kernel
theorem xd_AL_latest_32 : decode xb_AL_latest 32 = .ok (.iload_n 1, 1) := by decide +kernel
theorem xd_AL_latest_33 : decode xb_AL_latest 33 = .ok (.isub, 1) := by decide +kernel
theorem xd_AL_latest_34 : decode xb_AL_latest 34 = .ok (.bipush 8, 2) := by decide +kernel
theorem xd_AL_latest_36 : decode xb_AL_latest 36 = .ok (.irem, 1) := by decide +kernel
theorem xd_AL_latest_37 : decode xb_AL_latest 37 = .ok (.iaload, 1) := by decide +kernel
theorem xd_AL_latest_38 : decode xb_AL_latest 38 = .ok (.ireturn, 1) := by decide +kernel
abbrev xb_FR_alarms : ByteArray := prog_1_method_20_code
def xy_FR_alarms : MethodName := ⟨R_FR, "alarms", "(I)I"⟩
abbrev xrm_FR_alarms : Room := { frames := 2, cells := 0, slots := 0, locals := 43 }
theorem xK_FR_alarms : Cond.code xy_FR_alarms xb_FR_alarms 2 (some .int) ∈ vTB := vTB_in 740 (by decide +kernel) rfl
theorem xI_FR_alarms : Cond.instanceMethod xy_FR_alarms ∈ vTB := vTB_in 738 (by decide +kernel) rfl
theorem xS_FR_alarms : Cond.selects R_FR xy_FR_alarms xy_FR_alarms ∈ vTB := vTB_in 739 (by decide +kernel) rfl
theorem xw_FR_alarms {R : Room} {s : State} {args : Array Value} {own : String} {index : Nat} (hts : ∀ w ∈ vTB, w.before args s = true) (hl : Cond.methodLink own index xy_FR_alarms ∈ vTB) (hR : xrm_FR_alarms.frames + 1 ≤ R.frames ∧ 8 + (2 + 11) + xrm_FR_alarms.locals ≤ R.locals) : CallW R s args own R_FR index xy_FR_alarms xb_FR_alarms 2 (some .int) (Cond.code xy_FR_alarms xb_FR_alarms 2 (some .int) :: vTB) xrm_FR_alarms 0 0 1 := cwV 1 hts (fw_gV vTB_good xK_FR_alarms hl xI_FR_alarms xS_FR_alarms N_FR) rfl rfl rfl (by decide +kernel) hR
theorem xd_FR_alarms_0 : decode xb_FR_alarms 0 = .ok (.aload_n 0, 1) := by decide +kernel
theorem xd_FR_alarms_1 : decode xb_FR_alarms 1 = .ok (.getfield 26, 3) := by decide +kernel
theorem xd_FR_alarms_4 : decode xb_FR_alarms 4 = .ok (.iload_n 1, 1) := by decide +kernel
theorem xd_FR_alarms_5 : decode xb_FR_alarms 5 = .ok (.invokevirtual 179, 3) := by decide +kernel
theorem xd_FR_alarms_8 : decode xb_FR_alarms 8 = .ok (.ireturn, 1) := by decide +kernel
abbrev xb_FR_watchEnds : ByteArray := prog_1_method_23_code
def xy_FR_watchEnds : MethodName := ⟨R_FR, "watchEnds", "()I"⟩
abbrev xrm_FR_watchEnds : Room := { frames := 0, cells := 0, slots := 0, locals := 0 }
theorem xK_FR_watchEnds : Cond.code xy_FR_watchEnds xb_FR_watchEnds 3 (some .int) ∈ vTB := vTB_in 756 (by decide +kernel) rfl
theorem xI_FR_watchEnds : Cond.instanceMethod xy_FR_watchEnds ∈ vTB := vTB_in 755 (by decide +kernel) rfl
theorem xS_FR_watchEnds : Cond.selects R_FR xy_FR_watchEnds xy_FR_watchEnds ∈ vTB := vTB_sel (q := (xy_FR_watchEnds, 9)) 36 (by decide +kernel)
theorem xw_FR_watchEnds {R : Room} {s : State} {args : Array Value} {own : String} {index : Nat} (hts : ∀ w ∈ vTB, w.before args s = true) (hl : Cond.methodLink own index xy_FR_watchEnds ∈ vTB) (hR : xrm_FR_watchEnds.frames + 1 ≤ R.frames ∧ 8 + (3 + 11) + xrm_FR_watchEnds.locals ≤ R.locals) : CallW R s args own R_FR index xy_FR_watchEnds xb_FR_watchEnds 3 (some .int) (Cond.code xy_FR_watchEnds xb_FR_watchEnds 3 (some .int) :: vTB) xrm_FR_watchEnds 0 0 0 := cwV 0 hts (fw_gV vTB_good xK_FR_watchEnds hl xI_FR_watchEnds xS_FR_watchEnds N_FR) rfl rfl rfl (by decide +kernel) hR
theorem xd_FR_watchEnds_0 : decode xb_FR_watchEnds 0 = .ok (.iconst 0, 1) := by decide +kernel
theorem xd_FR_watchEnds_1 : decode xb_FR_watchEnds 1 = .ok (.istore_n 1, 1) := by decide +kernel
theorem xd_FR_watchEnds_2 : decode xb_FR_watchEnds 2 = .ok (.iconst 0, 1) := by decide +kernel
theorem xd_FR_watchEnds_3 : decode xb_FR_watchEnds 3 = .ok (.istore_n 2, 1) := by decide +kernel
theorem xd_FR_watchEnds_4 : decode xb_FR_watchEnds 4 = .ok (.iload_n 2, 1) := by decide +kernel
theorem xd_FR_watchEnds_5 : decode xb_FR_watchEnds 5 = .ok (.iconst 2, 1) := by decide +kernel
theorem xd_FR_watchEnds_6 : decode xb_FR_watchEnds 6 = .ok (.if_icmp .ge 31, 3) := by decide +kernel
theorem xd_FR_watchEnds_9 : decode xb_FR_watchEnds 9 = .ok (.iload_n 1, 1) := by decide +kernel
theorem xd_FR_watchEnds_10 : decode xb_FR_watchEnds 10 = .ok (.aload_n 0, 1) := by decide +kernel
theorem xd_FR_watchEnds_11 : decode xb_FR_watchEnds 11 = .ok (.getfield 32, 3) := by decide +kernel
theorem xd_FR_watchEnds_14 : decode xb_FR_watchEnds 14 = .ok (.iload_n 2, 1) := by decide +kernel
theorem xd_FR_watchEnds_15 : decode xb_FR_watchEnds 15 = .ok (.aaload, 1) := by decide +kernel
theorem xd_FR_watchEnds_16 : decode xb_FR_watchEnds 16 = .ok (.getfield 197, 3) := by decide +kernel
theorem xd_FR_watchEnds_19 : decode xb_FR_watchEnds 19 = .ok (.aload_n 0, 1) := by decide +kernel
theorem xd_FR_watchEnds_20 : decode xb_FR_watchEnds 20 = .ok (.getfield 38, 3) := by decide +kernel
theorem xd_FR_watchEnds_23 : decode xb_FR_watchEnds 23 = .ok (.iload_n 2, 1) := by decide +kernel
theorem xd_FR_watchEnds_24 : decode xb_FR_watchEnds 24 = .ok (.aaload, 1) := by decide +kernel
theorem xd_FR_watchEnds_25 : decode xb_FR_watchEnds 25 = .ok (.getfield 199, 3) := by decide +kernel
theorem xd_FR_watchEnds_28 : decode xb_FR_watchEnds 28 = .ok (.iadd, 1) := by decide +kernel
theorem xd_FR_watchEnds_29 : decode xb_FR_watchEnds 29 = .ok (.iadd, 1) := by decide +kernel
theorem xd_FR_watchEnds_30 : decode xb_FR_watchEnds 30 = .ok (.istore_n 1, 1) := by decide +kernel
theorem xd_FR_watchEnds_31 : decode xb_FR_watchEnds 31 = .ok (.iinc 2 1, 3) := by decide +kernel
theorem xd_FR_watchEnds_34 : decode xb_FR_watchEnds 34 = .ok (.goto (-30), 3) := by decide +kernel
theorem xd_FR_watchEnds_37 : decode xb_FR_watchEnds 37 = .ok (.iload_n 1, 1) := by decide +kernel
theorem xd_FR_watchEnds_38 : decode xb_FR_watchEnds 38 = .ok (.ireturn, 1) := by decide +kernel
abbrev xb_FR_count : ByteArray := prog_1_method_21_code
def xy_FR_count : MethodName := ⟨R_FR, "count", "(I)I"⟩
abbrev xrm_FR_count : Room := { frames := 1, cells := 0, slots := 0, locals := 22 }
theorem xK_FR_count : Cond.code xy_FR_count xb_FR_count 2 (some .int) ∈ vTB := vTB_in 752 (by decide +kernel) rfl
theorem xI_FR_count : Cond.instanceMethod xy_FR_count ∈ vTB := vTB_in 750 (by decide +kernel) rfl
theorem xS_FR_count : Cond.selects R_FR xy_FR_count xy_FR_count ∈ vTB := vTB_in 751 (by decide +kernel) rfl
theorem xw_FR_count {R : Room} {s : State} {args : Array Value} {own : String} {index : Nat} (hts : ∀ w ∈ vTB, w.before args s = true) (hl : Cond.methodLink own index xy_FR_count ∈ vTB) (hR : xrm_FR_count.frames + 1 ≤ R.frames ∧ 8 + (2 + 11) + xrm_FR_count.locals ≤ R.locals) : CallW R s args own R_FR index xy_FR_count xb_FR_count 2 (some .int) (Cond.code xy_FR_count xb_FR_count 2 (some .int) :: vTB) xrm_FR_count 0 0 1 := cwV 1 hts (fw_gV vTB_good xK_FR_count hl xI_FR_count xS_FR_count N_FR) rfl rfl rfl (by decide +kernel) hR
theorem xd_FR_count_0 : decode xb_FR_count 0 = .ok (.iload_n 1, 1) := by decide +kernel
theorem xd_FR_count_1 : decode xb_FR_count 1 = .ok (.tableswitch 99 0 7 #[47, 52, 60, 68, 76, 81, 86, 94], 47) := by decide +kernel
theorem xd_FR_count_48 : decode xb_FR_count 48 = .ok (.aload_n 0, 1) := by decide +kernel
theorem xd_FR_count_49 : decode xb_FR_count 49 = .ok (.getfield 156, 3) := by decide +kernel
theorem xd_FR_count_52 : decode xb_FR_count 52 = .ok (.ireturn, 1) := by decide +kernel
theorem xd_FR_count_53 : decode xb_FR_count 53 = .ok (.aload_n 0, 1) := by decide +kernel
theorem xd_FR_count_54 : decode xb_FR_count 54 = .ok (.getfield 19, 3) := by decide +kernel
theorem xd_FR_count_57 : decode xb_FR_count 57 = .ok (.getfield 182, 3) := by decide +kernel
theorem xd_FR_count_60 : decode xb_FR_count 60 = .ok (.ireturn, 1) := by decide +kernel
theorem xd_FR_count_61 : decode xb_FR_count 61 = .ok (.aload_n 0, 1) := by decide +kernel
theorem xd_FR_count_62 : decode xb_FR_count 62 = .ok (.getfield 19, 3) := by decide +kernel
theorem xd_FR_count_65 : decode xb_FR_count 65 = .ok (.getfield 185, 3) := by decide +kernel
theorem xd_FR_count_68 : decode xb_FR_count 68 = .ok (.ireturn, 1) := by decide +kernel
theorem xd_FR_count_69 : decode xb_FR_count 69 = .ok (.aload_n 0, 1) := by decide +kernel
theorem xd_FR_count_70 : decode xb_FR_count 70 = .ok (.getfield 19, 3) := by decide +kernel
theorem xd_FR_count_73 : decode xb_FR_count 73 = .ok (.getfield 147, 3) := by decide +kernel
theorem xd_FR_count_76 : decode xb_FR_count 76 = .ok (.ireturn, 1) := by decide +kernel
theorem xd_FR_count_77 : decode xb_FR_count 77 = .ok (.aload_n 0, 1) := by decide +kernel
theorem xd_FR_count_78 : decode xb_FR_count 78 = .ok (.getfield 134, 3) := by decide +kernel
theorem xd_FR_count_81 : decode xb_FR_count 81 = .ok (.ireturn, 1) := by decide +kernel
theorem xd_FR_count_82 : decode xb_FR_count 82 = .ok (.aload_n 0, 1) := by decide +kernel
theorem xd_FR_count_83 : decode xb_FR_count 83 = .ok (.getfield 116, 3) := by decide +kernel
theorem xd_FR_count_86 : decode xb_FR_count 86 = .ok (.ireturn, 1) := by decide +kernel
theorem xd_FR_count_87 : decode xb_FR_count 87 = .ok (.aload_n 0, 1) := by decide +kernel
theorem xd_FR_count_88 : decode xb_FR_count 88 = .ok (.getfield 26, 3) := by decide +kernel
theorem xd_FR_count_91 : decode xb_FR_count 91 = .ok (.getfield 188, 3) := by decide +kernel
theorem xd_FR_count_94 : decode xb_FR_count 94 = .ok (.ireturn, 1) := by decide +kernel
theorem xd_FR_count_95 : decode xb_FR_count 95 = .ok (.aload_n 0, 1) := by decide +kernel
theorem xd_FR_count_96 : decode xb_FR_count 96 = .ok (.invokevirtual 191, 3) := by decide +kernel
theorem xd_FR_count_99 : decode xb_FR_count 99 = .ok (.ireturn, 1) := by decide +kernel
theorem xd_FR_count_100 : decode xb_FR_count 100 = .ok (.iconst (-1), 1) := by decide +kernel
theorem xd_FR_count_101 : decode xb_FR_count 101 = .ok (.ireturn, 1) := by decide +kernel
