abbrev mb_Mo_is : ByteArray := prog_11_method_2_code
def my_Mo_is : MethodName := ⟨R_Mo, "is", "(III)Z"⟩
abbrev mrm_Mo_is : Room := { frames := 0, cells := 0, slots := 0, locals := 0 }
theorem mK_Mo_is : Cond.code my_Mo_is mb_Mo_is 3 (some .boolean) ∈ vTB := vTB_in 941 (by decide +kernel) rfl
theorem mS_Mo_is : Cond.static my_Mo_is ∈ vTB := vTB_in 940 (by decide +kernel) rfl
theorem mw_Mo_is {R : Room} {s : State} {args : Array Value} {own : String} {index : Nat} (hts : ∀ w ∈ vTB, w.before args s = true) (hl : Cond.methodLink own index my_Mo_is ∈ vTB) (hR : mrm_Mo_is.frames + 1 ≤ R.frames ∧ 8 + (3 + 11) + mrm_Mo_is.locals ≤ R.locals) : CallB R s args own index my_Mo_is mb_Mo_is 3 (some .boolean) (Cond.code my_Mo_is mb_Mo_is 3 (some .boolean) :: vTB) mrm_Mo_is 0 0 3 ∧ (Cond.static my_Mo_is).before args s = true := va_cwS 3 hts (fw_gS2 vTB_good mK_Mo_is hl mS_Mo_is N_Mo) rfl rfl rfl (by decide +kernel) hR
theorem mwn_Mo_is {R : Room} {s : State} {args : Array Value} {own host : String} {index : Nat} (hts : ∀ w ∈ vTB, w.before args s = true) (hl : va_Nw (.methodLinkNest own index my_Mo_is host) s) (hR : mrm_Mo_is.frames + 1 ≤ R.frames ∧ 8 + (3 + 11) + mrm_Mo_is.locals ≤ R.locals) : va_CN R s args own index my_Mo_is host mb_Mo_is 3 (some .boolean) (Cond.code my_Mo_is mb_Mo_is 3 (some .boolean) :: vTB) mrm_Mo_is 0 0 3 ∧ (Cond.static my_Mo_is).before args s = true ∧ True := ⟨va_cnB 3 hts (fw_gI vTB_good mK_Mo_is) rfl rfl rfl hl (hts _ N_Mo) (by decide +kernel) hR, hts _ mS_Mo_is, trivial⟩
theorem md_Mo_is_0 : decode mb_Mo_is 0 = .ok (.iload_n 0, 1) := by decide +kernel
theorem md_Mo_is_1 : decode mb_Mo_is 1 = .ok (.iload_n 1, 1) := by decide +kernel
theorem md_Mo_is_2 : decode mb_Mo_is 2 = .ok (.if_icmp .lt 12, 3) := by decide +kernel
theorem md_Mo_is_5 : decode mb_Mo_is 5 = .ok (.iload_n 0, 1) := by decide +kernel
theorem md_Mo_is_6 : decode mb_Mo_is 6 = .ok (.iload_n 2, 1) := by decide +kernel
theorem md_Mo_is_7 : decode mb_Mo_is 7 = .ok (.if_icmp .gt 7, 3) := by decide +kernel
theorem md_Mo_is_10 : decode mb_Mo_is 10 = .ok (.iconst 1, 1) := by decide +kernel
theorem md_Mo_is_11 : decode mb_Mo_is 11 = .ok (.goto 4, 3) := by decide +kernel
theorem md_Mo_is_14 : decode mb_Mo_is 14 = .ok (.iconst 0, 1) := by decide +kernel
theorem md_Mo_is_15 : decode mb_Mo_is 15 = .ok (.ireturn, 1) := by decide +kernel
abbrev mb_Mo_kind : ByteArray := prog_11_method_3_code
def my_Mo_kind : MethodName := ⟨R_Mo, "kind", "(IIIZ)Z"⟩
abbrev mrm_Mo_kind : Room := { frames := 1, cells := 0, slots := 0, locals := 22 }
theorem mK_Mo_kind : Cond.code my_Mo_kind mb_Mo_kind 6 (some .boolean) ∈ vTB := vTB_in 938 (by decide +kernel) rfl
theorem mI_Mo_kind : Cond.instanceMethod my_Mo_kind ∈ vTB := vTB_in 936 (by decide +kernel) rfl
theorem mS_Mo_kind : Cond.selects R_Mo my_Mo_kind my_Mo_kind ∈ vTB := vTB_in 937 (by decide +kernel) rfl
theorem mw_Mo_kind {R : Room} {s : State} {args : Array Value} {own : String} {index : Nat} (hts : ∀ w ∈ vTB, w.before args s = true) (hl : Cond.methodLink own index my_Mo_kind ∈ vTB) (hR : mrm_Mo_kind.frames + 1 ≤ R.frames ∧ 8 + (6 + 11) + mrm_Mo_kind.locals ≤ R.locals) : CallW R s args own R_Mo index my_Mo_kind mb_Mo_kind 6 (some .boolean) (Cond.code my_Mo_kind mb_Mo_kind 6 (some .boolean) :: vTB) mrm_Mo_kind 0 0 4 := cwV 4 hts (fw_gV vTB_good mK_Mo_kind hl mI_Mo_kind mS_Mo_kind N_Mo) rfl rfl rfl (by decide +kernel) hR
theorem md_Mo_kind_0 : decode mb_Mo_kind 0 = .ok (.iload_n 1, 1) := by decide +kernel
theorem md_Mo_kind_1 : decode mb_Mo_kind 1 = .ok (.iconst 0, 1) := by decide +kernel
theorem md_Mo_kind_2 : decode mb_Mo_kind 2 = .ok (.bipush 7, 2) := by decide +kernel
theorem md_Mo_kind_4 : decode mb_Mo_kind 4 = .ok (.invokestatic 155, 3) := by decide +kernel
theorem md_Mo_kind_7 : decode mb_Mo_kind 7 = .ok (.ifCond .eq 21, 3) := by decide +kernel
theorem md_Mo_kind_10 : decode mb_Mo_kind 10 = .ok (.iload_n 2, 1) := by decide +kernel
theorem md_Mo_kind_11 : decode mb_Mo_kind 11 = .ok (.iconst 0, 1) := by decide +kernel
theorem md_Mo_kind_12 : decode mb_Mo_kind 12 = .ok (.iconst 2, 1) := by decide +kernel
theorem md_Mo_kind_13 : decode mb_Mo_kind 13 = .ok (.invokestatic 155, 3) := by decide +kernel
theorem md_Mo_kind_16 : decode mb_Mo_kind 16 = .ok (.ifCond .eq 12, 3) := by decide +kernel
theorem md_Mo_kind_19 : decode mb_Mo_kind 19 = .ok (.iload_n 3, 1) := by decide +kernel
theorem md_Mo_kind_20 : decode mb_Mo_kind 20 = .ok (.iconst 0, 1) := by decide +kernel
theorem md_Mo_kind_21 : decode mb_Mo_kind 21 = .ok (.iconst 2, 1) := by decide +kernel
theorem md_Mo_kind_22 : decode mb_Mo_kind 22 = .ok (.invokestatic 155, 3) := by decide +kernel
theorem md_Mo_kind_25 : decode mb_Mo_kind 25 = .ok (.ifCond .ne 5, 3) := by decide +kernel
theorem md_Mo_kind_28 : decode mb_Mo_kind 28 = .ok (.iconst 0, 1) := by decide +kernel
theorem md_Mo_kind_29 : decode mb_Mo_kind 29 = .ok (.ireturn, 1) := by decide +kernel
theorem md_Mo_kind_30 : decode mb_Mo_kind 30 = .ok (.iconst 0, 1) := by decide +kernel
theorem md_Mo_kind_31 : decode mb_Mo_kind 31 = .ok (.istore 5, 2) := by decide +kernel
theorem md_Mo_kind_33 : decode mb_Mo_kind 33 = .ok (.iload 5, 2) := by decide +kernel
theorem md_Mo_kind_35 : decode mb_Mo_kind 35 = .ok (.iconst 2, 1) := by decide +kernel
theorem md_Mo_kind_36 : decode mb_Mo_kind 36 = .ok (.if_icmp .ge 31, 3) := by decide +kernel
theorem md_Mo_kind_39 : decode mb_Mo_kind 39 = .ok (.aload_n 0, 1) := by decide +kernel
theorem md_Mo_kind_40 : decode mb_Mo_kind 40 = .ok (.getfield 41, 3) := by decide +kernel
theorem md_Mo_kind_43 : decode mb_Mo_kind 43 = .ok (.iload 5, 2) := by decide +kernel
theorem md_Mo_kind_45 : decode mb_Mo_kind 45 = .ok (.iaload, 1) := by decide +kernel
theorem md_Mo_kind_46 : decode mb_Mo_kind 46 = .ok (.ifCond .ne 13, 3) := by decide +kernel
theorem md_Mo_kind_49 : decode mb_Mo_kind 49 = .ok (.aload_n 0, 1) := by decide +kernel
theorem md_Mo_kind_50 : decode mb_Mo_kind 50 = .ok (.getfield 89, 3) := by decide +kernel
theorem md_Mo_kind_53 : decode mb_Mo_kind 53 = .ok (.iload 5, 2) := by decide +kernel
theorem md_Mo_kind_55 : decode mb_Mo_kind 55 = .ok (.iaload, 1) := by decide +kernel
theorem md_Mo_kind_56 : decode mb_Mo_kind 56 = .ok (.ifCond .eq 5, 3) := by decide +kernel
theorem md_Mo_kind_59 : decode mb_Mo_kind 59 = .ok (.iconst 0, 1) := by decide +kernel
theorem md_Mo_kind_60 : decode mb_Mo_kind 60 = .ok (.ireturn, 1) := by decide +kernel
theorem md_Mo_kind_61 : decode mb_Mo_kind 61 = .ok (.iinc 5 1, 3) := by decide +kernel
theorem md_Mo_kind_64 : decode mb_Mo_kind 64 = .ok (.goto (-31), 3) := by decide +kernel
theorem md_Mo_kind_67 : decode mb_Mo_kind 67 = .ok (.aload_n 0, 1) := by decide +kernel
theorem md_Mo_kind_68 : decode mb_Mo_kind 68 = .ok (.getfield 7, 3) := by decide +kernel
theorem md_Mo_kind_71 : decode mb_Mo_kind 71 = .ok (.iload_n 1, 1) := by decide +kernel
theorem md_Mo_kind_72 : decode mb_Mo_kind 72 = .ok (.iload_n 2, 1) := by decide +kernel
theorem md_Mo_kind_73 : decode mb_Mo_kind 73 = .ok (.iastore, 1) := by decide +kernel
theorem md_Mo_kind_74 : decode mb_Mo_kind 74 = .ok (.aload_n 0, 1) := by decide +kernel
theorem md_Mo_kind_75 : decode mb_Mo_kind 75 = .ok (.getfield 13, 3) := by decide +kernel
theorem md_Mo_kind_78 : decode mb_Mo_kind 78 = .ok (.iload_n 1, 1) := by decide +kernel
theorem md_Mo_kind_79 : decode mb_Mo_kind 79 = .ok (.iload_n 3, 1) := by decide +kernel
theorem md_Mo_kind_80 : decode mb_Mo_kind 80 = .ok (.iastore, 1) := by decide +kernel
theorem md_Mo_kind_81 : decode mb_Mo_kind 81 = .ok (.aload_n 0, 1) := by decide +kernel
theorem md_Mo_kind_82 : decode mb_Mo_kind 82 = .ok (.getfield 16, 3) := by decide +kernel
theorem md_Mo_kind_85 : decode mb_Mo_kind 85 = .ok (.iload_n 1, 1) := by decide +kernel
theorem md_Mo_kind_86 : decode mb_Mo_kind 86 = .ok (.iload 4, 2) := by decide +kernel
theorem md_Mo_kind_88 : decode mb_Mo_kind 88 = .ok (.bastore, 1) := by decide +kernel
theorem md_Mo_kind_89 : decode mb_Mo_kind 89 = .ok (.iconst 1, 1) := by decide +kernel
theorem md_Mo_kind_90 : decode mb_Mo_kind 90 = .ok (.ireturn, 1) := by decide +kernel
abbrev mb_Mo_name : ByteArray := prog_11_method_4_code
def my_Mo_name : MethodName := ⟨R_Mo, "name", "(II)Z"⟩
abbrev mrm_Mo_name : Room := { frames := 1, cells := 0, slots := 0, locals := 22 }
theorem mK_Mo_name : Cond.code my_Mo_name mb_Mo_name 3 (some .boolean) ∈ vTB := vTB_in 945 (by decide +kernel) rfl
theorem mI_Mo_name : Cond.instanceMethod my_Mo_name ∈ vTB := vTB_in 943 (by decide +kernel) rfl
theorem mS_Mo_name : Cond.selects R_Mo my_Mo_name my_Mo_name ∈ vTB := vTB_in 944 (by decide +kernel) rfl
theorem mw_Mo_name {R : Room} {s : State} {args : Array Value} {own : String} {index : Nat} (hts : ∀ w ∈ vTB, w.before args s = true) (hl : Cond.methodLink own index my_Mo_name ∈ vTB) (hR : mrm_Mo_name.frames + 1 ≤ R.frames ∧ 8 + (3 + 11) + mrm_Mo_name.locals ≤ R.locals) : CallW R s args own R_Mo index my_Mo_name mb_Mo_name 3 (some .boolean) (Cond.code my_Mo_name mb_Mo_name 3 (some .boolean) :: vTB) mrm_Mo_name 0 0 2 := cwV 2 hts (fw_gV vTB_good mK_Mo_name hl mI_Mo_name mS_Mo_name N_Mo) rfl rfl rfl (by decide +kernel) hR
theorem md_Mo_name_0 : decode mb_Mo_name 0 = .ok (.iload_n 1, 1) := by decide +kernel
theorem md_Mo_name_1 : decode mb_Mo_name 1 = .ok (.iconst 0, 1) := by decide +kernel
theorem md_Mo_name_2 : decode mb_Mo_name 2 = .ok (.iconst 1, 1) := by decide +kernel
theorem md_Mo_name_3 : decode mb_Mo_name 3 = .ok (.invokestatic 155, 3) := by decide +kernel
theorem md_Mo_name_6 : decode mb_Mo_name 6 = .ok (.ifCond .eq 13, 3) := by decide +kernel
theorem md_Mo_name_9 : decode mb_Mo_name 9 = .ok (.iload_n 2, 1) := by decide +kernel
theorem md_Mo_name_10 : decode mb_Mo_name 10 = .ok (.iconst 0, 1) := by decide +kernel
theorem md_Mo_name_11 : decode mb_Mo_name 11 = .ok (.bipush 15, 2) := by decide +kernel
theorem md_Mo_name_13 : decode mb_Mo_name 13 = .ok (.invokestatic 155, 3) := by decide +kernel
theorem md_Mo_name_16 : decode mb_Mo_name 16 = .ok (.ifCond .ne 5, 3) := by decide +kernel
theorem md_Mo_name_19 : decode mb_Mo_name 19 = .ok (.iconst 0, 1) := by decide +kernel
theorem md_Mo_name_20 : decode mb_Mo_name 20 = .ok (.ireturn, 1) := by decide +kernel
theorem md_Mo_name_21 : decode mb_Mo_name 21 = .ok (.aload_n 0, 1) := by decide +kernel
theorem md_Mo_name_22 : decode mb_Mo_name 22 = .ok (.getfield 95, 3) := by decide +kernel
theorem md_Mo_name_25 : decode mb_Mo_name 25 = .ok (.iload_n 1, 1) := by decide +kernel
theorem md_Mo_name_26 : decode mb_Mo_name 26 = .ok (.iload_n 2, 1) := by decide +kernel
theorem md_Mo_name_27 : decode mb_Mo_name 27 = .ok (.iastore, 1) := by decide +kernel
theorem md_Mo_name_28 : decode mb_Mo_name 28 = .ok (.iconst 1, 1) := by decide +kernel
theorem md_Mo_name_29 : decode mb_Mo_name 29 = .ok (.ireturn, 1) := by decide +kernel
abbrev mb_Mo_substitute : ByteArray := prog_11_method_5_code
def my_Mo_substitute : MethodName := ⟨R_Mo, "substitute", "(III)Z"⟩
abbrev mrm_Mo_substitute : Room := { frames := 1, cells := 0, slots := 0, locals := 22 }
theorem mK_Mo_substitute : Cond.code my_Mo_substitute mb_Mo_substitute 4 (some .boolean) ∈ vTB := vTB_in 949 (by decide +kernel) rfl
theorem mI_Mo_substitute : Cond.instanceMethod my_Mo_substitute ∈ vTB := vTB_in 947 (by decide +kernel) rfl
theorem mS_Mo_substitute : Cond.selects R_Mo my_Mo_substitute my_Mo_substitute ∈ vTB := vTB_in 948 (by decide +kernel) rfl
theorem mw_Mo_substitute {R : Room} {s : State} {args : Array Value} {own : String} {index : Nat} (hts : ∀ w ∈ vTB, w.before args s = true) (hl : Cond.methodLink own index my_Mo_substitute ∈ vTB) (hR : mrm_Mo_substitute.frames + 1 ≤ R.frames ∧ 8 + (4 + 11) + mrm_Mo_substitute.locals ≤ R.locals) : CallW R s args own R_Mo index my_Mo_substitute mb_Mo_substitute 4 (some .boolean) (Cond.code my_Mo_substitute mb_Mo_substitute 4 (some .boolean) :: vTB) mrm_Mo_substitute 0 0 3 := cwV 3 hts (fw_gV vTB_good mK_Mo_substitute hl mI_Mo_substitute mS_Mo_substitute N_Mo) rfl rfl rfl (by decide +kernel) hR
theorem md_Mo_substitute_0 : decode mb_Mo_substitute 0 = .ok (.iload_n 1, 1) := by decide +kernel
theorem md_Mo_substitute_1 : decode mb_Mo_substitute 1 = .ok (.iconst 0, 1) := by decide +kernel
theorem md_Mo_substitute_2 : decode mb_Mo_substitute 2 = .ok (.iconst 1, 1) := by decide +kernel
theorem md_Mo_substitute_3 : decode mb_Mo_substitute 3 = .ok (.invokestatic 155, 3) := by decide +kernel
theorem md_Mo_substitute_6 : decode mb_Mo_substitute 6 = .ok (.ifCond .eq 28, 3) := by decide +kernel
theorem md_Mo_substitute_9 : decode mb_Mo_substitute 9 = .ok (.iload_n 2, 1) := by decide +kernel
theorem md_Mo_substitute_10 : decode mb_Mo_substitute 10 = .ok (.iconst 0, 1) := by decide +kernel
theorem md_Mo_substitute_11 : decode mb_Mo_substitute 11 = .ok (.iconst 2, 1) := by decide +kernel
theorem md_Mo_substitute_12 : decode mb_Mo_substitute 12 = .ok (.invokestatic 155, 3) := by decide +kernel
theorem md_Mo_substitute_15 : decode mb_Mo_substitute 15 = .ok (.ifCond .eq 19, 3) := by decide +kernel
theorem md_Mo_substitute_18 : decode mb_Mo_substitute 18 = .ok (.iload_n 2, 1) := by decide +kernel
theorem md_Mo_substitute_19 : decode mb_Mo_substitute 19 = .ok (.iconst 2, 1) := by decide +kernel
theorem md_Mo_substitute_20 : decode mb_Mo_substitute 20 = .ok (.if_icmp .ne 16, 3) := by decide +kernel
theorem md_Mo_substitute_23 : decode mb_Mo_substitute 23 = .ok (.iload_n 3, 1) := by decide +kernel
theorem md_Mo_substitute_24 : decode mb_Mo_substitute 24 = .ok (.iconst 0, 1) := by decide +kernel
theorem md_Mo_substitute_25 : decode mb_Mo_substitute 25 = .ok (.sipush 255, 3) := by decide +kernel
theorem md_Mo_substitute_28 : decode mb_Mo_substitute 28 = .ok (.invokestatic 155, 3) := by decide +kernel
theorem md_Mo_substitute_31 : decode mb_Mo_substitute 31 = .ok (.ifCond .ne 5, 3) := by decide +kernel
theorem md_Mo_substitute_34 : decode mb_Mo_substitute 34 = .ok (.iconst 0, 1) := by decide +kernel
theorem md_Mo_substitute_35 : decode mb_Mo_substitute 35 = .ok (.ireturn, 1) := by decide +kernel
theorem md_Mo_substitute_36 : decode mb_Mo_substitute 36 = .ok (.aload_n 0, 1) := by decide +kernel
theorem md_Mo_substitute_37 : decode mb_Mo_substitute 37 = .ok (.getfield 125, 3) := by decide +kernel
theorem md_Mo_substitute_40 : decode mb_Mo_substitute 40 = .ok (.iload_n 1, 1) := by decide +kernel
theorem md_Mo_substitute_41 : decode mb_Mo_substitute 41 = .ok (.iload_n 2, 1) := by decide +kernel
theorem md_Mo_substitute_42 : decode mb_Mo_substitute 42 = .ok (.iastore, 1) := by decide +kernel
theorem md_Mo_substitute_43 : decode mb_Mo_substitute 43 = .ok (.aload_n 0, 1) := by decide +kernel
theorem md_Mo_substitute_44 : decode mb_Mo_substitute 44 = .ok (.getfield 128, 3) := by decide +kernel
theorem md_Mo_substitute_47 : decode mb_Mo_substitute 47 = .ok (.iload_n 1, 1) := by decide +kernel
theorem md_Mo_substitute_48 : decode mb_Mo_substitute 48 = .ok (.iload_n 3, 1) := by decide +kernel
theorem md_Mo_substitute_49 : decode mb_Mo_substitute 49 = .ok (.iastore, 1) := by decide +kernel
theorem md_Mo_substitute_50 : decode mb_Mo_substitute 50 = .ok (.iconst 1, 1) := by decide +kernel
theorem md_Mo_substitute_51 : decode mb_Mo_substitute 51 = .ok (.ireturn, 1) := by decide +kernel
abbrev mb_Mo_sense : ByteArray := prog_11_method_6_code
def my_Mo_sense : MethodName := ⟨R_Mo, "sense", "(IIII)Z"⟩
abbrev mrm_Mo_sense : Room := { frames := 1, cells := 0, slots := 0, locals := 22 }
theorem mK_Mo_sense : Cond.code my_Mo_sense mb_Mo_sense 5 (some .boolean) ∈ vTB := vTB_in 953 (by decide +kernel) rfl
theorem mI_Mo_sense : Cond.instanceMethod my_Mo_sense ∈ vTB := vTB_in 951 (by decide +kernel) rfl
theorem mS_Mo_sense : Cond.selects R_Mo my_Mo_sense my_Mo_sense ∈ vTB := vTB_in 952 (by decide +kernel) rfl
theorem mw_Mo_sense {R : Room} {s : State} {args : Array Value} {own : String} {index : Nat} (hts : ∀ w ∈ vTB, w.before args s = true) (hl : Cond.methodLink own index my_Mo_sense ∈ vTB) (hR : mrm_Mo_sense.frames + 1 ≤ R.frames ∧ 8 + (5 + 11) + mrm_Mo_sense.locals ≤ R.locals) : CallW R s args own R_Mo index my_Mo_sense mb_Mo_sense 5 (some .boolean) (Cond.code my_Mo_sense mb_Mo_sense 5 (some .boolean) :: vTB) mrm_Mo_sense 0 0 4 := cwV 4 hts (fw_gV vTB_good mK_Mo_sense hl mI_Mo_sense mS_Mo_sense N_Mo) rfl rfl rfl (by decide +kernel) hR
theorem md_Mo_sense_0 : decode mb_Mo_sense 0 = .ok (.iload_n 1, 1) := by decide +kernel
theorem md_Mo_sense_1 : decode mb_Mo_sense 1 = .ok (.iconst 0, 1) := by decide +kernel
theorem md_Mo_sense_2 : decode mb_Mo_sense 2 = .ok (.iconst 1, 1) := by decide +kernel
theorem md_Mo_sense_3 : decode mb_Mo_sense 3 = .ok (.invokestatic 155, 3) := by decide +kernel
theorem md_Mo_sense_6 : decode mb_Mo_sense 6 = .ok (.ifCond .eq 33, 3) := by decide +kernel
theorem md_Mo_sense_9 : decode mb_Mo_sense 9 = .ok (.iload_n 2, 1) := by decide +kernel
theorem md_Mo_sense_10 : decode mb_Mo_sense 10 = .ok (.iconst 0, 1) := by decide +kernel
theorem md_Mo_sense_11 : decode mb_Mo_sense 11 = .ok (.iconst 2, 1) := by decide +kernel
theorem md_Mo_sense_12 : decode mb_Mo_sense 12 = .ok (.invokestatic 155, 3) := by decide +kernel
theorem md_Mo_sense_15 : decode mb_Mo_sense 15 = .ok (.ifCond .eq 24, 3) := by decide +kernel
theorem md_Mo_sense_18 : decode mb_Mo_sense 18 = .ok (.iload_n 3, 1) := by decide +kernel
theorem md_Mo_sense_19 : decode mb_Mo_sense 19 = .ok (.iconst 0, 1) := by decide +kernel
theorem md_Mo_sense_20 : decode mb_Mo_sense 20 = .ok (.iconst 1, 1) := by decide +kernel
theorem md_Mo_sense_21 : decode mb_Mo_sense 21 = .ok (.invokestatic 155, 3) := by decide +kernel
theorem md_Mo_sense_24 : decode mb_Mo_sense 24 = .ok (.ifCond .eq 15, 3) := by decide +kernel
theorem md_Mo_sense_27 : decode mb_Mo_sense 27 = .ok (.iload 4, 2) := by decide +kernel
theorem md_Mo_sense_29 : decode mb_Mo_sense 29 = .ok (.iconst 0, 1) := by decide +kernel
theorem md_Mo_sense_30 : decode mb_Mo_sense 30 = .ok (.sipush 255, 3) := by decide +kernel
theorem md_Mo_sense_33 : decode mb_Mo_sense 33 = .ok (.invokestatic 155, 3) := by decide +kernel
theorem md_Mo_sense_36 : decode mb_Mo_sense 36 = .ok (.ifCond .ne 5, 3) := by decide +kernel
theorem md_Mo_sense_39 : decode mb_Mo_sense 39 = .ok (.iconst 0, 1) := by decide +kernel
theorem md_Mo_sense_40 : decode mb_Mo_sense 40 = .ok (.ireturn, 1) := by decide +kernel
theorem md_Mo_sense_41 : decode mb_Mo_sense 41 = .ok (.aload_n 0, 1) := by decide +kernel
theorem md_Mo_sense_42 : decode mb_Mo_sense 42 = .ok (.getfield 140, 3) := by decide +kernel
theorem md_Mo_sense_45 : decode mb_Mo_sense 45 = .ok (.bipush 6, 2) := by decide +kernel
theorem md_Mo_sense_47 : decode mb_Mo_sense 47 = .ok (.iload_n 1, 1) := by decide +kernel
theorem md_Mo_sense_48 : decode mb_Mo_sense 48 = .ok (.imul, 1) := by decide +kernel
theorem md_Mo_sense_49 : decode mb_Mo_sense 49 = .ok (.iconst 2, 1) := by decide +kernel
theorem md_Mo_sense_50 : decode mb_Mo_sense 50 = .ok (.iload_n 2, 1) := by decide +kernel
theorem md_Mo_sense_51 : decode mb_Mo_sense 51 = .ok (.imul, 1) := by decide +kernel
theorem md_Mo_sense_52 : decode mb_Mo_sense 52 = .ok (.iadd, 1) := by decide +kernel
theorem md_Mo_sense_53 : decode mb_Mo_sense 53 = .ok (.iload_n 3, 1) := by decide +kernel
theorem md_Mo_sense_54 : decode mb_Mo_sense 54 = .ok (.iadd, 1) := by decide +kernel
theorem md_Mo_sense_55 : decode mb_Mo_sense 55 = .ok (.iload 4, 2) := by decide +kernel
theorem md_Mo_sense_57 : decode mb_Mo_sense 57 = .ok (.iastore, 1) := by decide +kernel
theorem md_Mo_sense_58 : decode mb_Mo_sense 58 = .ok (.iconst 1, 1) := by decide +kernel
theorem md_Mo_sense_59 : decode mb_Mo_sense 59 = .ok (.ireturn, 1) := by decide +kernel
abbrev mb_Mo_target : ByteArray := prog_11_method_7_code
def my_Mo_target : MethodName := ⟨R_Mo, "target", "(II)Z"⟩
abbrev mrm_Mo_target : Room := { frames := 1, cells := 0, slots := 0, locals := 22 }
theorem mK_Mo_target : Cond.code my_Mo_target mb_Mo_target 3 (some .boolean) ∈ vTB := vTB_in 957 (by decide +kernel) rfl
theorem mI_Mo_target : Cond.instanceMethod my_Mo_target ∈ vTB := vTB_in 955 (by decide +kernel) rfl
theorem mS_Mo_target : Cond.selects R_Mo my_Mo_target my_Mo_target ∈ vTB := vTB_in 956 (by decide +kernel) rfl
theorem mw_Mo_target {R : Room} {s : State} {args : Array Value} {own : String} {index : Nat} (hts : ∀ w ∈ vTB, w.before args s = true) (hl : Cond.methodLink own index my_Mo_target ∈ vTB) (hR : mrm_Mo_target.frames + 1 ≤ R.frames ∧ 8 + (3 + 11) + mrm_Mo_target.locals ≤ R.locals) : CallW R s args own R_Mo index my_Mo_target mb_Mo_target 3 (some .boolean) (Cond.code my_Mo_target mb_Mo_target 3 (some .boolean) :: vTB) mrm_Mo_target 0 0 2 := cwV 2 hts (fw_gV vTB_good mK_Mo_target hl mI_Mo_target mS_Mo_target N_Mo) rfl rfl rfl (by decide +kernel) hR
theorem md_Mo_target_0 : decode mb_Mo_target 0 = .ok (.iload_n 1, 1) := by decide +kernel
theorem md_Mo_target_1 : decode mb_Mo_target 1 = .ok (.iconst 0, 1) := by decide +kernel
theorem md_Mo_target_2 : decode mb_Mo_target 2 = .ok (.iconst 1, 1) := by decide +kernel
theorem md_Mo_target_3 : decode mb_Mo_target 3 = .ok (.invokestatic 155, 3) := by decide +kernel
theorem md_Mo_target_6 : decode mb_Mo_target 6 = .ok (.ifCond .eq 22, 3) := by decide +kernel
theorem md_Mo_target_9 : decode mb_Mo_target 9 = .ok (.iload_n 2, 1) := by decide +kernel
theorem md_Mo_target_10 : decode mb_Mo_target 10 = .ok (.iconst 1, 1) := by decide +kernel
theorem md_Mo_target_11 : decode mb_Mo_target 11 = .ok (.bipush 15, 2) := by decide +kernel
theorem md_Mo_target_13 : decode mb_Mo_target 13 = .ok (.invokestatic 155, 3) := by decide +kernel
theorem md_Mo_target_16 : decode mb_Mo_target 16 = .ok (.ifCond .eq 12, 3) := by decide +kernel
theorem md_Mo_target_19 : decode mb_Mo_target 19 = .ok (.aload_n 0, 1) := by decide +kernel
theorem md_Mo_target_20 : decode mb_Mo_target 20 = .ok (.getfield 41, 3) := by decide +kernel
theorem md_Mo_target_23 : decode mb_Mo_target 23 = .ok (.iload_n 1, 1) := by decide +kernel
theorem md_Mo_target_24 : decode mb_Mo_target 24 = .ok (.iaload, 1) := by decide +kernel
theorem md_Mo_target_25 : decode mb_Mo_target 25 = .ok (.ifCond .eq 5, 3) := by decide +kernel
theorem md_Mo_target_28 : decode mb_Mo_target 28 = .ok (.iconst 0, 1) := by decide +kernel
theorem md_Mo_target_29 : decode mb_Mo_target 29 = .ok (.ireturn, 1) := by decide +kernel
theorem md_Mo_target_30 : decode mb_Mo_target 30 = .ok (.aload_n 0, 1) := by decide +kernel
theorem md_Mo_target_31 : decode mb_Mo_target 31 = .ok (.getfield 47, 3) := by decide +kernel
theorem md_Mo_target_34 : decode mb_Mo_target 34 = .ok (.iload_n 1, 1) := by decide +kernel
theorem md_Mo_target_35 : decode mb_Mo_target 35 = .ok (.iload_n 2, 1) := by decide +kernel
theorem md_Mo_target_36 : decode mb_Mo_target 36 = .ok (.iastore, 1) := by decide +kernel
theorem md_Mo_target_37 : decode mb_Mo_target 37 = .ok (.iconst 1, 1) := by decide +kernel
theorem md_Mo_target_38 : decode mb_Mo_target 38 = .ok (.ireturn, 1) := by decide +kernel
abbrev mb_Mo_expect : ByteArray := prog_11_method_8_code
def my_Mo_expect : MethodName := ⟨R_Mo, "expect", "(IIII)Z"⟩
abbrev mrm_Mo_expect : Room := { frames := 1, cells := 0, slots := 0, locals := 22 }
theorem mK_Mo_expect : Cond.code my_Mo_expect mb_Mo_expect 5 (some .boolean) ∈ vTB := vTB_in 961 (by decide +kernel) rfl
theorem mI_Mo_expect : Cond.instanceMethod my_Mo_expect ∈ vTB := vTB_in 959 (by decide +kernel) rfl
theorem mS_Mo_expect : Cond.selects R_Mo my_Mo_expect my_Mo_expect ∈ vTB := vTB_in 960 (by decide +kernel) rfl
theorem mw_Mo_expect {R : Room} {s : State} {args : Array Value} {own : String} {index : Nat} (hts : ∀ w ∈ vTB, w.before args s = true) (hl : Cond.methodLink own index my_Mo_expect ∈ vTB) (hR : mrm_Mo_expect.frames + 1 ≤ R.frames ∧ 8 + (5 + 11) + mrm_Mo_expect.locals ≤ R.locals) : CallW R s args own R_Mo index my_Mo_expect mb_Mo_expect 5 (some .boolean) (Cond.code my_Mo_expect mb_Mo_expect 5 (some .boolean) :: vTB) mrm_Mo_expect 0 0 4 := cwV 4 hts (fw_gV vTB_good mK_Mo_expect hl mI_Mo_expect mS_Mo_expect N_Mo) rfl rfl rfl (by decide +kernel) hR
theorem md_Mo_expect_0 : decode mb_Mo_expect 0 = .ok (.iload_n 1, 1) := by decide +kernel
theorem md_Mo_expect_1 : decode mb_Mo_expect 1 = .ok (.iconst 0, 1) := by decide +kernel
theorem md_Mo_expect_2 : decode mb_Mo_expect 2 = .ok (.iconst 1, 1) := by decide +kernel
theorem md_Mo_expect_3 : decode mb_Mo_expect 3 = .ok (.invokestatic 155, 3) := by decide +kernel
theorem md_Mo_expect_6 : decode mb_Mo_expect 6 = .ok (.ifCond .eq 43, 3) := by decide +kernel
theorem md_Mo_expect_9 : decode mb_Mo_expect 9 = .ok (.iload_n 2, 1) := by decide +kernel
theorem md_Mo_expect_10 : decode mb_Mo_expect 10 = .ok (.iconst 0, 1) := by decide +kernel
theorem md_Mo_expect_11 : decode mb_Mo_expect 11 = .ok (.iconst 2, 1) := by decide +kernel
theorem md_Mo_expect_12 : decode mb_Mo_expect 12 = .ok (.invokestatic 155, 3) := by decide +kernel
theorem md_Mo_expect_15 : decode mb_Mo_expect 15 = .ok (.ifCond .eq 34, 3) := by decide +kernel
theorem md_Mo_expect_18 : decode mb_Mo_expect 18 = .ok (.iload_n 3, 1) := by decide +kernel
theorem md_Mo_expect_19 : decode mb_Mo_expect 19 = .ok (.iconst (-1), 1) := by decide +kernel
theorem md_Mo_expect_20 : decode mb_Mo_expect 20 = .ok (.bipush 7, 2) := by decide +kernel
theorem md_Mo_expect_22 : decode mb_Mo_expect 22 = .ok (.invokestatic 155, 3) := by decide +kernel
theorem md_Mo_expect_25 : decode mb_Mo_expect 25 = .ok (.ifCond .eq 24, 3) := by decide +kernel
theorem md_Mo_expect_28 : decode mb_Mo_expect 28 = .ok (.iload 4, 2) := by decide +kernel
theorem md_Mo_expect_30 : decode mb_Mo_expect 30 = .ok (.iconst 0, 1) := by decide +kernel
theorem md_Mo_expect_31 : decode mb_Mo_expect 31 = .ok (.sipush 255, 3) := by decide +kernel
theorem md_Mo_expect_34 : decode mb_Mo_expect 34 = .ok (.invokestatic 155, 3) := by decide +kernel
theorem md_Mo_expect_37 : decode mb_Mo_expect 37 = .ok (.ifCond .eq 12, 3) := by decide +kernel
theorem md_Mo_expect_40 : decode mb_Mo_expect 40 = .ok (.aload_n 0, 1) := by decide +kernel
theorem md_Mo_expect_41 : decode mb_Mo_expect 41 = .ok (.getfield 41, 3) := by decide +kernel
theorem md_Mo_expect_44 : decode mb_Mo_expect 44 = .ok (.iload_n 1, 1) := by decide +kernel
theorem md_Mo_expect_45 : decode mb_Mo_expect 45 = .ok (.iaload, 1) := by decide +kernel
theorem md_Mo_expect_46 : decode mb_Mo_expect 46 = .ok (.ifCond .eq 5, 3) := by decide +kernel
theorem md_Mo_expect_49 : decode mb_Mo_expect 49 = .ok (.iconst 0, 1) := by decide +kernel
theorem md_Mo_expect_50 : decode mb_Mo_expect 50 = .ok (.ireturn, 1) := by decide +kernel
theorem md_Mo_expect_51 : decode mb_Mo_expect 51 = .ok (.aload_n 0, 1) := by decide +kernel
theorem md_Mo_expect_52 : decode mb_Mo_expect 52 = .ok (.getfield 77, 3) := by decide +kernel
theorem md_Mo_expect_55 : decode mb_Mo_expect 55 = .ok (.iconst 3, 1) := by decide +kernel
theorem md_Mo_expect_56 : decode mb_Mo_expect 56 = .ok (.iload_n 1, 1) := by decide +kernel
theorem md_Mo_expect_57 : decode mb_Mo_expect 57 = .ok (.imul, 1) := by decide +kernel
theorem md_Mo_expect_58 : decode mb_Mo_expect 58 = .ok (.iload_n 2, 1) := by decide +kernel
theorem md_Mo_expect_59 : decode mb_Mo_expect 59 = .ok (.iadd, 1) := by decide +kernel
theorem md_Mo_expect_60 : decode mb_Mo_expect 60 = .ok (.iload_n 3, 1) := by decide +kernel
theorem md_Mo_expect_61 : decode mb_Mo_expect 61 = .ok (.iastore, 1) := by decide +kernel
theorem md_Mo_expect_62 : decode mb_Mo_expect 62 = .ok (.aload_n 0, 1) := by decide +kernel
theorem md_Mo_expect_63 : decode mb_Mo_expect 63 = .ok (.getfield 80, 3) := by decide +kernel
theorem md_Mo_expect_66 : decode mb_Mo_expect 66 = .ok (.iconst 3, 1) := by decide +kernel
theorem md_Mo_expect_67 : decode mb_Mo_expect 67 = .ok (.iload_n 1, 1) := by decide +kernel
theorem md_Mo_expect_68 : decode mb_Mo_expect 68 = .ok (.imul, 1) := by decide +kernel
theorem md_Mo_expect_69 : decode mb_Mo_expect 69 = .ok (.iload_n 2, 1) := by decide +kernel
theorem md_Mo_expect_70 : decode mb_Mo_expect 70 = .ok (.iadd, 1) := by decide +kernel
theorem md_Mo_expect_71 : decode mb_Mo_expect 71 = .ok (.iload 4, 2) := by decide +kernel
theorem md_Mo_expect_73 : decode mb_Mo_expect 73 = .ok (.iastore, 1) := by decide +kernel
theorem md_Mo_expect_74 : decode mb_Mo_expect 74 = .ok (.iconst 1, 1) := by decide +kernel
theorem md_Mo_expect_75 : decode mb_Mo_expect 75 = .ok (.ireturn, 1) := by decide +kernel
abbrev mb_Mo_give : ByteArray := prog_11_method_9_code
def my_Mo_give : MethodName := ⟨R_Mo, "give", "(IIII)Z"⟩
abbrev mrm_Mo_give : Room := { frames := 1, cells := 0, slots := 0, locals := 22 }
theorem mK_Mo_give : Cond.code my_Mo_give mb_Mo_give 5 (some .boolean) ∈ vTB := vTB_in 965 (by decide +kernel) rfl
theorem mI_Mo_give : Cond.instanceMethod my_Mo_give ∈ vTB := vTB_in 963 (by decide +kernel) rfl
theorem mS_Mo_give : Cond.selects R_Mo my_Mo_give my_Mo_give ∈ vTB := vTB_in 964 (by decide +kernel) rfl
theorem mw_Mo_give {R : Room} {s : State} {args : Array Value} {own : String} {index : Nat} (hts : ∀ w ∈ vTB, w.before args s = true) (hl : Cond.methodLink own index my_Mo_give ∈ vTB) (hR : mrm_Mo_give.frames + 1 ≤ R.frames ∧ 8 + (5 + 11) + mrm_Mo_give.locals ≤ R.locals) : CallW R s args own R_Mo index my_Mo_give mb_Mo_give 5 (some .boolean) (Cond.code my_Mo_give mb_Mo_give 5 (some .boolean) :: vTB) mrm_Mo_give 0 0 4 := cwV 4 hts (fw_gV vTB_good mK_Mo_give hl mI_Mo_give mS_Mo_give N_Mo) rfl rfl rfl (by decide +kernel) hR
theorem md_Mo_give_0 : decode mb_Mo_give 0 = .ok (.iload_n 1, 1) := by decide +kernel
theorem md_Mo_give_1 : decode mb_Mo_give 1 = .ok (.iconst 0, 1) := by decide +kernel
theorem md_Mo_give_2 : decode mb_Mo_give 2 = .ok (.iconst 1, 1) := by decide +kernel
theorem md_Mo_give_3 : decode mb_Mo_give 3 = .ok (.invokestatic 155, 3) := by decide +kernel
theorem md_Mo_give_6 : decode mb_Mo_give 6 = .ok (.ifCond .eq 33, 3) := by decide +kernel
theorem md_Mo_give_9 : decode mb_Mo_give 9 = .ok (.iload_n 2, 1) := by decide +kernel
theorem md_Mo_give_10 : decode mb_Mo_give 10 = .ok (.iconst 0, 1) := by decide +kernel
theorem md_Mo_give_11 : decode mb_Mo_give 11 = .ok (.iconst 2, 1) := by decide +kernel
theorem md_Mo_give_12 : decode mb_Mo_give 12 = .ok (.invokestatic 155, 3) := by decide +kernel
theorem md_Mo_give_15 : decode mb_Mo_give 15 = .ok (.ifCond .eq 24, 3) := by decide +kernel
theorem md_Mo_give_18 : decode mb_Mo_give 18 = .ok (.iload_n 3, 1) := by decide +kernel
theorem md_Mo_give_19 : decode mb_Mo_give 19 = .ok (.iconst 0, 1) := by decide +kernel
theorem md_Mo_give_20 : decode mb_Mo_give 20 = .ok (.iconst 1, 1) := by decide +kernel
theorem md_Mo_give_21 : decode mb_Mo_give 21 = .ok (.invokestatic 155, 3) := by decide +kernel
theorem md_Mo_give_24 : decode mb_Mo_give 24 = .ok (.ifCond .eq 15, 3) := by decide +kernel
theorem md_Mo_give_27 : decode mb_Mo_give 27 = .ok (.iload 4, 2) := by decide +kernel
theorem md_Mo_give_29 : decode mb_Mo_give 29 = .ok (.iconst 0, 1) := by decide +kernel
theorem md_Mo_give_30 : decode mb_Mo_give 30 = .ok (.sipush 255, 3) := by decide +kernel
theorem md_Mo_give_33 : decode mb_Mo_give 33 = .ok (.invokestatic 155, 3) := by decide +kernel
theorem md_Mo_give_36 : decode mb_Mo_give 36 = .ok (.ifCond .ne 5, 3) := by decide +kernel
theorem md_Mo_give_39 : decode mb_Mo_give 39 = .ok (.iconst 0, 1) := by decide +kernel
theorem md_Mo_give_40 : decode mb_Mo_give 40 = .ok (.ireturn, 1) := by decide +kernel
theorem md_Mo_give_41 : decode mb_Mo_give 41 = .ok (.aload_n 0, 1) := by decide +kernel
theorem md_Mo_give_42 : decode mb_Mo_give 42 = .ok (.getfield 83, 3) := by decide +kernel
theorem md_Mo_give_45 : decode mb_Mo_give 45 = .ok (.bipush 6, 2) := by decide +kernel
theorem md_Mo_give_47 : decode mb_Mo_give 47 = .ok (.iload_n 1, 1) := by decide +kernel
theorem md_Mo_give_48 : decode mb_Mo_give 48 = .ok (.imul, 1) := by decide +kernel
theorem md_Mo_give_49 : decode mb_Mo_give 49 = .ok (.iconst 2, 1) := by decide +kernel
theorem md_Mo_give_50 : decode mb_Mo_give 50 = .ok (.iload_n 2, 1) := by decide +kernel
theorem md_Mo_give_51 : decode mb_Mo_give 51 = .ok (.imul, 1) := by decide +kernel
theorem md_Mo_give_52 : decode mb_Mo_give 52 = .ok (.iadd, 1) := by decide +kernel
theorem md_Mo_give_53 : decode mb_Mo_give 53 = .ok (.iload_n 3, 1) := by decide +kernel
theorem md_Mo_give_54 : decode mb_Mo_give 54 = .ok (.iadd, 1) := by decide +kernel
theorem md_Mo_give_55 : decode mb_Mo_give 55 = .ok (.iload 4, 2) := by decide +kernel
theorem md_Mo_give_57 : decode mb_Mo_give 57 = .ok (.iastore, 1) := by decide +kernel
theorem md_Mo_give_58 : decode mb_Mo_give 58 = .ok (.iconst 1, 1) := by decide +kernel
theorem md_Mo_give_59 : decode mb_Mo_give 59 = .ok (.ireturn, 1) := by decide +kernel
abbrev mb_Mo_replace : ByteArray := prog_11_method_12_code
def my_Mo_replace : MethodName := ⟨R_Mo, "replace", "(II)V"⟩
abbrev mrm_Mo_replace : Room := { frames := 0, cells := 0, slots := 0, locals := 0 }
theorem mK_Mo_replace : Cond.code my_Mo_replace mb_Mo_replace 7 none ∈ vTB := vTB_in 973 (by decide +kernel) rfl
theorem mI_Mo_replace : Cond.instanceMethod my_Mo_replace ∈ vTB := vTB_in 972 (by decide +kernel) rfl
theorem mS_Mo_replace : Cond.selects R_Mo my_Mo_replace my_Mo_replace ∈ vTB := vTB_sel (q := (my_Mo_replace, 57)) 37 (by decide +kernel)
theorem mw_Mo_replace {R : Room} {s : State} {args : Array Value} {own : String} {index : Nat} (hts : ∀ w ∈ vTB, w.before args s = true) (hl : Cond.methodLink own index my_Mo_replace ∈ vTB) (hR : mrm_Mo_replace.frames + 1 ≤ R.frames ∧ 8 + (7 + 11) + mrm_Mo_replace.locals ≤ R.locals) : CallW R s args own R_Mo index my_Mo_replace mb_Mo_replace 7 none (Cond.code my_Mo_replace mb_Mo_replace 7 none :: vTB) mrm_Mo_replace 0 0 2 := cwV 2 hts (fw_gV vTB_good mK_Mo_replace hl mI_Mo_replace mS_Mo_replace N_Mo) rfl rfl rfl (by decide +kernel) hR
theorem md_Mo_replace_0 : decode mb_Mo_replace 0 = .ok (.aload_n 0, 1) := by decide +kernel
theorem md_Mo_replace_1 : decode mb_Mo_replace 1 = .ok (.getfield 131, 3) := by decide +kernel
theorem md_Mo_replace_4 : decode mb_Mo_replace 4 = .ok (.iconst 3, 1) := by decide +kernel
theorem md_Mo_replace_5 : decode mb_Mo_replace 5 = .ok (.iload_n 1, 1) := by decide +kernel
theorem md_Mo_replace_6 : decode mb_Mo_replace 6 = .ok (.imul, 1) := by decide +kernel
theorem md_Mo_replace_7 : decode mb_Mo_replace 7 = .ok (.iload_n 2, 1) := by decide +kernel
theorem md_Mo_replace_8 : decode mb_Mo_replace 8 = .ok (.iadd, 1) := by decide +kernel
theorem md_Mo_replace_9 : decode mb_Mo_replace 9 = .ok (.iaload, 1) := by decide +kernel
theorem md_Mo_replace_10 : decode mb_Mo_replace 10 = .ok (.istore_n 3, 1) := by decide +kernel
theorem md_Mo_replace_11 : decode mb_Mo_replace 11 = .ok (.iload_n 3, 1) := by decide +kernel
theorem md_Mo_replace_12 : decode mb_Mo_replace 12 = .ok (.ifCond .ge 7, 3) := by decide +kernel
theorem md_Mo_replace_15 : decode mb_Mo_replace 15 = .ok (.iconst 0, 1) := by decide +kernel
theorem md_Mo_replace_16 : decode mb_Mo_replace 16 = .ok (.goto 9, 3) := by decide +kernel
theorem md_Mo_replace_19 : decode mb_Mo_replace 19 = .ok (.aload_n 0, 1) := by decide +kernel
theorem md_Mo_replace_20 : decode mb_Mo_replace 20 = .ok (.getfield 13, 3) := by decide +kernel
theorem md_Mo_replace_23 : decode mb_Mo_replace 23 = .ok (.iload_n 3, 1) := by decide +kernel
theorem md_Mo_replace_24 : decode mb_Mo_replace 24 = .ok (.iaload, 1) := by decide +kernel
theorem md_Mo_replace_25 : decode mb_Mo_replace 25 = .ok (.istore 4, 2) := by decide +kernel
theorem md_Mo_replace_27 : decode mb_Mo_replace 27 = .ok (.iconst 0, 1) := by decide +kernel
theorem md_Mo_replace_28 : decode mb_Mo_replace 28 = .ok (.istore 5, 2) := by decide +kernel
theorem md_Mo_replace_30 : decode mb_Mo_replace 30 = .ok (.iload 5, 2) := by decide +kernel
theorem md_Mo_replace_32 : decode mb_Mo_replace 32 = .ok (.iconst 2, 1) := by decide +kernel
theorem md_Mo_replace_33 : decode mb_Mo_replace 33 = .ok (.if_icmp .ge 72, 3) := by decide +kernel
theorem md_Mo_replace_36 : decode mb_Mo_replace 36 = .ok (.bipush 6, 2) := by decide +kernel
theorem md_Mo_replace_38 : decode mb_Mo_replace 38 = .ok (.iload_n 1, 1) := by decide +kernel
theorem md_Mo_replace_39 : decode mb_Mo_replace 39 = .ok (.imul, 1) := by decide +kernel
theorem md_Mo_replace_40 : decode mb_Mo_replace 40 = .ok (.iconst 2, 1) := by decide +kernel
theorem md_Mo_replace_41 : decode mb_Mo_replace 41 = .ok (.iload_n 2, 1) := by decide +kernel
theorem md_Mo_replace_42 : decode mb_Mo_replace 42 = .ok (.imul, 1) := by decide +kernel
theorem md_Mo_replace_43 : decode mb_Mo_replace 43 = .ok (.iadd, 1) := by decide +kernel
theorem md_Mo_replace_44 : decode mb_Mo_replace 44 = .ok (.iload 5, 2) := by decide +kernel
theorem md_Mo_replace_46 : decode mb_Mo_replace 46 = .ok (.iadd, 1) := by decide +kernel
theorem md_Mo_replace_47 : decode mb_Mo_replace 47 = .ok (.istore 6, 2) := by decide +kernel
theorem md_Mo_replace_49 : decode mb_Mo_replace 49 = .ok (.iload 5, 2) := by decide +kernel
theorem md_Mo_replace_51 : decode mb_Mo_replace 51 = .ok (.iload 4, 2) := by decide +kernel
theorem md_Mo_replace_53 : decode mb_Mo_replace 53 = .ok (.if_icmp .ge 12, 3) := by decide +kernel
theorem md_Mo_replace_56 : decode mb_Mo_replace 56 = .ok (.aload_n 0, 1) := by decide +kernel
theorem md_Mo_replace_57 : decode mb_Mo_replace 57 = .ok (.getfield 125, 3) := by decide +kernel
theorem md_Mo_replace_60 : decode mb_Mo_replace 60 = .ok (.iload_n 1, 1) := by decide +kernel
theorem md_Mo_replace_61 : decode mb_Mo_replace 61 = .ok (.iaload, 1) := by decide +kernel
theorem md_Mo_replace_62 : decode mb_Mo_replace 62 = .ok (.ifCond .ne 14, 3) := by decide +kernel
theorem md_Mo_replace_65 : decode mb_Mo_replace 65 = .ok (.aload_n 0, 1) := by decide +kernel
theorem md_Mo_replace_66 : decode mb_Mo_replace 66 = .ok (.getfield 143, 3) := by decide +kernel
theorem md_Mo_replace_69 : decode mb_Mo_replace 69 = .ok (.iload 6, 2) := by decide +kernel
theorem md_Mo_replace_71 : decode mb_Mo_replace 71 = .ok (.iconst 0, 1) := by decide +kernel
theorem md_Mo_replace_72 : decode mb_Mo_replace 72 = .ok (.iastore, 1) := by decide +kernel
theorem md_Mo_replace_73 : decode mb_Mo_replace 73 = .ok (.goto 26, 3) := by decide +kernel
theorem md_Mo_replace_76 : decode mb_Mo_replace 76 = .ok (.aload_n 0, 1) := by decide +kernel
theorem md_Mo_replace_77 : decode mb_Mo_replace 77 = .ok (.getfield 125, 3) := by decide +kernel
theorem md_Mo_replace_80 : decode mb_Mo_replace 80 = .ok (.iload_n 1, 1) := by decide +kernel
theorem md_Mo_replace_81 : decode mb_Mo_replace 81 = .ok (.iaload, 1) := by decide +kernel
theorem md_Mo_replace_82 : decode mb_Mo_replace 82 = .ok (.iconst 2, 1) := by decide +kernel
theorem md_Mo_replace_83 : decode mb_Mo_replace 83 = .ok (.if_icmp .ne 16, 3) := by decide +kernel
theorem md_Mo_replace_86 : decode mb_Mo_replace 86 = .ok (.aload_n 0, 1) := by decide +kernel
theorem md_Mo_replace_87 : decode mb_Mo_replace 87 = .ok (.getfield 143, 3) := by decide +kernel
theorem md_Mo_replace_90 : decode mb_Mo_replace 90 = .ok (.iload 6, 2) := by decide +kernel
theorem md_Mo_replace_92 : decode mb_Mo_replace 92 = .ok (.aload_n 0, 1) := by decide +kernel
theorem md_Mo_replace_93 : decode mb_Mo_replace 93 = .ok (.getfield 128, 3) := by decide +kernel
theorem md_Mo_replace_96 : decode mb_Mo_replace 96 = .ok (.iload_n 1, 1) := by decide +kernel
theorem md_Mo_replace_97 : decode mb_Mo_replace 97 = .ok (.iaload, 1) := by decide +kernel
theorem md_Mo_replace_98 : decode mb_Mo_replace 98 = .ok (.iastore, 1) := by decide +kernel
theorem md_Mo_replace_99 : decode mb_Mo_replace 99 = .ok (.iinc 5 1, 3) := by decide +kernel
theorem md_Mo_replace_102 : decode mb_Mo_replace 102 = .ok (.goto (-72), 3) := by decide +kernel
theorem md_Mo_replace_105 : decode mb_Mo_replace 105 = .ok (.return_, 1) := by decide +kernel
abbrev mb_Mo_mark : ByteArray := prog_11_method_11_code
def my_Mo_mark : MethodName := ⟨R_Mo, "mark", "(II)V"⟩
abbrev mrm_Mo_mark : Room := { frames := 0, cells := 0, slots := 0, locals := 0 }
theorem mK_Mo_mark : Cond.code my_Mo_mark mb_Mo_mark 5 none ∈ vTB := vTB_in 977 (by decide +kernel) rfl
theorem mI_Mo_mark : Cond.instanceMethod my_Mo_mark ∈ vTB := vTB_in 976 (by decide +kernel) rfl
theorem mS_Mo_mark : Cond.selects R_Mo my_Mo_mark my_Mo_mark ∈ vTB := vTB_sel (q := (my_Mo_mark, 57)) 38 (by decide +kernel)
theorem mw_Mo_mark {R : Room} {s : State} {args : Array Value} {own : String} {index : Nat} (hts : ∀ w ∈ vTB, w.before args s = true) (hl : Cond.methodLink own index my_Mo_mark ∈ vTB) (hR : mrm_Mo_mark.frames + 1 ≤ R.frames ∧ 8 + (5 + 11) + mrm_Mo_mark.locals ≤ R.locals) : CallW R s args own R_Mo index my_Mo_mark mb_Mo_mark 5 none (Cond.code my_Mo_mark mb_Mo_mark 5 none :: vTB) mrm_Mo_mark 0 0 2 := cwV 2 hts (fw_gV vTB_good mK_Mo_mark hl mI_Mo_mark mS_Mo_mark N_Mo) rfl rfl rfl (by decide +kernel) hR
theorem md_Mo_mark_0 : decode mb_Mo_mark 0 = .ok (.iconst 3, 1) := by decide +kernel
theorem md_Mo_mark_1 : decode mb_Mo_mark 1 = .ok (.iload_n 1, 1) := by decide +kernel
theorem md_Mo_mark_2 : decode mb_Mo_mark 2 = .ok (.imul, 1) := by decide +kernel
theorem md_Mo_mark_3 : decode mb_Mo_mark 3 = .ok (.iload_n 2, 1) := by decide +kernel
theorem md_Mo_mark_4 : decode mb_Mo_mark 4 = .ok (.iadd, 1) := by decide +kernel
theorem md_Mo_mark_5 : decode mb_Mo_mark 5 = .ok (.istore_n 3, 1) := by decide +kernel
theorem md_Mo_mark_6 : decode mb_Mo_mark 6 = .ok (.aload_n 0, 1) := by decide +kernel
theorem md_Mo_mark_7 : decode mb_Mo_mark 7 = .ok (.getfield 134, 3) := by decide +kernel
theorem md_Mo_mark_10 : decode mb_Mo_mark 10 = .ok (.iload_n 3, 1) := by decide +kernel
theorem md_Mo_mark_11 : decode mb_Mo_mark 11 = .ok (.iaload, 1) := by decide +kernel
theorem md_Mo_mark_12 : decode mb_Mo_mark 12 = .ok (.ifCond .lt 22, 3) := by decide +kernel
theorem md_Mo_mark_15 : decode mb_Mo_mark 15 = .ok (.aload_n 0, 1) := by decide +kernel
theorem md_Mo_mark_16 : decode mb_Mo_mark 16 = .ok (.getfield 131, 3) := by decide +kernel
theorem md_Mo_mark_19 : decode mb_Mo_mark 19 = .ok (.iload_n 3, 1) := by decide +kernel
theorem md_Mo_mark_20 : decode mb_Mo_mark 20 = .ok (.iaload, 1) := by decide +kernel
theorem md_Mo_mark_21 : decode mb_Mo_mark 21 = .ok (.aload_n 0, 1) := by decide +kernel
theorem md_Mo_mark_22 : decode mb_Mo_mark 22 = .ok (.getfield 134, 3) := by decide +kernel
theorem md_Mo_mark_25 : decode mb_Mo_mark 25 = .ok (.iload_n 3, 1) := by decide +kernel
theorem md_Mo_mark_26 : decode mb_Mo_mark 26 = .ok (.iaload, 1) := by decide +kernel
theorem md_Mo_mark_27 : decode mb_Mo_mark 27 = .ok (.if_icmp .eq 7, 3) := by decide +kernel
theorem md_Mo_mark_30 : decode mb_Mo_mark 30 = .ok (.iconst 1, 1) := by decide +kernel
theorem md_Mo_mark_31 : decode mb_Mo_mark 31 = .ok (.goto 4, 3) := by decide +kernel
theorem md_Mo_mark_34 : decode mb_Mo_mark 34 = .ok (.iconst 0, 1) := by decide +kernel
theorem md_Mo_mark_35 : decode mb_Mo_mark 35 = .ok (.istore 4, 2) := by decide +kernel
theorem md_Mo_mark_37 : decode mb_Mo_mark 37 = .ok (.aload_n 0, 1) := by decide +kernel
theorem md_Mo_mark_38 : decode mb_Mo_mark 38 = .ok (.getfield 98, 3) := by decide +kernel
theorem md_Mo_mark_41 : decode mb_Mo_mark 41 = .ok (.iload_n 1, 1) := by decide +kernel
theorem md_Mo_mark_42 : decode mb_Mo_mark 42 = .ok (.iload 4, 2) := by decide +kernel
theorem md_Mo_mark_44 : decode mb_Mo_mark 44 = .ok (.ifCond .eq 16, 3) := by decide +kernel
theorem md_Mo_mark_47 : decode mb_Mo_mark 47 = .ok (.aload_n 0, 1) := by decide +kernel
theorem md_Mo_mark_48 : decode mb_Mo_mark 48 = .ok (.getfield 98, 3) := by decide +kernel
theorem md_Mo_mark_51 : decode mb_Mo_mark 51 = .ok (.iload_n 1, 1) := by decide +kernel
theorem md_Mo_mark_52 : decode mb_Mo_mark 52 = .ok (.iaload, 1) := by decide +kernel
theorem md_Mo_mark_53 : decode mb_Mo_mark 53 = .ok (.iconst 1, 1) := by decide +kernel
theorem md_Mo_mark_54 : decode mb_Mo_mark 54 = .ok (.iload_n 2, 1) := by decide +kernel
theorem md_Mo_mark_55 : decode mb_Mo_mark 55 = .ok (.ishl, 1) := by decide +kernel
theorem md_Mo_mark_56 : decode mb_Mo_mark 56 = .ok (.ior, 1) := by decide +kernel
theorem md_Mo_mark_57 : decode mb_Mo_mark 57 = .ok (.goto 15, 3) := by decide +kernel
theorem md_Mo_mark_60 : decode mb_Mo_mark 60 = .ok (.aload_n 0, 1) := by decide +kernel
theorem md_Mo_mark_61 : decode mb_Mo_mark 61 = .ok (.getfield 98, 3) := by decide +kernel
theorem md_Mo_mark_64 : decode mb_Mo_mark 64 = .ok (.iload_n 1, 1) := by decide +kernel
theorem md_Mo_mark_65 : decode mb_Mo_mark 65 = .ok (.iaload, 1) := by decide +kernel
theorem md_Mo_mark_66 : decode mb_Mo_mark 66 = .ok (.iconst 1, 1) := by decide +kernel
theorem md_Mo_mark_67 : decode mb_Mo_mark 67 = .ok (.iload_n 2, 1) := by decide +kernel
theorem md_Mo_mark_68 : decode mb_Mo_mark 68 = .ok (.ishl, 1) := by decide +kernel
theorem md_Mo_mark_69 : decode mb_Mo_mark 69 = .ok (.iconst (-1), 1) := by decide +kernel
theorem md_Mo_mark_70 : decode mb_Mo_mark 70 = .ok (.ixor, 1) := by decide +kernel
theorem md_Mo_mark_71 : decode mb_Mo_mark 71 = .ok (.iand, 1) := by decide +kernel
theorem md_Mo_mark_72 : decode mb_Mo_mark 72 = .ok (.iastore, 1) := by decide +kernel
theorem md_Mo_mark_73 : decode mb_Mo_mark 73 = .ok (.return_, 1) := by decide +kernel
abbrev mb_Mo_plug : ByteArray := prog_11_method_10_code
def my_Mo_plug : MethodName := ⟨R_Mo, "plug", "(III)Z"⟩
abbrev mrm_Mo_plug : Room := { frames := 1, cells := 0, slots := 0, locals := 26 }
theorem mK_Mo_plug : Cond.code my_Mo_plug mb_Mo_plug 5 (some .boolean) ∈ vTB := vTB_in 969 (by decide +kernel) rfl
theorem mI_Mo_plug : Cond.instanceMethod my_Mo_plug ∈ vTB := vTB_in 967 (by decide +kernel) rfl
theorem mS_Mo_plug : Cond.selects R_Mo my_Mo_plug my_Mo_plug ∈ vTB := vTB_in 968 (by decide +kernel) rfl
theorem mw_Mo_plug {R : Room} {s : State} {args : Array Value} {own : String} {index : Nat} (hts : ∀ w ∈ vTB, w.before args s = true) (hl : Cond.methodLink own index my_Mo_plug ∈ vTB) (hR : mrm_Mo_plug.frames + 1 ≤ R.frames ∧ 8 + (5 + 11) + mrm_Mo_plug.locals ≤ R.locals) : CallW R s args own R_Mo index my_Mo_plug mb_Mo_plug 5 (some .boolean) (Cond.code my_Mo_plug mb_Mo_plug 5 (some .boolean) :: vTB) mrm_Mo_plug 0 0 3 := cwV 3 hts (fw_gV vTB_good mK_Mo_plug hl mI_Mo_plug mS_Mo_plug N_Mo) rfl rfl rfl (by decide +kernel) hR
theorem md_Mo_plug_0 : decode mb_Mo_plug 0 = .ok (.iload_n 1, 1) := by decide +kernel
theorem md_Mo_plug_1 : decode mb_Mo_plug 1 = .ok (.iconst 0, 1) := by decide +kernel
theorem md_Mo_plug_2 : decode mb_Mo_plug 2 = .ok (.iconst 1, 1) := by decide +kernel
theorem md_Mo_plug_3 : decode mb_Mo_plug 3 = .ok (.invokestatic 155, 3) := by decide +kernel
theorem md_Mo_plug_6 : decode mb_Mo_plug 6 = .ok (.ifCond .eq 22, 3) := by decide +kernel
theorem md_Mo_plug_9 : decode mb_Mo_plug 9 = .ok (.iload_n 2, 1) := by decide +kernel
theorem md_Mo_plug_10 : decode mb_Mo_plug 10 = .ok (.iconst 0, 1) := by decide +kernel
theorem md_Mo_plug_11 : decode mb_Mo_plug 11 = .ok (.iconst 2, 1) := by decide +kernel
theorem md_Mo_plug_12 : decode mb_Mo_plug 12 = .ok (.invokestatic 155, 3) := by decide +kernel
theorem md_Mo_plug_15 : decode mb_Mo_plug 15 = .ok (.ifCond .eq 13, 3) := by decide +kernel
theorem md_Mo_plug_18 : decode mb_Mo_plug 18 = .ok (.iload_n 3, 1) := by decide +kernel
theorem md_Mo_plug_19 : decode mb_Mo_plug 19 = .ok (.iconst (-1), 1) := by decide +kernel
theorem md_Mo_plug_20 : decode mb_Mo_plug 20 = .ok (.bipush 7, 2) := by decide +kernel
theorem md_Mo_plug_22 : decode mb_Mo_plug 22 = .ok (.invokestatic 155, 3) := by decide +kernel
theorem md_Mo_plug_25 : decode mb_Mo_plug 25 = .ok (.ifCond .ne 5, 3) := by decide +kernel
theorem md_Mo_plug_28 : decode mb_Mo_plug 28 = .ok (.iconst 0, 1) := by decide +kernel
theorem md_Mo_plug_29 : decode mb_Mo_plug 29 = .ok (.ireturn, 1) := by decide +kernel
theorem md_Mo_plug_30 : decode mb_Mo_plug 30 = .ok (.iconst 3, 1) := by decide +kernel
theorem md_Mo_plug_31 : decode mb_Mo_plug 31 = .ok (.iload_n 1, 1) := by decide +kernel
theorem md_Mo_plug_32 : decode mb_Mo_plug 32 = .ok (.imul, 1) := by decide +kernel
theorem md_Mo_plug_33 : decode mb_Mo_plug 33 = .ok (.iload_n 2, 1) := by decide +kernel
theorem md_Mo_plug_34 : decode mb_Mo_plug 34 = .ok (.iadd, 1) := by decide +kernel
theorem md_Mo_plug_35 : decode mb_Mo_plug 35 = .ok (.istore 4, 2) := by decide +kernel
theorem md_Mo_plug_37 : decode mb_Mo_plug 37 = .ok (.aload_n 0, 1) := by decide +kernel
theorem md_Mo_plug_38 : decode mb_Mo_plug 38 = .ok (.getfield 131, 3) := by decide +kernel
theorem md_Mo_plug_41 : decode mb_Mo_plug 41 = .ok (.iload 4, 2) := by decide +kernel
theorem md_Mo_plug_43 : decode mb_Mo_plug 43 = .ok (.iaload, 1) := by decide +kernel
theorem md_Mo_plug_44 : decode mb_Mo_plug 44 = .ok (.iload_n 3, 1) := by decide +kernel
theorem md_Mo_plug_45 : decode mb_Mo_plug 45 = .ok (.if_icmp .ne 5, 3) := by decide +kernel
theorem md_Mo_plug_48 : decode mb_Mo_plug 48 = .ok (.iconst 1, 1) := by decide +kernel
theorem md_Mo_plug_49 : decode mb_Mo_plug 49 = .ok (.ireturn, 1) := by decide +kernel
theorem md_Mo_plug_50 : decode mb_Mo_plug 50 = .ok (.aload_n 0, 1) := by decide +kernel
theorem md_Mo_plug_51 : decode mb_Mo_plug 51 = .ok (.getfield 131, 3) := by decide +kernel
theorem md_Mo_plug_54 : decode mb_Mo_plug 54 = .ok (.iload 4, 2) := by decide +kernel
theorem md_Mo_plug_56 : decode mb_Mo_plug 56 = .ok (.iload_n 3, 1) := by decide +kernel
theorem md_Mo_plug_57 : decode mb_Mo_plug 57 = .ok (.iastore, 1) := by decide +kernel
theorem md_Mo_plug_58 : decode mb_Mo_plug 58 = .ok (.aload_n 0, 1) := by decide +kernel
theorem md_Mo_plug_59 : decode mb_Mo_plug 59 = .ok (.iload_n 1, 1) := by decide +kernel
theorem md_Mo_plug_60 : decode mb_Mo_plug 60 = .ok (.iload_n 2, 1) := by decide +kernel
theorem md_Mo_plug_61 : decode mb_Mo_plug 61 = .ok (.invokevirtual 159, 3) := by decide +kernel
theorem md_Mo_plug_64 : decode mb_Mo_plug 64 = .ok (.aload_n 0, 1) := by decide +kernel
theorem md_Mo_plug_65 : decode mb_Mo_plug 65 = .ok (.getfield 89, 3) := by decide +kernel
theorem md_Mo_plug_68 : decode mb_Mo_plug 68 = .ok (.iload_n 1, 1) := by decide +kernel
theorem md_Mo_plug_69 : decode mb_Mo_plug 69 = .ok (.iaload, 1) := by decide +kernel
theorem md_Mo_plug_70 : decode mb_Mo_plug 70 = .ok (.iconst 3, 1) := by decide +kernel
theorem md_Mo_plug_71 : decode mb_Mo_plug 71 = .ok (.if_icmp .ne 13, 3) := by decide +kernel
theorem md_Mo_plug_74 : decode mb_Mo_plug 74 = .ok (.aload_n 0, 1) := by decide +kernel
theorem md_Mo_plug_75 : decode mb_Mo_plug 75 = .ok (.getfield 134, 3) := by decide +kernel
theorem md_Mo_plug_78 : decode mb_Mo_plug 78 = .ok (.iload 4, 2) := by decide +kernel
theorem md_Mo_plug_80 : decode mb_Mo_plug 80 = .ok (.iaload, 1) := by decide +kernel
theorem md_Mo_plug_81 : decode mb_Mo_plug 81 = .ok (.ifCond .ge 5, 3) := by decide +kernel
theorem md_Mo_plug_84 : decode mb_Mo_plug 84 = .ok (.iconst 1, 1) := by decide +kernel
theorem md_Mo_plug_85 : decode mb_Mo_plug 85 = .ok (.ireturn, 1) := by decide +kernel
theorem md_Mo_plug_86 : decode mb_Mo_plug 86 = .ok (.aload_n 0, 1) := by decide +kernel
theorem md_Mo_plug_87 : decode mb_Mo_plug 87 = .ok (.iload_n 1, 1) := by decide +kernel
theorem md_Mo_plug_88 : decode mb_Mo_plug 88 = .ok (.iload_n 2, 1) := by decide +kernel
theorem md_Mo_plug_89 : decode mb_Mo_plug 89 = .ok (.invokevirtual 163, 3) := by decide +kernel
theorem md_Mo_plug_92 : decode mb_Mo_plug 92 = .ok (.aload_n 0, 1) := by decide +kernel
theorem md_Mo_plug_93 : decode mb_Mo_plug 93 = .ok (.getfield 116, 3) := by decide +kernel
theorem md_Mo_plug_96 : decode mb_Mo_plug 96 = .ok (.iload_n 1, 1) := by decide +kernel
theorem md_Mo_plug_97 : decode mb_Mo_plug 97 = .ok (.iaload, 1) := by decide +kernel
theorem md_Mo_plug_98 : decode mb_Mo_plug 98 = .ok (.iconst 4, 1) := by decide +kernel
theorem md_Mo_plug_99 : decode mb_Mo_plug 99 = .ok (.if_icmp .ge 42, 3) := by decide +kernel
theorem md_Mo_plug_102 : decode mb_Mo_plug 102 = .ok (.aload_n 0, 1) := by decide +kernel
theorem md_Mo_plug_103 : decode mb_Mo_plug 103 = .ok (.getfield 146, 3) := by decide +kernel
theorem md_Mo_plug_106 : decode mb_Mo_plug 106 = .ok (.iconst 4, 1) := by decide +kernel
theorem md_Mo_plug_107 : decode mb_Mo_plug 107 = .ok (.iload_n 1, 1) := by decide +kernel
theorem md_Mo_plug_108 : decode mb_Mo_plug 108 = .ok (.imul, 1) := by decide +kernel
theorem md_Mo_plug_109 : decode mb_Mo_plug 109 = .ok (.aload_n 0, 1) := by decide +kernel
theorem md_Mo_plug_110 : decode mb_Mo_plug 110 = .ok (.getfield 116, 3) := by decide +kernel
theorem md_Mo_plug_113 : decode mb_Mo_plug 113 = .ok (.iload_n 1, 1) := by decide +kernel
theorem md_Mo_plug_114 : decode mb_Mo_plug 114 = .ok (.iaload, 1) := by decide +kernel
theorem md_Mo_plug_115 : decode mb_Mo_plug 115 = .ok (.iadd, 1) := by decide +kernel
theorem md_Mo_plug_116 : decode mb_Mo_plug 116 = .ok (.iload_n 2, 1) := by decide +kernel
theorem md_Mo_plug_117 : decode mb_Mo_plug 117 = .ok (.iastore, 1) := by decide +kernel
theorem md_Mo_plug_118 : decode mb_Mo_plug 118 = .ok (.aload_n 0, 1) := by decide +kernel
theorem md_Mo_plug_119 : decode mb_Mo_plug 119 = .ok (.getfield 149, 3) := by decide +kernel
theorem md_Mo_plug_122 : decode mb_Mo_plug 122 = .ok (.iconst 4, 1) := by decide +kernel
theorem md_Mo_plug_123 : decode mb_Mo_plug 123 = .ok (.iload_n 1, 1) := by decide +kernel
theorem md_Mo_plug_124 : decode mb_Mo_plug 124 = .ok (.imul, 1) := by decide +kernel
theorem md_Mo_plug_125 : decode mb_Mo_plug 125 = .ok (.aload_n 0, 1) := by decide +kernel
theorem md_Mo_plug_126 : decode mb_Mo_plug 126 = .ok (.getfield 116, 3) := by decide +kernel
theorem md_Mo_plug_129 : decode mb_Mo_plug 129 = .ok (.iload_n 1, 1) := by decide +kernel
theorem md_Mo_plug_130 : decode mb_Mo_plug 130 = .ok (.dup2, 1) := by decide +kernel
theorem md_Mo_plug_131 : decode mb_Mo_plug 131 = .ok (.iaload, 1) := by decide +kernel
theorem md_Mo_plug_132 : decode mb_Mo_plug 132 = .ok (.dup_x2, 1) := by decide +kernel
theorem md_Mo_plug_133 : decode mb_Mo_plug 133 = .ok (.iconst 1, 1) := by decide +kernel
theorem md_Mo_plug_134 : decode mb_Mo_plug 134 = .ok (.iadd, 1) := by decide +kernel
theorem md_Mo_plug_135 : decode mb_Mo_plug 135 = .ok (.iastore, 1) := by decide +kernel
theorem md_Mo_plug_136 : decode mb_Mo_plug 136 = .ok (.iadd, 1) := by decide +kernel
theorem md_Mo_plug_137 : decode mb_Mo_plug 137 = .ok (.iload_n 3, 1) := by decide +kernel
theorem md_Mo_plug_138 : decode mb_Mo_plug 138 = .ok (.iconst 1, 1) := by decide +kernel
theorem md_Mo_plug_139 : decode mb_Mo_plug 139 = .ok (.iadd, 1) := by decide +kernel
theorem md_Mo_plug_140 : decode mb_Mo_plug 140 = .ok (.iastore, 1) := by decide +kernel
theorem md_Mo_plug_141 : decode mb_Mo_plug 141 = .ok (.iconst 1, 1) := by decide +kernel
theorem md_Mo_plug_142 : decode mb_Mo_plug 142 = .ok (.ireturn, 1) := by decide +kernel
abbrev mb_Mo_clear : ByteArray := prog_11_method_13_code
def my_Mo_clear : MethodName := ⟨R_Mo, "clear", "()V"⟩
abbrev mrm_Mo_clear : Room := { frames := 0, cells := 0, slots := 0, locals := 0 }
theorem mK_Mo_clear : Cond.code my_Mo_clear mb_Mo_clear 2 none ∈ vTB := vTB_in 1017 (by decide +kernel) rfl
theorem mI_Mo_clear : Cond.instanceMethod my_Mo_clear ∈ vTB := vTB_in 1016 (by decide +kernel) rfl
theorem mS_Mo_clear : Cond.selects R_Mo my_Mo_clear my_Mo_clear ∈ vTB := vTB_sel (q := (my_Mo_clear, 57)) 45 (by decide +kernel)
theorem mw_Mo_clear {R : Room} {s : State} {args : Array Value} {own : String} {index : Nat} (hts : ∀ w ∈ vTB, w.before args s = true) (hl : Cond.methodLink own index my_Mo_clear ∈ vTB) (hR : mrm_Mo_clear.frames + 1 ≤ R.frames ∧ 8 + (2 + 11) + mrm_Mo_clear.locals ≤ R.locals) : CallW R s args own R_Mo index my_Mo_clear mb_Mo_clear 2 none (Cond.code my_Mo_clear mb_Mo_clear 2 none :: vTB) mrm_Mo_clear 0 0 0 := cwV 0 hts (fw_gV vTB_good mK_Mo_clear hl mI_Mo_clear mS_Mo_clear N_Mo) rfl rfl rfl (by decide +kernel) hR
theorem md_Mo_clear_0 : decode mb_Mo_clear 0 = .ok (.iconst 0, 1) := by decide +kernel
theorem md_Mo_clear_1 : decode mb_Mo_clear 1 = .ok (.istore_n 1, 1) := by decide +kernel
theorem md_Mo_clear_2 : decode mb_Mo_clear 2 = .ok (.iload_n 1, 1) := by decide +kernel
theorem md_Mo_clear_3 : decode mb_Mo_clear 3 = .ok (.bipush 7, 2) := by decide +kernel
theorem md_Mo_clear_5 : decode mb_Mo_clear 5 = .ok (.if_icmp .ge 16, 3) := by decide +kernel
theorem md_Mo_clear_8 : decode mb_Mo_clear 8 = .ok (.aload_n 0, 1) := by decide +kernel
theorem md_Mo_clear_9 : decode mb_Mo_clear 9 = .ok (.getfield 35, 3) := by decide +kernel
theorem md_Mo_clear_12 : decode mb_Mo_clear 12 = .ok (.iload_n 1, 1) := by decide +kernel
theorem md_Mo_clear_13 : decode mb_Mo_clear 13 = .ok (.iconst 0, 1) := by decide +kernel
theorem md_Mo_clear_14 : decode mb_Mo_clear 14 = .ok (.iastore, 1) := by decide +kernel
theorem md_Mo_clear_15 : decode mb_Mo_clear 15 = .ok (.iinc 1 1, 3) := by decide +kernel
theorem md_Mo_clear_18 : decode mb_Mo_clear 18 = .ok (.goto (-16), 3) := by decide +kernel
theorem md_Mo_clear_21 : decode mb_Mo_clear 21 = .ok (.return_, 1) := by decide +kernel
abbrev mb_Mo_send : ByteArray := prog_11_method_14_code
def my_Mo_send : MethodName := ⟨R_Mo, "send", "(IIII)V"⟩
abbrev mrm_Mo_send : Room := { frames := 1, cells := 0, slots := 0, locals := 21 }
theorem mK_Mo_send : Cond.code my_Mo_send mb_Mo_send 6 none ∈ vTB := vTB_in 1013 (by decide +kernel) rfl
theorem mI_Mo_send : Cond.instanceMethod my_Mo_send ∈ vTB := vTB_in 1012 (by decide +kernel) rfl
theorem mS_Mo_send : Cond.selects R_Mo my_Mo_send my_Mo_send ∈ vTB := vTB_sel (q := (my_Mo_send, 57)) 44 (by decide +kernel)
theorem mw_Mo_send {R : Room} {s : State} {args : Array Value} {own : String} {index : Nat} (hts : ∀ w ∈ vTB, w.before args s = true) (hl : Cond.methodLink own index my_Mo_send ∈ vTB) (hR : mrm_Mo_send.frames + 1 ≤ R.frames ∧ 8 + (6 + 11) + mrm_Mo_send.locals ≤ R.locals) : CallW R s args own R_Mo index my_Mo_send mb_Mo_send 6 none (Cond.code my_Mo_send mb_Mo_send 6 none :: vTB) mrm_Mo_send 0 0 4 := cwV 4 hts (fw_gV vTB_good mK_Mo_send hl mI_Mo_send mS_Mo_send N_Mo) rfl rfl rfl (by decide +kernel) hR
theorem md_Mo_send_0 : decode mb_Mo_send 0 = .ok (.aload_n 0, 1) := by decide +kernel
theorem md_Mo_send_1 : decode mb_Mo_send 1 = .ok (.dup, 1) := by decide +kernel
theorem md_Mo_send_2 : decode mb_Mo_send 2 = .ok (.getfield 166, 3) := by decide +kernel
theorem md_Mo_send_5 : decode mb_Mo_send 5 = .ok (.iconst 1, 1) := by decide +kernel
theorem md_Mo_send_6 : decode mb_Mo_send 6 = .ok (.iadd, 1) := by decide +kernel
theorem md_Mo_send_7 : decode mb_Mo_send 7 = .ok (.putfield 166, 3) := by decide +kernel
theorem md_Mo_send_10 : decode mb_Mo_send 10 = .ok (.aload_n 0, 1) := by decide +kernel
theorem md_Mo_send_11 : decode mb_Mo_send 11 = .ok (.getfield 170, 3) := by decide +kernel
theorem md_Mo_send_14 : decode mb_Mo_send 14 = .ok (.bipush 16, 2) := by decide +kernel
theorem md_Mo_send_16 : decode mb_Mo_send 16 = .ok (.if_icmp .ne 16, 3) := by decide +kernel
theorem md_Mo_send_19 : decode mb_Mo_send 19 = .ok (.aload_n 0, 1) := by decide +kernel
theorem md_Mo_send_20 : decode mb_Mo_send 20 = .ok (.dup, 1) := by decide +kernel
theorem md_Mo_send_21 : decode mb_Mo_send 21 = .ok (.getfield 173, 3) := by decide +kernel
theorem md_Mo_send_24 : decode mb_Mo_send 24 = .ok (.iconst 1, 1) := by decide +kernel
theorem md_Mo_send_25 : decode mb_Mo_send 25 = .ok (.iadd, 1) := by decide +kernel
theorem md_Mo_send_26 : decode mb_Mo_send 26 = .ok (.putfield 173, 3) := by decide +kernel
theorem md_Mo_send_29 : decode mb_Mo_send 29 = .ok (.goto 92, 3) := by decide +kernel
theorem md_Mo_send_32 : decode mb_Mo_send 32 = .ok (.aload_n 0, 1) := by decide +kernel
theorem md_Mo_send_33 : decode mb_Mo_send 33 = .ok (.getfield 20, 3) := by decide +kernel
theorem md_Mo_send_36 : decode mb_Mo_send 36 = .ok (.aload_n 0, 1) := by decide +kernel
theorem md_Mo_send_37 : decode mb_Mo_send 37 = .ok (.getfield 170, 3) := by decide +kernel
theorem md_Mo_send_40 : decode mb_Mo_send 40 = .ok (.iload_n 1, 1) := by decide +kernel
theorem md_Mo_send_41 : decode mb_Mo_send 41 = .ok (.iastore, 1) := by decide +kernel
theorem md_Mo_send_42 : decode mb_Mo_send 42 = .ok (.aload_n 0, 1) := by decide +kernel
theorem md_Mo_send_43 : decode mb_Mo_send 43 = .ok (.getfield 23, 3) := by decide +kernel
theorem md_Mo_send_46 : decode mb_Mo_send 46 = .ok (.aload_n 0, 1) := by decide +kernel
theorem md_Mo_send_47 : decode mb_Mo_send 47 = .ok (.getfield 170, 3) := by decide +kernel
theorem md_Mo_send_50 : decode mb_Mo_send 50 = .ok (.iload_n 2, 1) := by decide +kernel
theorem md_Mo_send_51 : decode mb_Mo_send 51 = .ok (.iastore, 1) := by decide +kernel
theorem md_Mo_send_52 : decode mb_Mo_send 52 = .ok (.aload_n 0, 1) := by decide +kernel
theorem md_Mo_send_53 : decode mb_Mo_send 53 = .ok (.getfield 26, 3) := by decide +kernel
theorem md_Mo_send_56 : decode mb_Mo_send 56 = .ok (.aload_n 0, 1) := by decide +kernel
theorem md_Mo_send_57 : decode mb_Mo_send 57 = .ok (.getfield 170, 3) := by decide +kernel
theorem md_Mo_send_60 : decode mb_Mo_send 60 = .ok (.iload_n 3, 1) := by decide +kernel
theorem md_Mo_send_61 : decode mb_Mo_send 61 = .ok (.iastore, 1) := by decide +kernel
theorem md_Mo_send_62 : decode mb_Mo_send 62 = .ok (.aload_n 0, 1) := by decide +kernel
theorem md_Mo_send_63 : decode mb_Mo_send 63 = .ok (.getfield 29, 3) := by decide +kernel
theorem md_Mo_send_66 : decode mb_Mo_send 66 = .ok (.aload_n 0, 1) := by decide +kernel
theorem md_Mo_send_67 : decode mb_Mo_send 67 = .ok (.getfield 170, 3) := by decide +kernel
theorem md_Mo_send_70 : decode mb_Mo_send 70 = .ok (.iload 4, 2) := by decide +kernel
theorem md_Mo_send_72 : decode mb_Mo_send 72 = .ok (.iastore, 1) := by decide +kernel
theorem md_Mo_send_73 : decode mb_Mo_send 73 = .ok (.iconst 0, 1) := by decide +kernel
theorem md_Mo_send_74 : decode mb_Mo_send 74 = .ok (.istore 5, 2) := by decide +kernel
theorem md_Mo_send_76 : decode mb_Mo_send 76 = .ok (.iload 5, 2) := by decide +kernel
theorem md_Mo_send_78 : decode mb_Mo_send 78 = .ok (.bipush 7, 2) := by decide +kernel
theorem md_Mo_send_80 : decode mb_Mo_send 80 = .ok (.if_icmp .ge 31, 3) := by decide +kernel
theorem md_Mo_send_83 : decode mb_Mo_send 83 = .ok (.aload_n 0, 1) := by decide +kernel
theorem md_Mo_send_84 : decode mb_Mo_send 84 = .ok (.getfield 32, 3) := by decide +kernel
theorem md_Mo_send_87 : decode mb_Mo_send 87 = .ok (.bipush 7, 2) := by decide +kernel
theorem md_Mo_send_89 : decode mb_Mo_send 89 = .ok (.aload_n 0, 1) := by decide +kernel
theorem md_Mo_send_90 : decode mb_Mo_send 90 = .ok (.getfield 170, 3) := by decide +kernel
theorem md_Mo_send_93 : decode mb_Mo_send 93 = .ok (.imul, 1) := by decide +kernel
theorem md_Mo_send_94 : decode mb_Mo_send 94 = .ok (.iload 5, 2) := by decide +kernel
theorem md_Mo_send_96 : decode mb_Mo_send 96 = .ok (.iadd, 1) := by decide +kernel
theorem md_Mo_send_97 : decode mb_Mo_send 97 = .ok (.aload_n 0, 1) := by decide +kernel
theorem md_Mo_send_98 : decode mb_Mo_send 98 = .ok (.getfield 35, 3) := by decide +kernel
theorem md_Mo_send_101 : decode mb_Mo_send 101 = .ok (.iload 5, 2) := by decide +kernel
theorem md_Mo_send_103 : decode mb_Mo_send 103 = .ok (.iaload, 1) := by decide +kernel
theorem md_Mo_send_104 : decode mb_Mo_send 104 = .ok (.iastore, 1) := by decide +kernel
theorem md_Mo_send_105 : decode mb_Mo_send 105 = .ok (.iinc 5 1, 3) := by decide +kernel
theorem md_Mo_send_108 : decode mb_Mo_send 108 = .ok (.goto (-32), 3) := by decide +kernel
theorem md_Mo_send_111 : decode mb_Mo_send 111 = .ok (.aload_n 0, 1) := by decide +kernel
theorem md_Mo_send_112 : decode mb_Mo_send 112 = .ok (.dup, 1) := by decide +kernel
theorem md_Mo_send_113 : decode mb_Mo_send 113 = .ok (.getfield 170, 3) := by decide +kernel
theorem md_Mo_send_116 : decode mb_Mo_send 116 = .ok (.iconst 1, 1) := by decide +kernel
theorem md_Mo_send_117 : decode mb_Mo_send 117 = .ok (.iadd, 1) := by decide +kernel
theorem md_Mo_send_118 : decode mb_Mo_send 118 = .ok (.putfield 170, 3) := by decide +kernel
theorem md_Mo_send_121 : decode mb_Mo_send 121 = .ok (.aload_n 0, 1) := by decide +kernel
theorem md_Mo_send_122 : decode mb_Mo_send 122 = .ok (.invokevirtual 176, 3) := by decide +kernel
theorem md_Mo_send_125 : decode mb_Mo_send 125 = .ok (.return_, 1) := by decide +kernel
abbrev mb_Mo_move : ByteArray := prog_11_method_16_code
def my_Mo_move : MethodName := ⟨R_Mo, "move", "(II)V"⟩
abbrev mrm_Mo_move : Room := { frames := 0, cells := 0, slots := 0, locals := 0 }
theorem mK_Mo_move : Cond.code my_Mo_move mb_Mo_move 4 none ∈ vTB := vTB_in 989 (by decide +kernel) rfl
theorem mI_Mo_move : Cond.instanceMethod my_Mo_move ∈ vTB := vTB_in 988 (by decide +kernel) rfl
theorem mS_Mo_move : Cond.selects R_Mo my_Mo_move my_Mo_move ∈ vTB := vTB_sel (q := (my_Mo_move, 57)) 40 (by decide +kernel)
theorem mw_Mo_move {R : Room} {s : State} {args : Array Value} {own : String} {index : Nat} (hts : ∀ w ∈ vTB, w.before args s = true) (hl : Cond.methodLink own index my_Mo_move ∈ vTB) (hR : mrm_Mo_move.frames + 1 ≤ R.frames ∧ 8 + (4 + 11) + mrm_Mo_move.locals ≤ R.locals) : CallW R s args own R_Mo index my_Mo_move mb_Mo_move 4 none (Cond.code my_Mo_move mb_Mo_move 4 none :: vTB) mrm_Mo_move 0 0 2 := cwV 2 hts (fw_gV vTB_good mK_Mo_move hl mI_Mo_move mS_Mo_move N_Mo) rfl rfl rfl (by decide +kernel) hR
theorem md_Mo_move_0 : decode mb_Mo_move 0 = .ok (.aload_n 0, 1) := by decide +kernel
theorem md_Mo_move_1 : decode mb_Mo_move 1 = .ok (.getfield 20, 3) := by decide +kernel
theorem md_Mo_move_4 : decode mb_Mo_move 4 = .ok (.iload_n 2, 1) := by decide +kernel
theorem md_Mo_move_5 : decode mb_Mo_move 5 = .ok (.aload_n 0, 1) := by decide +kernel
theorem md_Mo_move_6 : decode mb_Mo_move 6 = .ok (.getfield 20, 3) := by decide +kernel
theorem md_Mo_move_9 : decode mb_Mo_move 9 = .ok (.iload_n 1, 1) := by decide +kernel
theorem md_Mo_move_10 : decode mb_Mo_move 10 = .ok (.iaload, 1) := by decide +kernel
theorem md_Mo_move_11 : decode mb_Mo_move 11 = .ok (.iastore, 1) := by decide +kernel
theorem md_Mo_move_12 : decode mb_Mo_move 12 = .ok (.aload_n 0, 1) := by decide +kernel
theorem md_Mo_move_13 : decode mb_Mo_move 13 = .ok (.getfield 23, 3) := by decide +kernel
theorem md_Mo_move_16 : decode mb_Mo_move 16 = .ok (.iload_n 2, 1) := by decide +kernel
theorem md_Mo_move_17 : decode mb_Mo_move 17 = .ok (.aload_n 0, 1) := by decide +kernel
theorem md_Mo_move_18 : decode mb_Mo_move 18 = .ok (.getfield 23, 3) := by decide +kernel
theorem md_Mo_move_21 : decode mb_Mo_move 21 = .ok (.iload_n 1, 1) := by decide +kernel
theorem md_Mo_move_22 : decode mb_Mo_move 22 = .ok (.iaload, 1) := by decide +kernel
theorem md_Mo_move_23 : decode mb_Mo_move 23 = .ok (.iastore, 1) := by decide +kernel
theorem md_Mo_move_24 : decode mb_Mo_move 24 = .ok (.aload_n 0, 1) := by decide +kernel
theorem md_Mo_move_25 : decode mb_Mo_move 25 = .ok (.getfield 26, 3) := by decide +kernel
theorem md_Mo_move_28 : decode mb_Mo_move 28 = .ok (.iload_n 2, 1) := by decide +kernel
theorem md_Mo_move_29 : decode mb_Mo_move 29 = .ok (.aload_n 0, 1) := by decide +kernel
theorem md_Mo_move_30 : decode mb_Mo_move 30 = .ok (.getfield 26, 3) := by decide +kernel
theorem md_Mo_move_33 : decode mb_Mo_move 33 = .ok (.iload_n 1, 1) := by decide +kernel
theorem md_Mo_move_34 : decode mb_Mo_move 34 = .ok (.iaload, 1) := by decide +kernel
theorem md_Mo_move_35 : decode mb_Mo_move 35 = .ok (.iastore, 1) := by decide +kernel
theorem md_Mo_move_36 : decode mb_Mo_move 36 = .ok (.aload_n 0, 1) := by decide +kernel
theorem md_Mo_move_37 : decode mb_Mo_move 37 = .ok (.getfield 29, 3) := by decide +kernel
theorem md_Mo_move_40 : decode mb_Mo_move 40 = .ok (.iload_n 2, 1) := by decide +kernel
theorem md_Mo_move_41 : decode mb_Mo_move 41 = .ok (.aload_n 0, 1) := by decide +kernel
theorem md_Mo_move_42 : decode mb_Mo_move 42 = .ok (.getfield 29, 3) := by decide +kernel
theorem md_Mo_move_45 : decode mb_Mo_move 45 = .ok (.iload_n 1, 1) := by decide +kernel
theorem md_Mo_move_46 : decode mb_Mo_move 46 = .ok (.iaload, 1) := by decide +kernel
theorem md_Mo_move_47 : decode mb_Mo_move 47 = .ok (.iastore, 1) := by decide +kernel
theorem md_Mo_move_48 : decode mb_Mo_move 48 = .ok (.iconst 0, 1) := by decide +kernel
theorem md_Mo_move_49 : decode mb_Mo_move 49 = .ok (.istore_n 3, 1) := by decide +kernel
theorem md_Mo_move_50 : decode mb_Mo_move 50 = .ok (.iload_n 3, 1) := by decide +kernel
theorem md_Mo_move_51 : decode mb_Mo_move 51 = .ok (.bipush 7, 2) := by decide +kernel
theorem md_Mo_move_53 : decode mb_Mo_move 53 = .ok (.if_icmp .ge 31, 3) := by decide +kernel
theorem md_Mo_move_56 : decode mb_Mo_move 56 = .ok (.aload_n 0, 1) := by decide +kernel
theorem md_Mo_move_57 : decode mb_Mo_move 57 = .ok (.getfield 32, 3) := by decide +kernel
theorem md_Mo_move_60 : decode mb_Mo_move 60 = .ok (.bipush 7, 2) := by decide +kernel
theorem md_Mo_move_62 : decode mb_Mo_move 62 = .ok (.iload_n 2, 1) := by decide +kernel
theorem md_Mo_move_63 : decode mb_Mo_move 63 = .ok (.imul, 1) := by decide +kernel
theorem md_Mo_move_64 : decode mb_Mo_move 64 = .ok (.iload_n 3, 1) := by decide +kernel
theorem md_Mo_move_65 : decode mb_Mo_move 65 = .ok (.iadd, 1) := by decide +kernel
theorem md_Mo_move_66 : decode mb_Mo_move 66 = .ok (.aload_n 0, 1) := by decide +kernel
theorem md_Mo_move_67 : decode mb_Mo_move 67 = .ok (.getfield 32, 3) := by decide +kernel
theorem md_Mo_move_70 : decode mb_Mo_move 70 = .ok (.bipush 7, 2) := by decide +kernel
theorem md_Mo_move_72 : decode mb_Mo_move 72 = .ok (.iload_n 1, 1) := by decide +kernel
theorem md_Mo_move_73 : decode mb_Mo_move 73 = .ok (.imul, 1) := by decide +kernel
theorem md_Mo_move_74 : decode mb_Mo_move 74 = .ok (.iload_n 3, 1) := by decide +kernel
theorem md_Mo_move_75 : decode mb_Mo_move 75 = .ok (.iadd, 1) := by decide +kernel
theorem md_Mo_move_76 : decode mb_Mo_move 76 = .ok (.iaload, 1) := by decide +kernel
theorem md_Mo_move_77 : decode mb_Mo_move 77 = .ok (.iastore, 1) := by decide +kernel
theorem md_Mo_move_78 : decode mb_Mo_move 78 = .ok (.iinc 3 1, 3) := by decide +kernel
theorem md_Mo_move_81 : decode mb_Mo_move 81 = .ok (.goto (-31), 3) := by decide +kernel
theorem md_Mo_move_84 : decode mb_Mo_move 84 = .ok (.return_, 1) := by decide +kernel
