abbrev mb_Mo_breakOff : ByteArray := prog_11_method_23_code
def my_Mo_breakOff : MethodName := ⟨R_Mo, "breakOff", "(I)V"⟩
abbrev mrm_Mo_breakOff : Room := { frames := 2, cells := 0, slots := 0, locals := 46 }
theorem mK_Mo_breakOff : Cond.code my_Mo_breakOff mb_Mo_breakOff 2 none ∈ vTB := vTB_in 1081 (by decide +kernel) rfl
theorem mI_Mo_breakOff : Cond.instanceMethod my_Mo_breakOff ∈ vTB := vTB_in 1080 (by decide +kernel) rfl
theorem mS_Mo_breakOff : Cond.selects R_Mo my_Mo_breakOff my_Mo_breakOff ∈ vTB := vTB_sel (q := (my_Mo_breakOff, 57)) 58 (by decide +kernel)
theorem mw_Mo_breakOff {R : Room} {s : State} {args : Array Value} {own : String} {index : Nat} (hts : ∀ w ∈ vTB, w.before args s = true) (hl : Cond.methodLink own index my_Mo_breakOff ∈ vTB) (hR : mrm_Mo_breakOff.frames + 1 ≤ R.frames ∧ 8 + (2 + 11) + mrm_Mo_breakOff.locals ≤ R.locals) : CallW R s args own R_Mo index my_Mo_breakOff mb_Mo_breakOff 2 none (Cond.code my_Mo_breakOff mb_Mo_breakOff 2 none :: vTB) mrm_Mo_breakOff 0 0 1 := cwV 1 hts (fw_gV vTB_good mK_Mo_breakOff hl mI_Mo_breakOff mS_Mo_breakOff N_Mo) rfl rfl rfl (by decide +kernel) hR
theorem md_Mo_breakOff_0 : decode mb_Mo_breakOff 0 = .ok (.aload_n 0, 1) := by decide +kernel
theorem md_Mo_breakOff_1 : decode mb_Mo_breakOff 1 = .ok (.getfield 41, 3) := by decide +kernel
theorem md_Mo_breakOff_4 : decode mb_Mo_breakOff 4 = .ok (.iload_n 1, 1) := by decide +kernel
theorem md_Mo_breakOff_5 : decode mb_Mo_breakOff 5 = .ok (.iaload, 1) := by decide +kernel
theorem md_Mo_breakOff_6 : decode mb_Mo_breakOff 6 = .ok (.iconst 1, 1) := by decide +kernel
theorem md_Mo_breakOff_7 : decode mb_Mo_breakOff 7 = .ok (.if_icmp .le 22, 3) := by decide +kernel
theorem md_Mo_breakOff_10 : decode mb_Mo_breakOff 10 = .ok (.aload_n 0, 1) := by decide +kernel
theorem md_Mo_breakOff_11 : decode mb_Mo_breakOff 11 = .ok (.bipush 16, 2) := by decide +kernel
theorem md_Mo_breakOff_13 : decode mb_Mo_breakOff 13 = .ok (.aload_n 0, 1) := by decide +kernel
theorem md_Mo_breakOff_14 : decode mb_Mo_breakOff 14 = .ok (.getfield 44, 3) := by decide +kernel
theorem md_Mo_breakOff_17 : decode mb_Mo_breakOff 17 = .ok (.iload_n 1, 1) := by decide +kernel
theorem md_Mo_breakOff_18 : decode mb_Mo_breakOff 18 = .ok (.iaload, 1) := by decide +kernel
theorem md_Mo_breakOff_19 : decode mb_Mo_breakOff 19 = .ok (.iconst 0, 1) := by decide +kernel
theorem md_Mo_breakOff_20 : decode mb_Mo_breakOff 20 = .ok (.aload_n 0, 1) := by decide +kernel
theorem md_Mo_breakOff_21 : decode mb_Mo_breakOff 21 = .ok (.getfield 50, 3) := by decide +kernel
theorem md_Mo_breakOff_24 : decode mb_Mo_breakOff 24 = .ok (.iload_n 1, 1) := by decide +kernel
theorem md_Mo_breakOff_25 : decode mb_Mo_breakOff 25 = .ok (.iaload, 1) := by decide +kernel
theorem md_Mo_breakOff_26 : decode mb_Mo_breakOff 26 = .ok (.invokevirtual 197, 3) := by decide +kernel
theorem md_Mo_breakOff_29 : decode mb_Mo_breakOff 29 = .ok (.aload_n 0, 1) := by decide +kernel
theorem md_Mo_breakOff_30 : decode mb_Mo_breakOff 30 = .ok (.iload_n 1, 1) := by decide +kernel
theorem md_Mo_breakOff_31 : decode mb_Mo_breakOff 31 = .ok (.invokevirtual 203, 3) := by decide +kernel
theorem md_Mo_breakOff_34 : decode mb_Mo_breakOff 34 = .ok (.return_, 1) := by decide +kernel
abbrev mb_Mo_open : ByteArray := prog_11_method_24_code
def my_Mo_open : MethodName := ⟨R_Mo, "open", "(I)I"⟩
abbrev mrm_Mo_open : Room := { frames := 3, cells := 0, slots := 0, locals := 69 }
theorem mK_Mo_open : Cond.code my_Mo_open mb_Mo_open 2 (some .int) ∈ vTB := vTB_in 1072 (by decide +kernel) rfl
theorem mI_Mo_open : Cond.instanceMethod my_Mo_open ∈ vTB := vTB_in 1070 (by decide +kernel) rfl
theorem mS_Mo_open : Cond.selects R_Mo my_Mo_open my_Mo_open ∈ vTB := vTB_in 1071 (by decide +kernel) rfl
theorem mw_Mo_open {R : Room} {s : State} {args : Array Value} {own : String} {index : Nat} (hts : ∀ w ∈ vTB, w.before args s = true) (hl : Cond.methodLink own index my_Mo_open ∈ vTB) (hR : mrm_Mo_open.frames + 1 ≤ R.frames ∧ 8 + (2 + 11) + mrm_Mo_open.locals ≤ R.locals) : CallW R s args own R_Mo index my_Mo_open mb_Mo_open 2 (some .int) (Cond.code my_Mo_open mb_Mo_open 2 (some .int) :: vTB) mrm_Mo_open 0 0 1 := cwV 1 hts (fw_gV vTB_good mK_Mo_open hl mI_Mo_open mS_Mo_open N_Mo) rfl rfl rfl (by decide +kernel) hR
theorem md_Mo_open_0 : decode mb_Mo_open 0 = .ok (.iload_n 1, 1) := by decide +kernel
theorem md_Mo_open_1 : decode mb_Mo_open 1 = .ok (.iconst 0, 1) := by decide +kernel
theorem md_Mo_open_2 : decode mb_Mo_open 2 = .ok (.iconst 1, 1) := by decide +kernel
theorem md_Mo_open_3 : decode mb_Mo_open 3 = .ok (.invokestatic 155, 3) := by decide +kernel
theorem md_Mo_open_6 : decode mb_Mo_open 6 = .ok (.ifCond .ne 5, 3) := by decide +kernel
theorem md_Mo_open_9 : decode mb_Mo_open 9 = .ok (.iconst (-1), 1) := by decide +kernel
theorem md_Mo_open_10 : decode mb_Mo_open 10 = .ok (.ireturn, 1) := by decide +kernel
theorem md_Mo_open_11 : decode mb_Mo_open 11 = .ok (.aload_n 0, 1) := by decide +kernel
theorem md_Mo_open_12 : decode mb_Mo_open 12 = .ok (.getfield 41, 3) := by decide +kernel
theorem md_Mo_open_15 : decode mb_Mo_open 15 = .ok (.iload_n 1, 1) := by decide +kernel
theorem md_Mo_open_16 : decode mb_Mo_open 16 = .ok (.iaload, 1) := by decide +kernel
theorem md_Mo_open_17 : decode mb_Mo_open 17 = .ok (.ifCond .ne 12, 3) := by decide +kernel
theorem md_Mo_open_20 : decode mb_Mo_open 20 = .ok (.aload_n 0, 1) := by decide +kernel
theorem md_Mo_open_21 : decode mb_Mo_open 21 = .ok (.getfield 47, 3) := by decide +kernel
theorem md_Mo_open_24 : decode mb_Mo_open 24 = .ok (.iload_n 1, 1) := by decide +kernel
theorem md_Mo_open_25 : decode mb_Mo_open 25 = .ok (.iaload, 1) := by decide +kernel
theorem md_Mo_open_26 : decode mb_Mo_open 26 = .ok (.ifCond .ne 6, 3) := by decide +kernel
theorem md_Mo_open_29 : decode mb_Mo_open 29 = .ok (.bipush (-2), 2) := by decide +kernel
theorem md_Mo_open_31 : decode mb_Mo_open 31 = .ok (.ireturn, 1) := by decide +kernel
theorem md_Mo_open_32 : decode mb_Mo_open 32 = .ok (.aload_n 0, 1) := by decide +kernel
theorem md_Mo_open_33 : decode mb_Mo_open 33 = .ok (.aload_n 0, 1) := by decide +kernel
theorem md_Mo_open_34 : decode mb_Mo_open 34 = .ok (.getfield 206, 3) := by decide +kernel
theorem md_Mo_open_37 : decode mb_Mo_open 37 = .ok (.ldc 209, 2) := by decide +kernel
theorem md_Mo_open_39 : decode mb_Mo_open 39 = .ok (.if_icmp .ne 7, 3) := by decide +kernel
theorem md_Mo_open_42 : decode mb_Mo_open 42 = .ok (.iconst 1, 1) := by decide +kernel
theorem md_Mo_open_43 : decode mb_Mo_open 43 = .ok (.goto 9, 3) := by decide +kernel
theorem md_Mo_open_46 : decode mb_Mo_open 46 = .ok (.aload_n 0, 1) := by decide +kernel
theorem md_Mo_open_47 : decode mb_Mo_open 47 = .ok (.getfield 206, 3) := by decide +kernel
theorem md_Mo_open_50 : decode mb_Mo_open 50 = .ok (.iconst 1, 1) := by decide +kernel
theorem md_Mo_open_51 : decode mb_Mo_open 51 = .ok (.iadd, 1) := by decide +kernel
theorem md_Mo_open_52 : decode mb_Mo_open 52 = .ok (.putfield 206, 3) := by decide +kernel
theorem md_Mo_open_55 : decode mb_Mo_open 55 = .ok (.aload_n 0, 1) := by decide +kernel
theorem md_Mo_open_56 : decode mb_Mo_open 56 = .ok (.dup, 1) := by decide +kernel
theorem md_Mo_open_57 : decode mb_Mo_open 57 = .ok (.getfield 210, 3) := by decide +kernel
theorem md_Mo_open_60 : decode mb_Mo_open 60 = .ok (.iconst 1, 1) := by decide +kernel
theorem md_Mo_open_61 : decode mb_Mo_open 61 = .ok (.iadd, 1) := by decide +kernel
theorem md_Mo_open_62 : decode mb_Mo_open 62 = .ok (.putfield 210, 3) := by decide +kernel
theorem md_Mo_open_65 : decode mb_Mo_open 65 = .ok (.aload_n 0, 1) := by decide +kernel
theorem md_Mo_open_66 : decode mb_Mo_open 66 = .ok (.iload_n 1, 1) := by decide +kernel
theorem md_Mo_open_67 : decode mb_Mo_open 67 = .ok (.iconst 1, 1) := by decide +kernel
theorem md_Mo_open_68 : decode mb_Mo_open 68 = .ok (.invokevirtual 200, 3) := by decide +kernel
theorem md_Mo_open_71 : decode mb_Mo_open 71 = .ok (.aload_n 0, 1) := by decide +kernel
theorem md_Mo_open_72 : decode mb_Mo_open 72 = .ok (.getfield 44, 3) := by decide +kernel
theorem md_Mo_open_75 : decode mb_Mo_open 75 = .ok (.iload_n 1, 1) := by decide +kernel
theorem md_Mo_open_76 : decode mb_Mo_open 76 = .ok (.aload_n 0, 1) := by decide +kernel
theorem md_Mo_open_77 : decode mb_Mo_open 77 = .ok (.getfield 206, 3) := by decide +kernel
theorem md_Mo_open_80 : decode mb_Mo_open 80 = .ok (.iastore, 1) := by decide +kernel
theorem md_Mo_open_81 : decode mb_Mo_open 81 = .ok (.aload_n 0, 1) := by decide +kernel
theorem md_Mo_open_82 : decode mb_Mo_open 82 = .ok (.getfield 74, 3) := by decide +kernel
theorem md_Mo_open_85 : decode mb_Mo_open 85 = .ok (.iload_n 1, 1) := by decide +kernel
theorem md_Mo_open_86 : decode mb_Mo_open 86 = .ok (.iconst 0, 1) := by decide +kernel
theorem md_Mo_open_87 : decode mb_Mo_open 87 = .ok (.iastore, 1) := by decide +kernel
theorem md_Mo_open_88 : decode mb_Mo_open 88 = .ok (.aload_n 0, 1) := by decide +kernel
theorem md_Mo_open_89 : decode mb_Mo_open 89 = .ok (.iload_n 1, 1) := by decide +kernel
theorem md_Mo_open_90 : decode mb_Mo_open 90 = .ok (.invokevirtual 213, 3) := by decide +kernel
theorem md_Mo_open_93 : decode mb_Mo_open 93 = .ok (.aload_n 0, 1) := by decide +kernel
theorem md_Mo_open_94 : decode mb_Mo_open 94 = .ok (.getfield 206, 3) := by decide +kernel
theorem md_Mo_open_97 : decode mb_Mo_open 97 = .ok (.ireturn, 1) := by decide +kernel
abbrev mb_Mo_close : ByteArray := prog_11_method_25_code
def my_Mo_close : MethodName := ⟨R_Mo, "close", "(I)I"⟩
abbrev mrm_Mo_close : Room := { frames := 3, cells := 0, slots := 0, locals := 67 }
theorem mK_Mo_close : Cond.code my_Mo_close mb_Mo_close 3 (some .int) ∈ vTB := vTB_in 1077 (by decide +kernel) rfl
theorem mI_Mo_close : Cond.instanceMethod my_Mo_close ∈ vTB := vTB_in 1075 (by decide +kernel) rfl
theorem mS_Mo_close : Cond.selects R_Mo my_Mo_close my_Mo_close ∈ vTB := vTB_in 1076 (by decide +kernel) rfl
theorem mw_Mo_close {R : Room} {s : State} {args : Array Value} {own : String} {index : Nat} (hts : ∀ w ∈ vTB, w.before args s = true) (hl : Cond.methodLink own index my_Mo_close ∈ vTB) (hR : mrm_Mo_close.frames + 1 ≤ R.frames ∧ 8 + (3 + 11) + mrm_Mo_close.locals ≤ R.locals) : CallW R s args own R_Mo index my_Mo_close mb_Mo_close 3 (some .int) (Cond.code my_Mo_close mb_Mo_close 3 (some .int) :: vTB) mrm_Mo_close 0 0 1 := cwV 1 hts (fw_gV vTB_good mK_Mo_close hl mI_Mo_close mS_Mo_close N_Mo) rfl rfl rfl (by decide +kernel) hR
theorem md_Mo_close_0 : decode mb_Mo_close 0 = .ok (.iload_n 1, 1) := by decide +kernel
theorem md_Mo_close_1 : decode mb_Mo_close 1 = .ok (.iconst 0, 1) := by decide +kernel
theorem md_Mo_close_2 : decode mb_Mo_close 2 = .ok (.iconst 1, 1) := by decide +kernel
theorem md_Mo_close_3 : decode mb_Mo_close 3 = .ok (.invokestatic 155, 3) := by decide +kernel
theorem md_Mo_close_6 : decode mb_Mo_close 6 = .ok (.ifCond .ne 5, 3) := by decide +kernel
theorem md_Mo_close_9 : decode mb_Mo_close 9 = .ok (.iconst (-1), 1) := by decide +kernel
theorem md_Mo_close_10 : decode mb_Mo_close 10 = .ok (.ireturn, 1) := by decide +kernel
theorem md_Mo_close_11 : decode mb_Mo_close 11 = .ok (.aload_n 0, 1) := by decide +kernel
theorem md_Mo_close_12 : decode mb_Mo_close 12 = .ok (.getfield 41, 3) := by decide +kernel
theorem md_Mo_close_15 : decode mb_Mo_close 15 = .ok (.iload_n 1, 1) := by decide +kernel
theorem md_Mo_close_16 : decode mb_Mo_close 16 = .ok (.iaload, 1) := by decide +kernel
theorem md_Mo_close_17 : decode mb_Mo_close 17 = .ok (.istore_n 2, 1) := by decide +kernel
theorem md_Mo_close_18 : decode mb_Mo_close 18 = .ok (.iload_n 2, 1) := by decide +kernel
theorem md_Mo_close_19 : decode mb_Mo_close 19 = .ok (.ifCond .eq 8, 3) := by decide +kernel
theorem md_Mo_close_22 : decode mb_Mo_close 22 = .ok (.aload_n 0, 1) := by decide +kernel
theorem md_Mo_close_23 : decode mb_Mo_close 23 = .ok (.iload_n 1, 1) := by decide +kernel
theorem md_Mo_close_24 : decode mb_Mo_close 24 = .ok (.invokevirtual 216, 3) := by decide +kernel
theorem md_Mo_close_27 : decode mb_Mo_close 27 = .ok (.iload_n 2, 1) := by decide +kernel
theorem md_Mo_close_28 : decode mb_Mo_close 28 = .ok (.ireturn, 1) := by decide +kernel
abbrev mb_Mo_beat : ByteArray := prog_11_method_31_code
def my_Mo_beat : MethodName := ⟨R_Mo, "beat", "(I)V"⟩
abbrev mrm_Mo_beat : Room := { frames := 3, cells := 0, slots := 0, locals := 69 }
theorem mK_Mo_beat : Cond.code my_Mo_beat mb_Mo_beat 5 none ∈ vTB := vTB_in 1089 (by decide +kernel) rfl
theorem mI_Mo_beat : Cond.instanceMethod my_Mo_beat ∈ vTB := vTB_in 1088 (by decide +kernel) rfl
theorem mS_Mo_beat : Cond.selects R_Mo my_Mo_beat my_Mo_beat ∈ vTB := vTB_sel (q := (my_Mo_beat, 57)) 59 (by decide +kernel)
theorem mw_Mo_beat {R : Room} {s : State} {args : Array Value} {own : String} {index : Nat} (hts : ∀ w ∈ vTB, w.before args s = true) (hl : Cond.methodLink own index my_Mo_beat ∈ vTB) (hR : mrm_Mo_beat.frames + 1 ≤ R.frames ∧ 8 + (5 + 11) + mrm_Mo_beat.locals ≤ R.locals) : CallW R s args own R_Mo index my_Mo_beat mb_Mo_beat 5 none (Cond.code my_Mo_beat mb_Mo_beat 5 none :: vTB) mrm_Mo_beat 0 0 1 := cwV 1 hts (fw_gV vTB_good mK_Mo_beat hl mI_Mo_beat mS_Mo_beat N_Mo) rfl rfl rfl (by decide +kernel) hR
theorem md_Mo_beat_0 : decode mb_Mo_beat 0 = .ok (.aload_n 0, 1) := by decide +kernel
theorem md_Mo_beat_1 : decode mb_Mo_beat 1 = .ok (.getfield 41, 3) := by decide +kernel
theorem md_Mo_beat_4 : decode mb_Mo_beat 4 = .ok (.iload_n 1, 1) := by decide +kernel
theorem md_Mo_beat_5 : decode mb_Mo_beat 5 = .ok (.iaload, 1) := by decide +kernel
theorem md_Mo_beat_6 : decode mb_Mo_beat 6 = .ok (.ifCond .ne 4, 3) := by decide +kernel
theorem md_Mo_beat_9 : decode mb_Mo_beat 9 = .ok (.return_, 1) := by decide +kernel
theorem md_Mo_beat_10 : decode mb_Mo_beat 10 = .ok (.aload_n 0, 1) := by decide +kernel
theorem md_Mo_beat_11 : decode mb_Mo_beat 11 = .ok (.getfield 59, 3) := by decide +kernel
theorem md_Mo_beat_14 : decode mb_Mo_beat 14 = .ok (.iload_n 1, 1) := by decide +kernel
theorem md_Mo_beat_15 : decode mb_Mo_beat 15 = .ok (.dup2, 1) := by decide +kernel
theorem md_Mo_beat_16 : decode mb_Mo_beat 16 = .ok (.iaload, 1) := by decide +kernel
theorem md_Mo_beat_17 : decode mb_Mo_beat 17 = .ok (.iconst 1, 1) := by decide +kernel
theorem md_Mo_beat_18 : decode mb_Mo_beat 18 = .ok (.iadd, 1) := by decide +kernel
theorem md_Mo_beat_19 : decode mb_Mo_beat 19 = .ok (.iastore, 1) := by decide +kernel
theorem md_Mo_beat_20 : decode mb_Mo_beat 20 = .ok (.aload_n 0, 1) := by decide +kernel
theorem md_Mo_beat_21 : decode mb_Mo_beat 21 = .ok (.getfield 41, 3) := by decide +kernel
theorem md_Mo_beat_24 : decode mb_Mo_beat 24 = .ok (.iload_n 1, 1) := by decide +kernel
theorem md_Mo_beat_25 : decode mb_Mo_beat 25 = .ok (.iaload, 1) := by decide +kernel
theorem md_Mo_beat_26 : decode mb_Mo_beat 26 = .ok (.bipush 6, 2) := by decide +kernel
theorem md_Mo_beat_28 : decode mb_Mo_beat 28 = .ok (.if_icmp .ne 165, 3) := by decide +kernel
theorem md_Mo_beat_31 : decode mb_Mo_beat 31 = .ok (.aload_n 0, 1) := by decide +kernel
theorem md_Mo_beat_32 : decode mb_Mo_beat 32 = .ok (.getfield 59, 3) := by decide +kernel
theorem md_Mo_beat_35 : decode mb_Mo_beat 35 = .ok (.iload_n 1, 1) := by decide +kernel
theorem md_Mo_beat_36 : decode mb_Mo_beat 36 = .ok (.iaload, 1) := by decide +kernel
theorem md_Mo_beat_37 : decode mb_Mo_beat 37 = .ok (.iconst 4, 1) := by decide +kernel
theorem md_Mo_beat_38 : decode mb_Mo_beat 38 = .ok (.if_icmp .ne 19, 3) := by decide +kernel
theorem md_Mo_beat_41 : decode mb_Mo_beat 41 = .ok (.aload_n 0, 1) := by decide +kernel
theorem md_Mo_beat_42 : decode mb_Mo_beat 42 = .ok (.dup, 1) := by decide +kernel
theorem md_Mo_beat_43 : decode mb_Mo_beat 43 = .ok (.getfield 235, 3) := by decide +kernel
theorem md_Mo_beat_46 : decode mb_Mo_beat 46 = .ok (.iconst 1, 1) := by decide +kernel
theorem md_Mo_beat_47 : decode mb_Mo_beat 47 = .ok (.iadd, 1) := by decide +kernel
theorem md_Mo_beat_48 : decode mb_Mo_beat 48 = .ok (.putfield 235, 3) := by decide +kernel
theorem md_Mo_beat_51 : decode mb_Mo_beat 51 = .ok (.aload_n 0, 1) := by decide +kernel
theorem md_Mo_beat_52 : decode mb_Mo_beat 52 = .ok (.iload_n 1, 1) := by decide +kernel
theorem md_Mo_beat_53 : decode mb_Mo_beat 53 = .ok (.invokevirtual 216, 3) := by decide +kernel
theorem md_Mo_beat_56 : decode mb_Mo_beat 56 = .ok (.return_, 1) := by decide +kernel
theorem md_Mo_beat_57 : decode mb_Mo_beat 57 = .ok (.iconst 0, 1) := by decide +kernel
theorem md_Mo_beat_58 : decode mb_Mo_beat 58 = .ok (.istore_n 2, 1) := by decide +kernel
theorem md_Mo_beat_59 : decode mb_Mo_beat 59 = .ok (.iload_n 2, 1) := by decide +kernel
theorem md_Mo_beat_60 : decode mb_Mo_beat 60 = .ok (.bipush 6, 2) := by decide +kernel
theorem md_Mo_beat_62 : decode mb_Mo_beat 62 = .ok (.if_icmp .ge 86, 3) := by decide +kernel
theorem md_Mo_beat_65 : decode mb_Mo_beat 65 = .ok (.aload_n 0, 1) := by decide +kernel
theorem md_Mo_beat_66 : decode mb_Mo_beat 66 = .ok (.getfield 77, 3) := by decide +kernel
theorem md_Mo_beat_69 : decode mb_Mo_beat 69 = .ok (.iconst 3, 1) := by decide +kernel
theorem md_Mo_beat_70 : decode mb_Mo_beat 70 = .ok (.iload_n 1, 1) := by decide +kernel
theorem md_Mo_beat_71 : decode mb_Mo_beat 71 = .ok (.imul, 1) := by decide +kernel
theorem md_Mo_beat_72 : decode mb_Mo_beat 72 = .ok (.iload_n 2, 1) := by decide +kernel
theorem md_Mo_beat_73 : decode mb_Mo_beat 73 = .ok (.iconst 2, 1) := by decide +kernel
theorem md_Mo_beat_74 : decode mb_Mo_beat 74 = .ok (.idiv, 1) := by decide +kernel
theorem md_Mo_beat_75 : decode mb_Mo_beat 75 = .ok (.iadd, 1) := by decide +kernel
theorem md_Mo_beat_76 : decode mb_Mo_beat 76 = .ok (.iaload, 1) := by decide +kernel
theorem md_Mo_beat_77 : decode mb_Mo_beat 77 = .ok (.istore_n 3, 1) := by decide +kernel
theorem md_Mo_beat_78 : decode mb_Mo_beat 78 = .ok (.iload_n 3, 1) := by decide +kernel
theorem md_Mo_beat_79 : decode mb_Mo_beat 79 = .ok (.ifCond .lt 34, 3) := by decide +kernel
theorem md_Mo_beat_82 : decode mb_Mo_beat 82 = .ok (.aload_n 0, 1) := by decide +kernel
theorem md_Mo_beat_83 : decode mb_Mo_beat 83 = .ok (.getfield 53, 3) := by decide +kernel
theorem md_Mo_beat_86 : decode mb_Mo_beat 86 = .ok (.iload_n 1, 1) := by decide +kernel
theorem md_Mo_beat_87 : decode mb_Mo_beat 87 = .ok (.iaload, 1) := by decide +kernel
theorem md_Mo_beat_88 : decode mb_Mo_beat 88 = .ok (.iload_n 2, 1) := by decide +kernel
theorem md_Mo_beat_89 : decode mb_Mo_beat 89 = .ok (.iconst 2, 1) := by decide +kernel
theorem md_Mo_beat_90 : decode mb_Mo_beat 90 = .ok (.idiv, 1) := by decide +kernel
theorem md_Mo_beat_91 : decode mb_Mo_beat 91 = .ok (.ishr, 1) := by decide +kernel
theorem md_Mo_beat_92 : decode mb_Mo_beat 92 = .ok (.iconst 1, 1) := by decide +kernel
theorem md_Mo_beat_93 : decode mb_Mo_beat 93 = .ok (.iand, 1) := by decide +kernel
theorem md_Mo_beat_94 : decode mb_Mo_beat 94 = .ok (.ifCond .ne 19, 3) := by decide +kernel
theorem md_Mo_beat_97 : decode mb_Mo_beat 97 = .ok (.iload_n 2, 1) := by decide +kernel
theorem md_Mo_beat_98 : decode mb_Mo_beat 98 = .ok (.iconst 2, 1) := by decide +kernel
theorem md_Mo_beat_99 : decode mb_Mo_beat 99 = .ok (.irem, 1) := by decide +kernel
theorem md_Mo_beat_100 : decode mb_Mo_beat 100 = .ok (.aload_n 0, 1) := by decide +kernel
theorem md_Mo_beat_101 : decode mb_Mo_beat 101 = .ok (.getfield 13, 3) := by decide +kernel
theorem md_Mo_beat_104 : decode mb_Mo_beat 104 = .ok (.iload_n 3, 1) := by decide +kernel
theorem md_Mo_beat_105 : decode mb_Mo_beat 105 = .ok (.iaload, 1) := by decide +kernel
theorem md_Mo_beat_106 : decode mb_Mo_beat 106 = .ok (.if_icmp .ge 7, 3) := by decide +kernel
theorem md_Mo_beat_109 : decode mb_Mo_beat 109 = .ok (.iconst 1, 1) := by decide +kernel
theorem md_Mo_beat_110 : decode mb_Mo_beat 110 = .ok (.goto 4, 3) := by decide +kernel
theorem md_Mo_beat_113 : decode mb_Mo_beat 113 = .ok (.iconst 0, 1) := by decide +kernel
theorem md_Mo_beat_114 : decode mb_Mo_beat 114 = .ok (.istore 4, 2) := by decide +kernel
theorem md_Mo_beat_116 : decode mb_Mo_beat 116 = .ok (.aload_n 0, 1) := by decide +kernel
theorem md_Mo_beat_117 : decode mb_Mo_beat 117 = .ok (.getfield 35, 3) := by decide +kernel
theorem md_Mo_beat_120 : decode mb_Mo_beat 120 = .ok (.iload_n 2, 1) := by decide +kernel
theorem md_Mo_beat_121 : decode mb_Mo_beat 121 = .ok (.iload 4, 2) := by decide +kernel
theorem md_Mo_beat_123 : decode mb_Mo_beat 123 = .ok (.ifCond .eq 17, 3) := by decide +kernel
theorem md_Mo_beat_126 : decode mb_Mo_beat 126 = .ok (.aload_n 0, 1) := by decide +kernel
theorem md_Mo_beat_127 : decode mb_Mo_beat 127 = .ok (.getfield 83, 3) := by decide +kernel
theorem md_Mo_beat_130 : decode mb_Mo_beat 130 = .ok (.bipush 6, 2) := by decide +kernel
theorem md_Mo_beat_132 : decode mb_Mo_beat 132 = .ok (.iload_n 1, 1) := by decide +kernel
theorem md_Mo_beat_133 : decode mb_Mo_beat 133 = .ok (.imul, 1) := by decide +kernel
theorem md_Mo_beat_134 : decode mb_Mo_beat 134 = .ok (.iload_n 2, 1) := by decide +kernel
theorem md_Mo_beat_135 : decode mb_Mo_beat 135 = .ok (.iadd, 1) := by decide +kernel
theorem md_Mo_beat_136 : decode mb_Mo_beat 136 = .ok (.iaload, 1) := by decide +kernel
theorem md_Mo_beat_137 : decode mb_Mo_beat 137 = .ok (.goto 4, 3) := by decide +kernel
theorem md_Mo_beat_140 : decode mb_Mo_beat 140 = .ok (.iconst 0, 1) := by decide +kernel
theorem md_Mo_beat_141 : decode mb_Mo_beat 141 = .ok (.iastore, 1) := by decide +kernel
theorem md_Mo_beat_142 : decode mb_Mo_beat 142 = .ok (.iinc 2 1, 3) := by decide +kernel
theorem md_Mo_beat_145 : decode mb_Mo_beat 145 = .ok (.goto (-86), 3) := by decide +kernel
theorem md_Mo_beat_148 : decode mb_Mo_beat 148 = .ok (.aload_n 0, 1) := by decide +kernel
theorem md_Mo_beat_149 : decode mb_Mo_beat 149 = .ok (.bipush 12, 2) := by decide +kernel
theorem md_Mo_beat_151 : decode mb_Mo_beat 151 = .ok (.aload_n 0, 1) := by decide +kernel
theorem md_Mo_beat_152 : decode mb_Mo_beat 152 = .ok (.getfield 44, 3) := by decide +kernel
theorem md_Mo_beat_155 : decode mb_Mo_beat 155 = .ok (.iload_n 1, 1) := by decide +kernel
theorem md_Mo_beat_156 : decode mb_Mo_beat 156 = .ok (.iaload, 1) := by decide +kernel
theorem md_Mo_beat_157 : decode mb_Mo_beat 157 = .ok (.aload_n 0, 1) := by decide +kernel
theorem md_Mo_beat_158 : decode mb_Mo_beat 158 = .ok (.getfield 68, 3) := by decide +kernel
theorem md_Mo_beat_161 : decode mb_Mo_beat 161 = .ok (.iload_n 1, 1) := by decide +kernel
theorem md_Mo_beat_162 : decode mb_Mo_beat 162 = .ok (.iaload, 1) := by decide +kernel
theorem md_Mo_beat_163 : decode mb_Mo_beat 163 = .ok (.aload_n 0, 1) := by decide +kernel
theorem md_Mo_beat_164 : decode mb_Mo_beat 164 = .ok (.getfield 50, 3) := by decide +kernel
theorem md_Mo_beat_167 : decode mb_Mo_beat 167 = .ok (.iload_n 1, 1) := by decide +kernel
theorem md_Mo_beat_168 : decode mb_Mo_beat 168 = .ok (.iaload, 1) := by decide +kernel
theorem md_Mo_beat_169 : decode mb_Mo_beat 169 = .ok (.invokevirtual 197, 3) := by decide +kernel
theorem md_Mo_beat_172 : decode mb_Mo_beat 172 = .ok (.aload_n 0, 1) := by decide +kernel
theorem md_Mo_beat_173 : decode mb_Mo_beat 173 = .ok (.getfield 68, 3) := by decide +kernel
theorem md_Mo_beat_176 : decode mb_Mo_beat 176 = .ok (.iload_n 1, 1) := by decide +kernel
theorem md_Mo_beat_177 : decode mb_Mo_beat 177 = .ok (.aload_n 0, 1) := by decide +kernel
theorem md_Mo_beat_178 : decode mb_Mo_beat 178 = .ok (.getfield 68, 3) := by decide +kernel
theorem md_Mo_beat_181 : decode mb_Mo_beat 181 = .ok (.iload_n 1, 1) := by decide +kernel
theorem md_Mo_beat_182 : decode mb_Mo_beat 182 = .ok (.iaload, 1) := by decide +kernel
theorem md_Mo_beat_183 : decode mb_Mo_beat 183 = .ok (.iconst 1, 1) := by decide +kernel
theorem md_Mo_beat_184 : decode mb_Mo_beat 184 = .ok (.iadd, 1) := by decide +kernel
theorem md_Mo_beat_185 : decode mb_Mo_beat 185 = .ok (.sipush 255, 3) := by decide +kernel
theorem md_Mo_beat_188 : decode mb_Mo_beat 188 = .ok (.iand, 1) := by decide +kernel
theorem md_Mo_beat_189 : decode mb_Mo_beat 189 = .ok (.iastore, 1) := by decide +kernel
theorem md_Mo_beat_190 : decode mb_Mo_beat 190 = .ok (.goto 70, 3) := by decide +kernel
theorem md_Mo_beat_193 : decode mb_Mo_beat 193 = .ok (.aload_n 0, 1) := by decide +kernel
theorem md_Mo_beat_194 : decode mb_Mo_beat 194 = .ok (.getfield 41, 3) := by decide +kernel
theorem md_Mo_beat_197 : decode mb_Mo_beat 197 = .ok (.iload_n 1, 1) := by decide +kernel
theorem md_Mo_beat_198 : decode mb_Mo_beat 198 = .ok (.iaload, 1) := by decide +kernel
theorem md_Mo_beat_199 : decode mb_Mo_beat 199 = .ok (.iconst 5, 1) := by decide +kernel
theorem md_Mo_beat_200 : decode mb_Mo_beat 200 = .ok (.if_icmp .ne 22, 3) := by decide +kernel
theorem md_Mo_beat_203 : decode mb_Mo_beat 203 = .ok (.aload_n 0, 1) := by decide +kernel
theorem md_Mo_beat_204 : decode mb_Mo_beat 204 = .ok (.getfield 59, 3) := by decide +kernel
theorem md_Mo_beat_207 : decode mb_Mo_beat 207 = .ok (.iload_n 1, 1) := by decide +kernel
theorem md_Mo_beat_208 : decode mb_Mo_beat 208 = .ok (.iaload, 1) := by decide +kernel
theorem md_Mo_beat_209 : decode mb_Mo_beat 209 = .ok (.bipush 12, 2) := by decide +kernel
theorem md_Mo_beat_211 : decode mb_Mo_beat 211 = .ok (.if_icmp .ne 49, 3) := by decide +kernel
theorem md_Mo_beat_214 : decode mb_Mo_beat 214 = .ok (.aload_n 0, 1) := by decide +kernel
theorem md_Mo_beat_215 : decode mb_Mo_beat 215 = .ok (.iload_n 1, 1) := by decide +kernel
theorem md_Mo_beat_216 : decode mb_Mo_beat 216 = .ok (.invokevirtual 216, 3) := by decide +kernel
theorem md_Mo_beat_219 : decode mb_Mo_beat 219 = .ok (.goto 41, 3) := by decide +kernel
theorem md_Mo_beat_222 : decode mb_Mo_beat 222 = .ok (.aload_n 0, 1) := by decide +kernel
theorem md_Mo_beat_223 : decode mb_Mo_beat 223 = .ok (.getfield 59, 3) := by decide +kernel
theorem md_Mo_beat_226 : decode mb_Mo_beat 226 = .ok (.iload_n 1, 1) := by decide +kernel
theorem md_Mo_beat_227 : decode mb_Mo_beat 227 = .ok (.iaload, 1) := by decide +kernel
theorem md_Mo_beat_228 : decode mb_Mo_beat 228 = .ok (.iconst 4, 1) := by decide +kernel
theorem md_Mo_beat_229 : decode mb_Mo_beat 229 = .ok (.if_icmp .ne 31, 3) := by decide +kernel
theorem md_Mo_beat_232 : decode mb_Mo_beat 232 = .ok (.aload_n 0, 1) := by decide +kernel
theorem md_Mo_beat_233 : decode mb_Mo_beat 233 = .ok (.getfield 62, 3) := by decide +kernel
theorem md_Mo_beat_236 : decode mb_Mo_beat 236 = .ok (.iload_n 1, 1) := by decide +kernel
theorem md_Mo_beat_237 : decode mb_Mo_beat 237 = .ok (.dup2, 1) := by decide +kernel
theorem md_Mo_beat_238 : decode mb_Mo_beat 238 = .ok (.iaload, 1) := by decide +kernel
theorem md_Mo_beat_239 : decode mb_Mo_beat 239 = .ok (.dup_x2, 1) := by decide +kernel
theorem md_Mo_beat_240 : decode mb_Mo_beat 240 = .ok (.iconst 1, 1) := by decide +kernel
theorem md_Mo_beat_241 : decode mb_Mo_beat 241 = .ok (.iadd, 1) := by decide +kernel
theorem md_Mo_beat_242 : decode mb_Mo_beat 242 = .ok (.iastore, 1) := by decide +kernel
theorem md_Mo_beat_243 : decode mb_Mo_beat 243 = .ok (.iconst 2, 1) := by decide +kernel
theorem md_Mo_beat_244 : decode mb_Mo_beat 244 = .ok (.if_icmp .ne 11, 3) := by decide +kernel
theorem md_Mo_beat_247 : decode mb_Mo_beat 247 = .ok (.aload_n 0, 1) := by decide +kernel
theorem md_Mo_beat_248 : decode mb_Mo_beat 248 = .ok (.iload_n 1, 1) := by decide +kernel
theorem md_Mo_beat_249 : decode mb_Mo_beat 249 = .ok (.invokevirtual 216, 3) := by decide +kernel
theorem md_Mo_beat_252 : decode mb_Mo_beat 252 = .ok (.goto 8, 3) := by decide +kernel
theorem md_Mo_beat_255 : decode mb_Mo_beat 255 = .ok (.aload_n 0, 1) := by decide +kernel
theorem md_Mo_beat_256 : decode mb_Mo_beat 256 = .ok (.iload_n 1, 1) := by decide +kernel
theorem md_Mo_beat_257 : decode mb_Mo_beat 257 = .ok (.invokevirtual 213, 3) := by decide +kernel
theorem md_Mo_beat_260 : decode mb_Mo_beat 260 = .ok (.return_, 1) := by decide +kernel
abbrev mb_Mo_insAt : ByteArray := prog_11_method_37_code
def my_Mo_insAt : MethodName := ⟨R_Mo, "insAt", "(I)I"⟩
abbrev mrm_Mo_insAt : Room := { frames := 0, cells := 0, slots := 0, locals := 0 }
theorem mK_Mo_insAt : Cond.code my_Mo_insAt mb_Mo_insAt 2 (some .int) ∈ vTB := vTB_in 1101 (by decide +kernel) rfl
theorem mI_Mo_insAt : Cond.instanceMethod my_Mo_insAt ∈ vTB := vTB_in 1100 (by decide +kernel) rfl
theorem mS_Mo_insAt : Cond.selects R_Mo my_Mo_insAt my_Mo_insAt ∈ vTB := vTB_sel (q := (my_Mo_insAt, 57)) 62 (by decide +kernel)
theorem mw_Mo_insAt {R : Room} {s : State} {args : Array Value} {own : String} {index : Nat} (hts : ∀ w ∈ vTB, w.before args s = true) (hl : Cond.methodLink own index my_Mo_insAt ∈ vTB) (hR : mrm_Mo_insAt.frames + 1 ≤ R.frames ∧ 8 + (2 + 11) + mrm_Mo_insAt.locals ≤ R.locals) : CallW R s args own R_Mo index my_Mo_insAt mb_Mo_insAt 2 (some .int) (Cond.code my_Mo_insAt mb_Mo_insAt 2 (some .int) :: vTB) mrm_Mo_insAt 0 0 1 := cwV 1 hts (fw_gV vTB_good mK_Mo_insAt hl mI_Mo_insAt mS_Mo_insAt N_Mo) rfl rfl rfl (by decide +kernel) hR
theorem md_Mo_insAt_0 : decode mb_Mo_insAt 0 = .ok (.aload_n 0, 1) := by decide +kernel
theorem md_Mo_insAt_1 : decode mb_Mo_insAt 1 = .ok (.getfield 131, 3) := by decide +kernel
theorem md_Mo_insAt_4 : decode mb_Mo_insAt 4 = .ok (.iload_n 1, 1) := by decide +kernel
theorem md_Mo_insAt_5 : decode mb_Mo_insAt 5 = .ok (.iaload, 1) := by decide +kernel
theorem md_Mo_insAt_6 : decode mb_Mo_insAt 6 = .ok (.ifCond .ge 7, 3) := by decide +kernel
theorem md_Mo_insAt_9 : decode mb_Mo_insAt 9 = .ok (.iconst 0, 1) := by decide +kernel
theorem md_Mo_insAt_10 : decode mb_Mo_insAt 10 = .ok (.goto 14, 3) := by decide +kernel
theorem md_Mo_insAt_13 : decode mb_Mo_insAt 13 = .ok (.aload_n 0, 1) := by decide +kernel
theorem md_Mo_insAt_14 : decode mb_Mo_insAt 14 = .ok (.getfield 7, 3) := by decide +kernel
theorem md_Mo_insAt_17 : decode mb_Mo_insAt 17 = .ok (.aload_n 0, 1) := by decide +kernel
theorem md_Mo_insAt_18 : decode mb_Mo_insAt 18 = .ok (.getfield 131, 3) := by decide +kernel
theorem md_Mo_insAt_21 : decode mb_Mo_insAt 21 = .ok (.iload_n 1, 1) := by decide +kernel
theorem md_Mo_insAt_22 : decode mb_Mo_insAt 22 = .ok (.iaload, 1) := by decide +kernel
theorem md_Mo_insAt_23 : decode mb_Mo_insAt 23 = .ok (.iaload, 1) := by decide +kernel
theorem md_Mo_insAt_24 : decode mb_Mo_insAt 24 = .ok (.ireturn, 1) := by decide +kernel
abbrev mb_Mo_alarm : ByteArray := prog_11_method_42_code
def my_Mo_alarm : MethodName := ⟨R_Mo, "alarm", "(I)V"⟩
abbrev mrm_Mo_alarm : Room := { frames := 3, cells := 0, slots := 0, locals := 69 }
theorem mK_Mo_alarm : Cond.code my_Mo_alarm mb_Mo_alarm 2 none ∈ vTB := vTB_in 1097 (by decide +kernel) rfl
theorem mI_Mo_alarm : Cond.instanceMethod my_Mo_alarm ∈ vTB := vTB_in 1096 (by decide +kernel) rfl
theorem mS_Mo_alarm : Cond.selects R_Mo my_Mo_alarm my_Mo_alarm ∈ vTB := vTB_sel (q := (my_Mo_alarm, 57)) 61 (by decide +kernel)
theorem mw_Mo_alarm {R : Room} {s : State} {args : Array Value} {own : String} {index : Nat} (hts : ∀ w ∈ vTB, w.before args s = true) (hl : Cond.methodLink own index my_Mo_alarm ∈ vTB) (hR : mrm_Mo_alarm.frames + 1 ≤ R.frames ∧ 8 + (2 + 11) + mrm_Mo_alarm.locals ≤ R.locals) : CallW R s args own R_Mo index my_Mo_alarm mb_Mo_alarm 2 none (Cond.code my_Mo_alarm mb_Mo_alarm 2 none :: vTB) mrm_Mo_alarm 0 0 1 := cwV 1 hts (fw_gV vTB_good mK_Mo_alarm hl mI_Mo_alarm mS_Mo_alarm N_Mo) rfl rfl rfl (by decide +kernel) hR
theorem md_Mo_alarm_0 : decode mb_Mo_alarm 0 = .ok (.aload_n 0, 1) := by decide +kernel
theorem md_Mo_alarm_1 : decode mb_Mo_alarm 1 = .ok (.getfield 116, 3) := by decide +kernel
theorem md_Mo_alarm_4 : decode mb_Mo_alarm 4 = .ok (.iload_n 1, 1) := by decide +kernel
theorem md_Mo_alarm_5 : decode mb_Mo_alarm 5 = .ok (.iaload, 1) := by decide +kernel
theorem md_Mo_alarm_6 : decode mb_Mo_alarm 6 = .ok (.ifCond .ne 4, 3) := by decide +kernel
theorem md_Mo_alarm_9 : decode mb_Mo_alarm 9 = .ok (.return_, 1) := by decide +kernel
theorem md_Mo_alarm_10 : decode mb_Mo_alarm 10 = .ok (.aload_n 0, 1) := by decide +kernel
theorem md_Mo_alarm_11 : decode mb_Mo_alarm 11 = .ok (.getfield 113, 3) := by decide +kernel
theorem md_Mo_alarm_14 : decode mb_Mo_alarm 14 = .ok (.iload_n 1, 1) := by decide +kernel
theorem md_Mo_alarm_15 : decode mb_Mo_alarm 15 = .ok (.iaload, 1) := by decide +kernel
theorem md_Mo_alarm_16 : decode mb_Mo_alarm 16 = .ok (.ifCond .le 24, 3) := by decide +kernel
theorem md_Mo_alarm_19 : decode mb_Mo_alarm 19 = .ok (.aload_n 0, 1) := by decide +kernel
theorem md_Mo_alarm_20 : decode mb_Mo_alarm 20 = .ok (.getfield 119, 3) := by decide +kernel
theorem md_Mo_alarm_23 : decode mb_Mo_alarm 23 = .ok (.iload_n 1, 1) := by decide +kernel
theorem md_Mo_alarm_24 : decode mb_Mo_alarm 24 = .ok (.dup2, 1) := by decide +kernel
theorem md_Mo_alarm_25 : decode mb_Mo_alarm 25 = .ok (.iaload, 1) := by decide +kernel
theorem md_Mo_alarm_26 : decode mb_Mo_alarm 26 = .ok (.iconst 1, 1) := by decide +kernel
theorem md_Mo_alarm_27 : decode mb_Mo_alarm 27 = .ok (.iadd, 1) := by decide +kernel
theorem md_Mo_alarm_28 : decode mb_Mo_alarm 28 = .ok (.iastore, 1) := by decide +kernel
theorem md_Mo_alarm_29 : decode mb_Mo_alarm 29 = .ok (.aload_n 0, 1) := by decide +kernel
theorem md_Mo_alarm_30 : decode mb_Mo_alarm 30 = .ok (.getfield 119, 3) := by decide +kernel
theorem md_Mo_alarm_33 : decode mb_Mo_alarm 33 = .ok (.iload_n 1, 1) := by decide +kernel
theorem md_Mo_alarm_34 : decode mb_Mo_alarm 34 = .ok (.iaload, 1) := by decide +kernel
theorem md_Mo_alarm_35 : decode mb_Mo_alarm 35 = .ok (.iconst 3, 1) := by decide +kernel
theorem md_Mo_alarm_36 : decode mb_Mo_alarm 36 = .ok (.if_icmp .ge 46, 3) := by decide +kernel
theorem md_Mo_alarm_39 : decode mb_Mo_alarm 39 = .ok (.return_, 1) := by decide +kernel
theorem md_Mo_alarm_40 : decode mb_Mo_alarm 40 = .ok (.aload_n 0, 1) := by decide +kernel
theorem md_Mo_alarm_41 : decode mb_Mo_alarm 41 = .ok (.getfield 122, 3) := by decide +kernel
theorem md_Mo_alarm_44 : decode mb_Mo_alarm 44 = .ok (.iload_n 1, 1) := by decide +kernel
theorem md_Mo_alarm_45 : decode mb_Mo_alarm 45 = .ok (.aload_n 0, 1) := by decide +kernel
theorem md_Mo_alarm_46 : decode mb_Mo_alarm 46 = .ok (.getfield 122, 3) := by decide +kernel
theorem md_Mo_alarm_49 : decode mb_Mo_alarm 49 = .ok (.iload_n 1, 1) := by decide +kernel
theorem md_Mo_alarm_50 : decode mb_Mo_alarm 50 = .ok (.iaload, 1) := by decide +kernel
theorem md_Mo_alarm_51 : decode mb_Mo_alarm 51 = .ok (.sipush 255, 3) := by decide +kernel
theorem md_Mo_alarm_54 : decode mb_Mo_alarm 54 = .ok (.if_icmp .ne 7, 3) := by decide +kernel
theorem md_Mo_alarm_57 : decode mb_Mo_alarm 57 = .ok (.iconst 1, 1) := by decide +kernel
theorem md_Mo_alarm_58 : decode mb_Mo_alarm 58 = .ok (.goto 11, 3) := by decide +kernel
theorem md_Mo_alarm_61 : decode mb_Mo_alarm 61 = .ok (.aload_n 0, 1) := by decide +kernel
theorem md_Mo_alarm_62 : decode mb_Mo_alarm 62 = .ok (.getfield 122, 3) := by decide +kernel
theorem md_Mo_alarm_65 : decode mb_Mo_alarm 65 = .ok (.iload_n 1, 1) := by decide +kernel
theorem md_Mo_alarm_66 : decode mb_Mo_alarm 66 = .ok (.iaload, 1) := by decide +kernel
theorem md_Mo_alarm_67 : decode mb_Mo_alarm 67 = .ok (.iconst 1, 1) := by decide +kernel
theorem md_Mo_alarm_68 : decode mb_Mo_alarm 68 = .ok (.iadd, 1) := by decide +kernel
theorem md_Mo_alarm_69 : decode mb_Mo_alarm 69 = .ok (.iastore, 1) := by decide +kernel
theorem md_Mo_alarm_70 : decode mb_Mo_alarm 70 = .ok (.aload_n 0, 1) := by decide +kernel
theorem md_Mo_alarm_71 : decode mb_Mo_alarm 71 = .ok (.getfield 113, 3) := by decide +kernel
theorem md_Mo_alarm_74 : decode mb_Mo_alarm 74 = .ok (.iload_n 1, 1) := by decide +kernel
theorem md_Mo_alarm_75 : decode mb_Mo_alarm 75 = .ok (.aload_n 0, 1) := by decide +kernel
theorem md_Mo_alarm_76 : decode mb_Mo_alarm 76 = .ok (.getfield 122, 3) := by decide +kernel
theorem md_Mo_alarm_79 : decode mb_Mo_alarm 79 = .ok (.iload_n 1, 1) := by decide +kernel
theorem md_Mo_alarm_80 : decode mb_Mo_alarm 80 = .ok (.iaload, 1) := by decide +kernel
theorem md_Mo_alarm_81 : decode mb_Mo_alarm 81 = .ok (.iastore, 1) := by decide +kernel
theorem md_Mo_alarm_82 : decode mb_Mo_alarm 82 = .ok (.aload_n 0, 1) := by decide +kernel
theorem md_Mo_alarm_83 : decode mb_Mo_alarm 83 = .ok (.getfield 119, 3) := by decide +kernel
theorem md_Mo_alarm_86 : decode mb_Mo_alarm 86 = .ok (.iload_n 1, 1) := by decide +kernel
theorem md_Mo_alarm_87 : decode mb_Mo_alarm 87 = .ok (.iconst 0, 1) := by decide +kernel
theorem md_Mo_alarm_88 : decode mb_Mo_alarm 88 = .ok (.iastore, 1) := by decide +kernel
theorem md_Mo_alarm_89 : decode mb_Mo_alarm 89 = .ok (.aload_n 0, 1) := by decide +kernel
theorem md_Mo_alarm_90 : decode mb_Mo_alarm 90 = .ok (.getfield 35, 3) := by decide +kernel
theorem md_Mo_alarm_93 : decode mb_Mo_alarm 93 = .ok (.iconst 0, 1) := by decide +kernel
theorem md_Mo_alarm_94 : decode mb_Mo_alarm 94 = .ok (.aload_n 0, 1) := by decide +kernel
theorem md_Mo_alarm_95 : decode mb_Mo_alarm 95 = .ok (.getfield 146, 3) := by decide +kernel
theorem md_Mo_alarm_98 : decode mb_Mo_alarm 98 = .ok (.iconst 4, 1) := by decide +kernel
theorem md_Mo_alarm_99 : decode mb_Mo_alarm 99 = .ok (.iload_n 1, 1) := by decide +kernel
theorem md_Mo_alarm_100 : decode mb_Mo_alarm 100 = .ok (.imul, 1) := by decide +kernel
theorem md_Mo_alarm_101 : decode mb_Mo_alarm 101 = .ok (.iaload, 1) := by decide +kernel
theorem md_Mo_alarm_102 : decode mb_Mo_alarm 102 = .ok (.iastore, 1) := by decide +kernel
theorem md_Mo_alarm_103 : decode mb_Mo_alarm 103 = .ok (.aload_n 0, 1) := by decide +kernel
theorem md_Mo_alarm_104 : decode mb_Mo_alarm 104 = .ok (.getfield 35, 3) := by decide +kernel
theorem md_Mo_alarm_107 : decode mb_Mo_alarm 107 = .ok (.iconst 1, 1) := by decide +kernel
theorem md_Mo_alarm_108 : decode mb_Mo_alarm 108 = .ok (.aload_n 0, 1) := by decide +kernel
theorem md_Mo_alarm_109 : decode mb_Mo_alarm 109 = .ok (.getfield 149, 3) := by decide +kernel
theorem md_Mo_alarm_112 : decode mb_Mo_alarm 112 = .ok (.iconst 4, 1) := by decide +kernel
theorem md_Mo_alarm_113 : decode mb_Mo_alarm 113 = .ok (.iload_n 1, 1) := by decide +kernel
theorem md_Mo_alarm_114 : decode mb_Mo_alarm 114 = .ok (.imul, 1) := by decide +kernel
theorem md_Mo_alarm_115 : decode mb_Mo_alarm 115 = .ok (.iaload, 1) := by decide +kernel
theorem md_Mo_alarm_116 : decode mb_Mo_alarm 116 = .ok (.iastore, 1) := by decide +kernel
theorem md_Mo_alarm_117 : decode mb_Mo_alarm 117 = .ok (.aload_n 0, 1) := by decide +kernel
theorem md_Mo_alarm_118 : decode mb_Mo_alarm 118 = .ok (.iload_n 1, 1) := by decide +kernel
theorem md_Mo_alarm_119 : decode mb_Mo_alarm 119 = .ok (.bipush 14, 2) := by decide +kernel
theorem md_Mo_alarm_121 : decode mb_Mo_alarm 121 = .ok (.aload_n 0, 1) := by decide +kernel
theorem md_Mo_alarm_122 : decode mb_Mo_alarm 122 = .ok (.getfield 113, 3) := by decide +kernel
theorem md_Mo_alarm_125 : decode mb_Mo_alarm 125 = .ok (.iload_n 1, 1) := by decide +kernel
theorem md_Mo_alarm_126 : decode mb_Mo_alarm 126 = .ok (.iaload, 1) := by decide +kernel
theorem md_Mo_alarm_127 : decode mb_Mo_alarm 127 = .ok (.invokevirtual 238, 3) := by decide +kernel
theorem md_Mo_alarm_130 : decode mb_Mo_alarm 130 = .ok (.return_, 1) := by decide +kernel
abbrev mb_Mo_pulse : ByteArray := prog_11_method_41_code
def my_Mo_pulse : MethodName := ⟨R_Mo, "pulse", "(I)V"⟩
abbrev mrm_Mo_pulse : Room := { frames := 4, cells := 0, slots := 0, locals := 90 }
theorem mK_Mo_pulse : Cond.code my_Mo_pulse mb_Mo_pulse 5 none ∈ vTB := vTB_in 1093 (by decide +kernel) rfl
theorem mI_Mo_pulse : Cond.instanceMethod my_Mo_pulse ∈ vTB := vTB_in 1092 (by decide +kernel) rfl
theorem mS_Mo_pulse : Cond.selects R_Mo my_Mo_pulse my_Mo_pulse ∈ vTB := vTB_sel (q := (my_Mo_pulse, 57)) 60 (by decide +kernel)
theorem mw_Mo_pulse {R : Room} {s : State} {args : Array Value} {own : String} {index : Nat} (hts : ∀ w ∈ vTB, w.before args s = true) (hl : Cond.methodLink own index my_Mo_pulse ∈ vTB) (hR : mrm_Mo_pulse.frames + 1 ≤ R.frames ∧ 8 + (5 + 11) + mrm_Mo_pulse.locals ≤ R.locals) : CallW R s args own R_Mo index my_Mo_pulse mb_Mo_pulse 5 none (Cond.code my_Mo_pulse mb_Mo_pulse 5 none :: vTB) mrm_Mo_pulse 0 0 1 := cwV 1 hts (fw_gV vTB_good mK_Mo_pulse hl mI_Mo_pulse mS_Mo_pulse N_Mo) rfl rfl rfl (by decide +kernel) hR
theorem md_Mo_pulse_0 : decode mb_Mo_pulse 0 = .ok (.aload_n 0, 1) := by decide +kernel
theorem md_Mo_pulse_1 : decode mb_Mo_pulse 1 = .ok (.getfield 89, 3) := by decide +kernel
theorem md_Mo_pulse_4 : decode mb_Mo_pulse 4 = .ok (.iload_n 1, 1) := by decide +kernel
theorem md_Mo_pulse_5 : decode mb_Mo_pulse 5 = .ok (.iaload, 1) := by decide +kernel
theorem md_Mo_pulse_6 : decode mb_Mo_pulse 6 = .ok (.ifCond .ne 4, 3) := by decide +kernel
theorem md_Mo_pulse_9 : decode mb_Mo_pulse 9 = .ok (.return_, 1) := by decide +kernel
theorem md_Mo_pulse_10 : decode mb_Mo_pulse 10 = .ok (.aload_n 0, 1) := by decide +kernel
theorem md_Mo_pulse_11 : decode mb_Mo_pulse 11 = .ok (.getfield 101, 3) := by decide +kernel
theorem md_Mo_pulse_14 : decode mb_Mo_pulse 14 = .ok (.iload_n 1, 1) := by decide +kernel
theorem md_Mo_pulse_15 : decode mb_Mo_pulse 15 = .ok (.dup2, 1) := by decide +kernel
theorem md_Mo_pulse_16 : decode mb_Mo_pulse 16 = .ok (.iaload, 1) := by decide +kernel
theorem md_Mo_pulse_17 : decode mb_Mo_pulse 17 = .ok (.iconst 1, 1) := by decide +kernel
theorem md_Mo_pulse_18 : decode mb_Mo_pulse 18 = .ok (.iadd, 1) := by decide +kernel
theorem md_Mo_pulse_19 : decode mb_Mo_pulse 19 = .ok (.iastore, 1) := by decide +kernel
theorem md_Mo_pulse_20 : decode mb_Mo_pulse 20 = .ok (.aload_n 0, 1) := by decide +kernel
theorem md_Mo_pulse_21 : decode mb_Mo_pulse 21 = .ok (.getfield 89, 3) := by decide +kernel
theorem md_Mo_pulse_24 : decode mb_Mo_pulse 24 = .ok (.iload_n 1, 1) := by decide +kernel
theorem md_Mo_pulse_25 : decode mb_Mo_pulse 25 = .ok (.iaload, 1) := by decide +kernel
theorem md_Mo_pulse_26 : decode mb_Mo_pulse 26 = .ok (.iconst 1, 1) := by decide +kernel
theorem md_Mo_pulse_27 : decode mb_Mo_pulse 27 = .ok (.if_icmp .ne 22, 3) := by decide +kernel
theorem md_Mo_pulse_30 : decode mb_Mo_pulse 30 = .ok (.aload_n 0, 1) := by decide +kernel
theorem md_Mo_pulse_31 : decode mb_Mo_pulse 31 = .ok (.getfield 101, 3) := by decide +kernel
theorem md_Mo_pulse_34 : decode mb_Mo_pulse 34 = .ok (.iload_n 1, 1) := by decide +kernel
theorem md_Mo_pulse_35 : decode mb_Mo_pulse 35 = .ok (.iaload, 1) := by decide +kernel
theorem md_Mo_pulse_36 : decode mb_Mo_pulse 36 = .ok (.bipush 16, 2) := by decide +kernel
theorem md_Mo_pulse_38 : decode mb_Mo_pulse 38 = .ok (.if_icmp .ne 231, 3) := by decide +kernel
theorem md_Mo_pulse_41 : decode mb_Mo_pulse 41 = .ok (.aload_n 0, 1) := by decide +kernel
theorem md_Mo_pulse_42 : decode mb_Mo_pulse 42 = .ok (.iload_n 1, 1) := by decide +kernel
theorem md_Mo_pulse_43 : decode mb_Mo_pulse 43 = .ok (.invokevirtual 241, 3) := by decide +kernel
theorem md_Mo_pulse_46 : decode mb_Mo_pulse 46 = .ok (.goto 223, 3) := by decide +kernel
theorem md_Mo_pulse_49 : decode mb_Mo_pulse 49 = .ok (.aload_n 0, 1) := by decide +kernel
theorem md_Mo_pulse_50 : decode mb_Mo_pulse 50 = .ok (.getfield 89, 3) := by decide +kernel
theorem md_Mo_pulse_53 : decode mb_Mo_pulse 53 = .ok (.iload_n 1, 1) := by decide +kernel
theorem md_Mo_pulse_54 : decode mb_Mo_pulse 54 = .ok (.iaload, 1) := by decide +kernel
theorem md_Mo_pulse_55 : decode mb_Mo_pulse 55 = .ok (.iconst 2, 1) := by decide +kernel
theorem md_Mo_pulse_56 : decode mb_Mo_pulse 56 = .ok (.if_icmp .ne 55, 3) := by decide +kernel
theorem md_Mo_pulse_59 : decode mb_Mo_pulse 59 = .ok (.aload_n 0, 1) := by decide +kernel
theorem md_Mo_pulse_60 : decode mb_Mo_pulse 60 = .ok (.getfield 101, 3) := by decide +kernel
theorem md_Mo_pulse_63 : decode mb_Mo_pulse 63 = .ok (.iload_n 1, 1) := by decide +kernel
theorem md_Mo_pulse_64 : decode mb_Mo_pulse 64 = .ok (.iaload, 1) := by decide +kernel
theorem md_Mo_pulse_65 : decode mb_Mo_pulse 65 = .ok (.iconst 3, 1) := by decide +kernel
theorem md_Mo_pulse_66 : decode mb_Mo_pulse 66 = .ok (.if_icmp .ge 4, 3) := by decide +kernel
theorem md_Mo_pulse_69 : decode mb_Mo_pulse 69 = .ok (.return_, 1) := by decide +kernel
theorem md_Mo_pulse_70 : decode mb_Mo_pulse 70 = .ok (.aload_n 0, 1) := by decide +kernel
theorem md_Mo_pulse_71 : decode mb_Mo_pulse 71 = .ok (.getfield 104, 3) := by decide +kernel
theorem md_Mo_pulse_74 : decode mb_Mo_pulse 74 = .ok (.iload_n 1, 1) := by decide +kernel
theorem md_Mo_pulse_75 : decode mb_Mo_pulse 75 = .ok (.dup2, 1) := by decide +kernel
theorem md_Mo_pulse_76 : decode mb_Mo_pulse 76 = .ok (.iaload, 1) := by decide +kernel
theorem md_Mo_pulse_77 : decode mb_Mo_pulse 77 = .ok (.dup_x2, 1) := by decide +kernel
theorem md_Mo_pulse_78 : decode mb_Mo_pulse 78 = .ok (.iconst 1, 1) := by decide +kernel
theorem md_Mo_pulse_79 : decode mb_Mo_pulse 79 = .ok (.iadd, 1) := by decide +kernel
theorem md_Mo_pulse_80 : decode mb_Mo_pulse 80 = .ok (.iastore, 1) := by decide +kernel
theorem md_Mo_pulse_81 : decode mb_Mo_pulse 81 = .ok (.iconst 3, 1) := by decide +kernel
theorem md_Mo_pulse_82 : decode mb_Mo_pulse 82 = .ok (.if_icmp .ne 11, 3) := by decide +kernel
theorem md_Mo_pulse_85 : decode mb_Mo_pulse 85 = .ok (.aload_n 0, 1) := by decide +kernel
theorem md_Mo_pulse_86 : decode mb_Mo_pulse 86 = .ok (.iload_n 1, 1) := by decide +kernel
theorem md_Mo_pulse_87 : decode mb_Mo_pulse 87 = .ok (.invokevirtual 253, 3) := by decide +kernel
theorem md_Mo_pulse_90 : decode mb_Mo_pulse 90 = .ok (.goto 179, 3) := by decide +kernel
theorem md_Mo_pulse_93 : decode mb_Mo_pulse 93 = .ok (.aload_n 0, 1) := by decide +kernel
theorem md_Mo_pulse_94 : decode mb_Mo_pulse 94 = .ok (.getfield 101, 3) := by decide +kernel
theorem md_Mo_pulse_97 : decode mb_Mo_pulse 97 = .ok (.iload_n 1, 1) := by decide +kernel
theorem md_Mo_pulse_98 : decode mb_Mo_pulse 98 = .ok (.iconst 0, 1) := by decide +kernel
theorem md_Mo_pulse_99 : decode mb_Mo_pulse 99 = .ok (.iastore, 1) := by decide +kernel
theorem md_Mo_pulse_100 : decode mb_Mo_pulse 100 = .ok (.aload_n 0, 1) := by decide +kernel
theorem md_Mo_pulse_101 : decode mb_Mo_pulse 101 = .ok (.iload_n 1, 1) := by decide +kernel
theorem md_Mo_pulse_102 : decode mb_Mo_pulse 102 = .ok (.bipush 10, 2) := by decide +kernel
theorem md_Mo_pulse_104 : decode mb_Mo_pulse 104 = .ok (.iconst 0, 1) := by decide +kernel
theorem md_Mo_pulse_105 : decode mb_Mo_pulse 105 = .ok (.invokevirtual 238, 3) := by decide +kernel
theorem md_Mo_pulse_108 : decode mb_Mo_pulse 108 = .ok (.goto 161, 3) := by decide +kernel
theorem md_Mo_pulse_111 : decode mb_Mo_pulse 111 = .ok (.aload_n 0, 1) := by decide +kernel
theorem md_Mo_pulse_112 : decode mb_Mo_pulse 112 = .ok (.getfield 101, 3) := by decide +kernel
theorem md_Mo_pulse_115 : decode mb_Mo_pulse 115 = .ok (.iload_n 1, 1) := by decide +kernel
theorem md_Mo_pulse_116 : decode mb_Mo_pulse 116 = .ok (.iaload, 1) := by decide +kernel
theorem md_Mo_pulse_117 : decode mb_Mo_pulse 117 = .ok (.iconst 4, 1) := by decide +kernel
theorem md_Mo_pulse_118 : decode mb_Mo_pulse 118 = .ok (.if_icmp .ne 21, 3) := by decide +kernel
theorem md_Mo_pulse_121 : decode mb_Mo_pulse 121 = .ok (.aload_n 0, 1) := by decide +kernel
theorem md_Mo_pulse_122 : decode mb_Mo_pulse 122 = .ok (.dup, 1) := by decide +kernel
theorem md_Mo_pulse_123 : decode mb_Mo_pulse 123 = .ok (.getfield 235, 3) := by decide +kernel
theorem md_Mo_pulse_126 : decode mb_Mo_pulse 126 = .ok (.iconst 1, 1) := by decide +kernel
theorem md_Mo_pulse_127 : decode mb_Mo_pulse 127 = .ok (.iadd, 1) := by decide +kernel
theorem md_Mo_pulse_128 : decode mb_Mo_pulse 128 = .ok (.putfield 235, 3) := by decide +kernel
theorem md_Mo_pulse_131 : decode mb_Mo_pulse 131 = .ok (.aload_n 0, 1) := by decide +kernel
theorem md_Mo_pulse_132 : decode mb_Mo_pulse 132 = .ok (.iload_n 1, 1) := by decide +kernel
theorem md_Mo_pulse_133 : decode mb_Mo_pulse 133 = .ok (.invokevirtual 253, 3) := by decide +kernel
theorem md_Mo_pulse_136 : decode mb_Mo_pulse 136 = .ok (.goto 133, 3) := by decide +kernel
theorem md_Mo_pulse_139 : decode mb_Mo_pulse 139 = .ok (.aload_n 0, 1) := by decide +kernel
theorem md_Mo_pulse_140 : decode mb_Mo_pulse 140 = .ok (.iload_n 1, 1) := by decide +kernel
theorem md_Mo_pulse_141 : decode mb_Mo_pulse 141 = .ok (.invokevirtual 260, 3) := by decide +kernel
theorem md_Mo_pulse_144 : decode mb_Mo_pulse 144 = .ok (.iconst 0, 1) := by decide +kernel
theorem md_Mo_pulse_145 : decode mb_Mo_pulse 145 = .ok (.istore_n 2, 1) := by decide +kernel
theorem md_Mo_pulse_146 : decode mb_Mo_pulse 146 = .ok (.iconst 0, 1) := by decide +kernel
theorem md_Mo_pulse_147 : decode mb_Mo_pulse 147 = .ok (.istore_n 3, 1) := by decide +kernel
theorem md_Mo_pulse_148 : decode mb_Mo_pulse 148 = .ok (.iload_n 3, 1) := by decide +kernel
theorem md_Mo_pulse_149 : decode mb_Mo_pulse 149 = .ok (.bipush 6, 2) := by decide +kernel
theorem md_Mo_pulse_151 : decode mb_Mo_pulse 151 = .ok (.if_icmp .ge 79, 3) := by decide +kernel
theorem md_Mo_pulse_154 : decode mb_Mo_pulse 154 = .ok (.aload_n 0, 1) := by decide +kernel
theorem md_Mo_pulse_155 : decode mb_Mo_pulse 155 = .ok (.iload_n 1, 1) := by decide +kernel
theorem md_Mo_pulse_156 : decode mb_Mo_pulse 156 = .ok (.iload_n 3, 1) := by decide +kernel
theorem md_Mo_pulse_157 : decode mb_Mo_pulse 157 = .ok (.iconst 2, 1) := by decide +kernel
theorem md_Mo_pulse_158 : decode mb_Mo_pulse 158 = .ok (.idiv, 1) := by decide +kernel
theorem md_Mo_pulse_159 : decode mb_Mo_pulse 159 = .ok (.invokevirtual 250, 3) := by decide +kernel
theorem md_Mo_pulse_162 : decode mb_Mo_pulse 162 = .ok (.istore 4, 2) := by decide +kernel
theorem md_Mo_pulse_164 : decode mb_Mo_pulse 164 = .ok (.aload_n 0, 1) := by decide +kernel
theorem md_Mo_pulse_165 : decode mb_Mo_pulse 165 = .ok (.getfield 35, 3) := by decide +kernel
theorem md_Mo_pulse_168 : decode mb_Mo_pulse 168 = .ok (.iload_n 3, 1) := by decide +kernel
theorem md_Mo_pulse_169 : decode mb_Mo_pulse 169 = .ok (.iload 4, 2) := by decide +kernel
theorem md_Mo_pulse_171 : decode mb_Mo_pulse 171 = .ok (.ifCond .eq 34, 3) := by decide +kernel
theorem md_Mo_pulse_174 : decode mb_Mo_pulse 174 = .ok (.iload_n 3, 1) := by decide +kernel
theorem md_Mo_pulse_175 : decode mb_Mo_pulse 175 = .ok (.iconst 2, 1) := by decide +kernel
theorem md_Mo_pulse_176 : decode mb_Mo_pulse 176 = .ok (.irem, 1) := by decide +kernel
theorem md_Mo_pulse_177 : decode mb_Mo_pulse 177 = .ok (.aload_n 0, 1) := by decide +kernel
theorem md_Mo_pulse_178 : decode mb_Mo_pulse 178 = .ok (.iconst 3, 1) := by decide +kernel
theorem md_Mo_pulse_179 : decode mb_Mo_pulse 179 = .ok (.iload_n 1, 1) := by decide +kernel
theorem md_Mo_pulse_180 : decode mb_Mo_pulse 180 = .ok (.imul, 1) := by decide +kernel
theorem md_Mo_pulse_181 : decode mb_Mo_pulse 181 = .ok (.iload_n 3, 1) := by decide +kernel
theorem md_Mo_pulse_182 : decode mb_Mo_pulse 182 = .ok (.iconst 2, 1) := by decide +kernel
theorem md_Mo_pulse_183 : decode mb_Mo_pulse 183 = .ok (.idiv, 1) := by decide +kernel
theorem md_Mo_pulse_184 : decode mb_Mo_pulse 184 = .ok (.iadd, 1) := by decide +kernel
theorem md_Mo_pulse_185 : decode mb_Mo_pulse 185 = .ok (.invokevirtual 263, 3) := by decide +kernel
theorem md_Mo_pulse_188 : decode mb_Mo_pulse 188 = .ok (.if_icmp .ge 17, 3) := by decide +kernel
theorem md_Mo_pulse_191 : decode mb_Mo_pulse 191 = .ok (.aload_n 0, 1) := by decide +kernel
theorem md_Mo_pulse_192 : decode mb_Mo_pulse 192 = .ok (.getfield 140, 3) := by decide +kernel
theorem md_Mo_pulse_195 : decode mb_Mo_pulse 195 = .ok (.bipush 6, 2) := by decide +kernel
theorem md_Mo_pulse_197 : decode mb_Mo_pulse 197 = .ok (.iload_n 1, 1) := by decide +kernel
theorem md_Mo_pulse_198 : decode mb_Mo_pulse 198 = .ok (.imul, 1) := by decide +kernel
theorem md_Mo_pulse_199 : decode mb_Mo_pulse 199 = .ok (.iload_n 3, 1) := by decide +kernel
theorem md_Mo_pulse_200 : decode mb_Mo_pulse 200 = .ok (.iadd, 1) := by decide +kernel
theorem md_Mo_pulse_201 : decode mb_Mo_pulse 201 = .ok (.iaload, 1) := by decide +kernel
theorem md_Mo_pulse_202 : decode mb_Mo_pulse 202 = .ok (.goto 4, 3) := by decide +kernel
theorem md_Mo_pulse_205 : decode mb_Mo_pulse 205 = .ok (.iconst 0, 1) := by decide +kernel
theorem md_Mo_pulse_206 : decode mb_Mo_pulse 206 = .ok (.iastore, 1) := by decide +kernel
theorem md_Mo_pulse_207 : decode mb_Mo_pulse 207 = .ok (.iload_n 2, 1) := by decide +kernel
theorem md_Mo_pulse_208 : decode mb_Mo_pulse 208 = .ok (.iload 4, 2) := by decide +kernel
theorem md_Mo_pulse_210 : decode mb_Mo_pulse 210 = .ok (.ifCond .eq 11, 3) := by decide +kernel
theorem md_Mo_pulse_213 : decode mb_Mo_pulse 213 = .ok (.iconst 1, 1) := by decide +kernel
theorem md_Mo_pulse_214 : decode mb_Mo_pulse 214 = .ok (.iload_n 3, 1) := by decide +kernel
theorem md_Mo_pulse_215 : decode mb_Mo_pulse 215 = .ok (.iconst 2, 1) := by decide +kernel
theorem md_Mo_pulse_216 : decode mb_Mo_pulse 216 = .ok (.idiv, 1) := by decide +kernel
theorem md_Mo_pulse_217 : decode mb_Mo_pulse 217 = .ok (.ishl, 1) := by decide +kernel
theorem md_Mo_pulse_218 : decode mb_Mo_pulse 218 = .ok (.goto 4, 3) := by decide +kernel
theorem md_Mo_pulse_221 : decode mb_Mo_pulse 221 = .ok (.iconst 0, 1) := by decide +kernel
theorem md_Mo_pulse_222 : decode mb_Mo_pulse 222 = .ok (.ior, 1) := by decide +kernel
theorem md_Mo_pulse_223 : decode mb_Mo_pulse 223 = .ok (.istore_n 2, 1) := by decide +kernel
theorem md_Mo_pulse_224 : decode mb_Mo_pulse 224 = .ok (.iinc 3 1, 3) := by decide +kernel
theorem md_Mo_pulse_227 : decode mb_Mo_pulse 227 = .ok (.goto (-79), 3) := by decide +kernel
theorem md_Mo_pulse_230 : decode mb_Mo_pulse 230 = .ok (.aload_n 0, 1) := by decide +kernel
theorem md_Mo_pulse_231 : decode mb_Mo_pulse 231 = .ok (.getfield 35, 3) := by decide +kernel
theorem md_Mo_pulse_234 : decode mb_Mo_pulse 234 = .ok (.bipush 6, 2) := by decide +kernel
theorem md_Mo_pulse_236 : decode mb_Mo_pulse 236 = .ok (.iload_n 2, 1) := by decide +kernel
theorem md_Mo_pulse_237 : decode mb_Mo_pulse 237 = .ok (.iastore, 1) := by decide +kernel
theorem md_Mo_pulse_238 : decode mb_Mo_pulse 238 = .ok (.aload_n 0, 1) := by decide +kernel
theorem md_Mo_pulse_239 : decode mb_Mo_pulse 239 = .ok (.iload_n 1, 1) := by decide +kernel
theorem md_Mo_pulse_240 : decode mb_Mo_pulse 240 = .ok (.bipush 13, 2) := by decide +kernel
theorem md_Mo_pulse_242 : decode mb_Mo_pulse 242 = .ok (.aload_n 0, 1) := by decide +kernel
theorem md_Mo_pulse_243 : decode mb_Mo_pulse 243 = .ok (.getfield 107, 3) := by decide +kernel
theorem md_Mo_pulse_246 : decode mb_Mo_pulse 246 = .ok (.iload_n 1, 1) := by decide +kernel
theorem md_Mo_pulse_247 : decode mb_Mo_pulse 247 = .ok (.iaload, 1) := by decide +kernel
theorem md_Mo_pulse_248 : decode mb_Mo_pulse 248 = .ok (.invokevirtual 238, 3) := by decide +kernel
theorem md_Mo_pulse_251 : decode mb_Mo_pulse 251 = .ok (.aload_n 0, 1) := by decide +kernel
theorem md_Mo_pulse_252 : decode mb_Mo_pulse 252 = .ok (.getfield 107, 3) := by decide +kernel
theorem md_Mo_pulse_255 : decode mb_Mo_pulse 255 = .ok (.iload_n 1, 1) := by decide +kernel
theorem md_Mo_pulse_256 : decode mb_Mo_pulse 256 = .ok (.aload_n 0, 1) := by decide +kernel
theorem md_Mo_pulse_257 : decode mb_Mo_pulse 257 = .ok (.getfield 107, 3) := by decide +kernel
theorem md_Mo_pulse_260 : decode mb_Mo_pulse 260 = .ok (.iload_n 1, 1) := by decide +kernel
theorem md_Mo_pulse_261 : decode mb_Mo_pulse 261 = .ok (.iaload, 1) := by decide +kernel
theorem md_Mo_pulse_262 : decode mb_Mo_pulse 262 = .ok (.iconst 1, 1) := by decide +kernel
theorem md_Mo_pulse_263 : decode mb_Mo_pulse 263 = .ok (.iadd, 1) := by decide +kernel
theorem md_Mo_pulse_264 : decode mb_Mo_pulse 264 = .ok (.sipush 255, 3) := by decide +kernel
theorem md_Mo_pulse_267 : decode mb_Mo_pulse 267 = .ok (.iand, 1) := by decide +kernel
theorem md_Mo_pulse_268 : decode mb_Mo_pulse 268 = .ok (.iastore, 1) := by decide +kernel
theorem md_Mo_pulse_269 : decode mb_Mo_pulse 269 = .ok (.return_, 1) := by decide +kernel
abbrev mb_Mo_tick : ByteArray := prog_11_method_43_code
def my_Mo_tick : MethodName := ⟨R_Mo, "tick", "(I)I"⟩
abbrev mrm_Mo_tick : Room := { frames := 5, cells := 0, slots := 0, locals := 114 }
theorem mK_Mo_tick : Cond.code my_Mo_tick mb_Mo_tick 3 (some .int) ∈ vTB := vTB_in 1085 (by decide +kernel) rfl
theorem mI_Mo_tick : Cond.instanceMethod my_Mo_tick ∈ vTB := vTB_in 1083 (by decide +kernel) rfl
theorem mS_Mo_tick : Cond.selects R_Mo my_Mo_tick my_Mo_tick ∈ vTB := vTB_in 1084 (by decide +kernel) rfl
theorem mw_Mo_tick {R : Room} {s : State} {args : Array Value} {own : String} {index : Nat} (hts : ∀ w ∈ vTB, w.before args s = true) (hl : Cond.methodLink own index my_Mo_tick ∈ vTB) (hR : mrm_Mo_tick.frames + 1 ≤ R.frames ∧ 8 + (3 + 11) + mrm_Mo_tick.locals ≤ R.locals) : CallW R s args own R_Mo index my_Mo_tick mb_Mo_tick 3 (some .int) (Cond.code my_Mo_tick mb_Mo_tick 3 (some .int) :: vTB) mrm_Mo_tick 0 0 1 := cwV 1 hts (fw_gV vTB_good mK_Mo_tick hl mI_Mo_tick mS_Mo_tick N_Mo) rfl rfl rfl (by decide +kernel) hR
theorem md_Mo_tick_0 : decode mb_Mo_tick 0 = .ok (.iload_n 1, 1) := by decide +kernel
theorem md_Mo_tick_1 : decode mb_Mo_tick 1 = .ok (.iconst 1, 1) := by decide +kernel
theorem md_Mo_tick_2 : decode mb_Mo_tick 2 = .ok (.bipush 8, 2) := by decide +kernel
theorem md_Mo_tick_4 : decode mb_Mo_tick 4 = .ok (.invokestatic 155, 3) := by decide +kernel
theorem md_Mo_tick_7 : decode mb_Mo_tick 7 = .ok (.ifCond .ne 5, 3) := by decide +kernel
theorem md_Mo_tick_10 : decode mb_Mo_tick 10 = .ok (.iconst (-1), 1) := by decide +kernel
theorem md_Mo_tick_11 : decode mb_Mo_tick 11 = .ok (.ireturn, 1) := by decide +kernel
theorem md_Mo_tick_12 : decode mb_Mo_tick 12 = .ok (.iconst 0, 1) := by decide +kernel
theorem md_Mo_tick_13 : decode mb_Mo_tick 13 = .ok (.istore_n 2, 1) := by decide +kernel
theorem md_Mo_tick_14 : decode mb_Mo_tick 14 = .ok (.iload_n 2, 1) := by decide +kernel
theorem md_Mo_tick_15 : decode mb_Mo_tick 15 = .ok (.iload_n 1, 1) := by decide +kernel
theorem md_Mo_tick_16 : decode mb_Mo_tick 16 = .ok (.if_icmp .ge 39, 3) := by decide +kernel
theorem md_Mo_tick_19 : decode mb_Mo_tick 19 = .ok (.aload_n 0, 1) := by decide +kernel
theorem md_Mo_tick_20 : decode mb_Mo_tick 20 = .ok (.dup, 1) := by decide +kernel
theorem md_Mo_tick_21 : decode mb_Mo_tick 21 = .ok (.getfield 266, 3) := by decide +kernel
theorem md_Mo_tick_24 : decode mb_Mo_tick 24 = .ok (.iconst 1, 1) := by decide +kernel
theorem md_Mo_tick_25 : decode mb_Mo_tick 25 = .ok (.iadd, 1) := by decide +kernel
theorem md_Mo_tick_26 : decode mb_Mo_tick 26 = .ok (.putfield 266, 3) := by decide +kernel
theorem md_Mo_tick_29 : decode mb_Mo_tick 29 = .ok (.aload_n 0, 1) := by decide +kernel
theorem md_Mo_tick_30 : decode mb_Mo_tick 30 = .ok (.iconst 0, 1) := by decide +kernel
theorem md_Mo_tick_31 : decode mb_Mo_tick 31 = .ok (.invokevirtual 269, 3) := by decide +kernel
theorem md_Mo_tick_34 : decode mb_Mo_tick 34 = .ok (.aload_n 0, 1) := by decide +kernel
theorem md_Mo_tick_35 : decode mb_Mo_tick 35 = .ok (.iconst 1, 1) := by decide +kernel
theorem md_Mo_tick_36 : decode mb_Mo_tick 36 = .ok (.invokevirtual 269, 3) := by decide +kernel
theorem md_Mo_tick_39 : decode mb_Mo_tick 39 = .ok (.aload_n 0, 1) := by decide +kernel
theorem md_Mo_tick_40 : decode mb_Mo_tick 40 = .ok (.iconst 0, 1) := by decide +kernel
theorem md_Mo_tick_41 : decode mb_Mo_tick 41 = .ok (.invokevirtual 272, 3) := by decide +kernel
theorem md_Mo_tick_44 : decode mb_Mo_tick 44 = .ok (.aload_n 0, 1) := by decide +kernel
theorem md_Mo_tick_45 : decode mb_Mo_tick 45 = .ok (.iconst 1, 1) := by decide +kernel
theorem md_Mo_tick_46 : decode mb_Mo_tick 46 = .ok (.invokevirtual 272, 3) := by decide +kernel
theorem md_Mo_tick_49 : decode mb_Mo_tick 49 = .ok (.iinc 2 1, 3) := by decide +kernel
theorem md_Mo_tick_52 : decode mb_Mo_tick 52 = .ok (.goto (-38), 3) := by decide +kernel
theorem md_Mo_tick_55 : decode mb_Mo_tick 55 = .ok (.aload_n 0, 1) := by decide +kernel
theorem md_Mo_tick_56 : decode mb_Mo_tick 56 = .ok (.getfield 170, 3) := by decide +kernel
theorem md_Mo_tick_59 : decode mb_Mo_tick 59 = .ok (.ireturn, 1) := by decide +kernel
abbrev mb_Mo_frame : ByteArray := prog_11_method_44_code
def my_Mo_frame : MethodName := ⟨R_Mo, "frame", "(II)I"⟩
abbrev mrm_Mo_frame : Room := { frames := 1, cells := 0, slots := 0, locals := 22 }
theorem mK_Mo_frame : Cond.code my_Mo_frame mb_Mo_frame 3 (some .int) ∈ vTB := vTB_in 1105 (by decide +kernel) rfl
theorem mI_Mo_frame : Cond.instanceMethod my_Mo_frame ∈ vTB := vTB_in 1103 (by decide +kernel) rfl
theorem mS_Mo_frame : Cond.selects R_Mo my_Mo_frame my_Mo_frame ∈ vTB := vTB_in 1104 (by decide +kernel) rfl
theorem mw_Mo_frame {R : Room} {s : State} {args : Array Value} {own : String} {index : Nat} (hts : ∀ w ∈ vTB, w.before args s = true) (hl : Cond.methodLink own index my_Mo_frame ∈ vTB) (hR : mrm_Mo_frame.frames + 1 ≤ R.frames ∧ 8 + (3 + 11) + mrm_Mo_frame.locals ≤ R.locals) : CallW R s args own R_Mo index my_Mo_frame mb_Mo_frame 3 (some .int) (Cond.code my_Mo_frame mb_Mo_frame 3 (some .int) :: vTB) mrm_Mo_frame 0 0 2 := cwV 2 hts (fw_gV vTB_good mK_Mo_frame hl mI_Mo_frame mS_Mo_frame N_Mo) rfl rfl rfl (by decide +kernel) hR
theorem md_Mo_frame_0 : decode mb_Mo_frame 0 = .ok (.iload_n 1, 1) := by decide +kernel
theorem md_Mo_frame_1 : decode mb_Mo_frame 1 = .ok (.iconst 0, 1) := by decide +kernel
theorem md_Mo_frame_2 : decode mb_Mo_frame 2 = .ok (.aload_n 0, 1) := by decide +kernel
theorem md_Mo_frame_3 : decode mb_Mo_frame 3 = .ok (.getfield 170, 3) := by decide +kernel
theorem md_Mo_frame_6 : decode mb_Mo_frame 6 = .ok (.iconst 1, 1) := by decide +kernel
theorem md_Mo_frame_7 : decode mb_Mo_frame 7 = .ok (.isub, 1) := by decide +kernel
theorem md_Mo_frame_8 : decode mb_Mo_frame 8 = .ok (.invokestatic 155, 3) := by decide +kernel
theorem md_Mo_frame_11 : decode mb_Mo_frame 11 = .ok (.ifCond .ne 6, 3) := by decide +kernel
theorem md_Mo_frame_14 : decode mb_Mo_frame 14 = .ok (.bipush (-2), 2) := by decide +kernel
theorem md_Mo_frame_16 : decode mb_Mo_frame 16 = .ok (.ireturn, 1) := by decide +kernel
theorem md_Mo_frame_17 : decode mb_Mo_frame 17 = .ok (.iload_n 2, 1) := by decide +kernel
theorem md_Mo_frame_18 : decode mb_Mo_frame 18 = .ok (.iconst 0, 1) := by decide +kernel
theorem md_Mo_frame_19 : decode mb_Mo_frame 19 = .ok (.bipush 10, 2) := by decide +kernel
theorem md_Mo_frame_21 : decode mb_Mo_frame 21 = .ok (.invokestatic 155, 3) := by decide +kernel
theorem md_Mo_frame_24 : decode mb_Mo_frame 24 = .ok (.ifCond .ne 5, 3) := by decide +kernel
theorem md_Mo_frame_27 : decode mb_Mo_frame 27 = .ok (.iconst (-1), 1) := by decide +kernel
theorem md_Mo_frame_28 : decode mb_Mo_frame 28 = .ok (.ireturn, 1) := by decide +kernel
theorem md_Mo_frame_29 : decode mb_Mo_frame 29 = .ok (.iload_n 2, 1) := by decide +kernel
theorem md_Mo_frame_30 : decode mb_Mo_frame 30 = .ok (.ifCond .ne 12, 3) := by decide +kernel
theorem md_Mo_frame_33 : decode mb_Mo_frame 33 = .ok (.aload_n 0, 1) := by decide +kernel
theorem md_Mo_frame_34 : decode mb_Mo_frame 34 = .ok (.getfield 20, 3) := by decide +kernel
theorem md_Mo_frame_37 : decode mb_Mo_frame 37 = .ok (.iload_n 1, 1) := by decide +kernel
theorem md_Mo_frame_38 : decode mb_Mo_frame 38 = .ok (.iaload, 1) := by decide +kernel
theorem md_Mo_frame_39 : decode mb_Mo_frame 39 = .ok (.goto 58, 3) := by decide +kernel
theorem md_Mo_frame_42 : decode mb_Mo_frame 42 = .ok (.iload_n 2, 1) := by decide +kernel
theorem md_Mo_frame_43 : decode mb_Mo_frame 43 = .ok (.iconst 1, 1) := by decide +kernel
theorem md_Mo_frame_44 : decode mb_Mo_frame 44 = .ok (.if_icmp .ne 12, 3) := by decide +kernel
theorem md_Mo_frame_47 : decode mb_Mo_frame 47 = .ok (.aload_n 0, 1) := by decide +kernel
theorem md_Mo_frame_48 : decode mb_Mo_frame 48 = .ok (.getfield 23, 3) := by decide +kernel
theorem md_Mo_frame_51 : decode mb_Mo_frame 51 = .ok (.iload_n 1, 1) := by decide +kernel
theorem md_Mo_frame_52 : decode mb_Mo_frame 52 = .ok (.iaload, 1) := by decide +kernel
theorem md_Mo_frame_53 : decode mb_Mo_frame 53 = .ok (.goto 44, 3) := by decide +kernel
theorem md_Mo_frame_56 : decode mb_Mo_frame 56 = .ok (.iload_n 2, 1) := by decide +kernel
theorem md_Mo_frame_57 : decode mb_Mo_frame 57 = .ok (.iconst 2, 1) := by decide +kernel
theorem md_Mo_frame_58 : decode mb_Mo_frame 58 = .ok (.if_icmp .ne 12, 3) := by decide +kernel
theorem md_Mo_frame_61 : decode mb_Mo_frame 61 = .ok (.aload_n 0, 1) := by decide +kernel
theorem md_Mo_frame_62 : decode mb_Mo_frame 62 = .ok (.getfield 26, 3) := by decide +kernel
theorem md_Mo_frame_65 : decode mb_Mo_frame 65 = .ok (.iload_n 1, 1) := by decide +kernel
theorem md_Mo_frame_66 : decode mb_Mo_frame 66 = .ok (.iaload, 1) := by decide +kernel
theorem md_Mo_frame_67 : decode mb_Mo_frame 67 = .ok (.goto 30, 3) := by decide +kernel
theorem md_Mo_frame_70 : decode mb_Mo_frame 70 = .ok (.iload_n 2, 1) := by decide +kernel
theorem md_Mo_frame_71 : decode mb_Mo_frame 71 = .ok (.iconst 3, 1) := by decide +kernel
theorem md_Mo_frame_72 : decode mb_Mo_frame 72 = .ok (.if_icmp .ne 12, 3) := by decide +kernel
theorem md_Mo_frame_75 : decode mb_Mo_frame 75 = .ok (.aload_n 0, 1) := by decide +kernel
theorem md_Mo_frame_76 : decode mb_Mo_frame 76 = .ok (.getfield 29, 3) := by decide +kernel
theorem md_Mo_frame_79 : decode mb_Mo_frame 79 = .ok (.iload_n 1, 1) := by decide +kernel
theorem md_Mo_frame_80 : decode mb_Mo_frame 80 = .ok (.iaload, 1) := by decide +kernel
theorem md_Mo_frame_81 : decode mb_Mo_frame 81 = .ok (.goto 16, 3) := by decide +kernel
theorem md_Mo_frame_84 : decode mb_Mo_frame 84 = .ok (.aload_n 0, 1) := by decide +kernel
theorem md_Mo_frame_85 : decode mb_Mo_frame 85 = .ok (.getfield 32, 3) := by decide +kernel
theorem md_Mo_frame_88 : decode mb_Mo_frame 88 = .ok (.bipush 7, 2) := by decide +kernel
theorem md_Mo_frame_90 : decode mb_Mo_frame 90 = .ok (.iload_n 1, 1) := by decide +kernel
theorem md_Mo_frame_91 : decode mb_Mo_frame 91 = .ok (.imul, 1) := by decide +kernel
theorem md_Mo_frame_92 : decode mb_Mo_frame 92 = .ok (.iload_n 2, 1) := by decide +kernel
theorem md_Mo_frame_93 : decode mb_Mo_frame 93 = .ok (.iadd, 1) := by decide +kernel
theorem md_Mo_frame_94 : decode mb_Mo_frame 94 = .ok (.iconst 4, 1) := by decide +kernel
theorem md_Mo_frame_95 : decode mb_Mo_frame 95 = .ok (.isub, 1) := by decide +kernel
theorem md_Mo_frame_96 : decode mb_Mo_frame 96 = .ok (.iaload, 1) := by decide +kernel
theorem md_Mo_frame_97 : decode mb_Mo_frame 97 = .ok (.ireturn, 1) := by decide +kernel
