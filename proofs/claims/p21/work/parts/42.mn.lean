abbrev mb_Mo_remove : ByteArray := prog_11_method_15_code
def my_Mo_remove : MethodName := ⟨R_Mo, "remove", "(I)V"⟩
abbrev mrm_Mo_remove : Room := { frames := 1, cells := 0, slots := 0, locals := 23 }
theorem mK_Mo_remove : Cond.code my_Mo_remove mb_Mo_remove 3 none ∈ vTB := vTB_in 985 (by decide +kernel) rfl
theorem mI_Mo_remove : Cond.instanceMethod my_Mo_remove ∈ vTB := vTB_in 984 (by decide +kernel) rfl
theorem mS_Mo_remove : Cond.selects R_Mo my_Mo_remove my_Mo_remove ∈ vTB := vTB_sel (q := (my_Mo_remove, 57)) 39 (by decide +kernel)
theorem mw_Mo_remove {R : Room} {s : State} {args : Array Value} {own : String} {index : Nat} (hts : ∀ w ∈ vTB, w.before args s = true) (hl : Cond.methodLink own index my_Mo_remove ∈ vTB) (hR : mrm_Mo_remove.frames + 1 ≤ R.frames ∧ 8 + (3 + 11) + mrm_Mo_remove.locals ≤ R.locals) : CallW R s args own R_Mo index my_Mo_remove mb_Mo_remove 3 none (Cond.code my_Mo_remove mb_Mo_remove 3 none :: vTB) mrm_Mo_remove 0 0 1 := cwV 1 hts (fw_gV vTB_good mK_Mo_remove hl mI_Mo_remove mS_Mo_remove N_Mo) rfl rfl rfl (by decide +kernel) hR
theorem md_Mo_remove_0 : decode mb_Mo_remove 0 = .ok (.aload_n 0, 1) := by decide +kernel
theorem md_Mo_remove_1 : decode mb_Mo_remove 1 = .ok (.dup, 1) := by decide +kernel
theorem md_Mo_remove_2 : decode mb_Mo_remove 2 = .ok (.getfield 170, 3) := by decide +kernel
theorem md_Mo_remove_5 : decode mb_Mo_remove 5 = .ok (.iconst 1, 1) := by decide +kernel
theorem md_Mo_remove_6 : decode mb_Mo_remove 6 = .ok (.isub, 1) := by decide +kernel
theorem md_Mo_remove_7 : decode mb_Mo_remove 7 = .ok (.putfield 170, 3) := by decide +kernel
theorem md_Mo_remove_10 : decode mb_Mo_remove 10 = .ok (.iload_n 1, 1) := by decide +kernel
theorem md_Mo_remove_11 : decode mb_Mo_remove 11 = .ok (.istore_n 2, 1) := by decide +kernel
theorem md_Mo_remove_12 : decode mb_Mo_remove 12 = .ok (.iload_n 2, 1) := by decide +kernel
theorem md_Mo_remove_13 : decode mb_Mo_remove 13 = .ok (.aload_n 0, 1) := by decide +kernel
theorem md_Mo_remove_14 : decode mb_Mo_remove 14 = .ok (.getfield 170, 3) := by decide +kernel
theorem md_Mo_remove_17 : decode mb_Mo_remove 17 = .ok (.if_icmp .ge 17, 3) := by decide +kernel
theorem md_Mo_remove_20 : decode mb_Mo_remove 20 = .ok (.aload_n 0, 1) := by decide +kernel
theorem md_Mo_remove_21 : decode mb_Mo_remove 21 = .ok (.iload_n 2, 1) := by decide +kernel
theorem md_Mo_remove_22 : decode mb_Mo_remove 22 = .ok (.iconst 1, 1) := by decide +kernel
theorem md_Mo_remove_23 : decode mb_Mo_remove 23 = .ok (.iadd, 1) := by decide +kernel
theorem md_Mo_remove_24 : decode mb_Mo_remove 24 = .ok (.iload_n 2, 1) := by decide +kernel
theorem md_Mo_remove_25 : decode mb_Mo_remove 25 = .ok (.invokevirtual 179, 3) := by decide +kernel
theorem md_Mo_remove_28 : decode mb_Mo_remove 28 = .ok (.iinc 2 1, 3) := by decide +kernel
theorem md_Mo_remove_31 : decode mb_Mo_remove 31 = .ok (.goto (-19), 3) := by decide +kernel
theorem md_Mo_remove_34 : decode mb_Mo_remove 34 = .ok (.return_, 1) := by decide +kernel
abbrev mb_Mo_lose : ByteArray := prog_11_method_17_code
def my_Mo_lose : MethodName := ⟨R_Mo, "lose", "(I)I"⟩
abbrev mrm_Mo_lose : Room := { frames := 2, cells := 0, slots := 0, locals := 45 }
theorem mK_Mo_lose : Cond.code my_Mo_lose mb_Mo_lose 2 (some .int) ∈ vTB := vTB_in 981 (by decide +kernel) rfl
theorem mI_Mo_lose : Cond.instanceMethod my_Mo_lose ∈ vTB := vTB_in 979 (by decide +kernel) rfl
theorem mS_Mo_lose : Cond.selects R_Mo my_Mo_lose my_Mo_lose ∈ vTB := vTB_in 980 (by decide +kernel) rfl
theorem mw_Mo_lose {R : Room} {s : State} {args : Array Value} {own : String} {index : Nat} (hts : ∀ w ∈ vTB, w.before args s = true) (hl : Cond.methodLink own index my_Mo_lose ∈ vTB) (hR : mrm_Mo_lose.frames + 1 ≤ R.frames ∧ 8 + (2 + 11) + mrm_Mo_lose.locals ≤ R.locals) : CallW R s args own R_Mo index my_Mo_lose mb_Mo_lose 2 (some .int) (Cond.code my_Mo_lose mb_Mo_lose 2 (some .int) :: vTB) mrm_Mo_lose 0 0 1 := cwV 1 hts (fw_gV vTB_good mK_Mo_lose hl mI_Mo_lose mS_Mo_lose N_Mo) rfl rfl rfl (by decide +kernel) hR
theorem md_Mo_lose_0 : decode mb_Mo_lose 0 = .ok (.iload_n 1, 1) := by decide +kernel
theorem md_Mo_lose_1 : decode mb_Mo_lose 1 = .ok (.iconst 0, 1) := by decide +kernel
theorem md_Mo_lose_2 : decode mb_Mo_lose 2 = .ok (.aload_n 0, 1) := by decide +kernel
theorem md_Mo_lose_3 : decode mb_Mo_lose 3 = .ok (.getfield 170, 3) := by decide +kernel
theorem md_Mo_lose_6 : decode mb_Mo_lose 6 = .ok (.iconst 1, 1) := by decide +kernel
theorem md_Mo_lose_7 : decode mb_Mo_lose 7 = .ok (.isub, 1) := by decide +kernel
theorem md_Mo_lose_8 : decode mb_Mo_lose 8 = .ok (.invokestatic 155, 3) := by decide +kernel
theorem md_Mo_lose_11 : decode mb_Mo_lose 11 = .ok (.ifCond .ne 6, 3) := by decide +kernel
theorem md_Mo_lose_14 : decode mb_Mo_lose 14 = .ok (.bipush (-2), 2) := by decide +kernel
theorem md_Mo_lose_16 : decode mb_Mo_lose 16 = .ok (.ireturn, 1) := by decide +kernel
theorem md_Mo_lose_17 : decode mb_Mo_lose 17 = .ok (.aload_n 0, 1) := by decide +kernel
theorem md_Mo_lose_18 : decode mb_Mo_lose 18 = .ok (.iload_n 1, 1) := by decide +kernel
theorem md_Mo_lose_19 : decode mb_Mo_lose 19 = .ok (.invokevirtual 182, 3) := by decide +kernel
theorem md_Mo_lose_22 : decode mb_Mo_lose 22 = .ok (.aload_n 0, 1) := by decide +kernel
theorem md_Mo_lose_23 : decode mb_Mo_lose 23 = .ok (.getfield 170, 3) := by decide +kernel
theorem md_Mo_lose_26 : decode mb_Mo_lose 26 = .ok (.ireturn, 1) := by decide +kernel
abbrev mb_Mo_repeat : ByteArray := prog_11_method_18_code
def my_Mo_repeat : MethodName := ⟨R_Mo, "repeat", "(I)I"⟩
abbrev mrm_Mo_repeat : Room := { frames := 1, cells := 0, slots := 0, locals := 23 }
theorem mK_Mo_repeat : Cond.code my_Mo_repeat mb_Mo_repeat 2 (some .int) ∈ vTB := vTB_in 993 (by decide +kernel) rfl
theorem mI_Mo_repeat : Cond.instanceMethod my_Mo_repeat ∈ vTB := vTB_in 991 (by decide +kernel) rfl
theorem mS_Mo_repeat : Cond.selects R_Mo my_Mo_repeat my_Mo_repeat ∈ vTB := vTB_in 992 (by decide +kernel) rfl
theorem mw_Mo_repeat {R : Room} {s : State} {args : Array Value} {own : String} {index : Nat} (hts : ∀ w ∈ vTB, w.before args s = true) (hl : Cond.methodLink own index my_Mo_repeat ∈ vTB) (hR : mrm_Mo_repeat.frames + 1 ≤ R.frames ∧ 8 + (2 + 11) + mrm_Mo_repeat.locals ≤ R.locals) : CallW R s args own R_Mo index my_Mo_repeat mb_Mo_repeat 2 (some .int) (Cond.code my_Mo_repeat mb_Mo_repeat 2 (some .int) :: vTB) mrm_Mo_repeat 0 0 1 := cwV 1 hts (fw_gV vTB_good mK_Mo_repeat hl mI_Mo_repeat mS_Mo_repeat N_Mo) rfl rfl rfl (by decide +kernel) hR
theorem md_Mo_repeat_0 : decode mb_Mo_repeat 0 = .ok (.iload_n 1, 1) := by decide +kernel
theorem md_Mo_repeat_1 : decode mb_Mo_repeat 1 = .ok (.iconst 0, 1) := by decide +kernel
theorem md_Mo_repeat_2 : decode mb_Mo_repeat 2 = .ok (.aload_n 0, 1) := by decide +kernel
theorem md_Mo_repeat_3 : decode mb_Mo_repeat 3 = .ok (.getfield 170, 3) := by decide +kernel
theorem md_Mo_repeat_6 : decode mb_Mo_repeat 6 = .ok (.iconst 1, 1) := by decide +kernel
theorem md_Mo_repeat_7 : decode mb_Mo_repeat 7 = .ok (.isub, 1) := by decide +kernel
theorem md_Mo_repeat_8 : decode mb_Mo_repeat 8 = .ok (.invokestatic 155, 3) := by decide +kernel
theorem md_Mo_repeat_11 : decode mb_Mo_repeat 11 = .ok (.ifCond .eq 12, 3) := by decide +kernel
theorem md_Mo_repeat_14 : decode mb_Mo_repeat 14 = .ok (.aload_n 0, 1) := by decide +kernel
theorem md_Mo_repeat_15 : decode mb_Mo_repeat 15 = .ok (.getfield 170, 3) := by decide +kernel
theorem md_Mo_repeat_18 : decode mb_Mo_repeat 18 = .ok (.bipush 16, 2) := by decide +kernel
theorem md_Mo_repeat_20 : decode mb_Mo_repeat 20 = .ok (.if_icmp .ne 6, 3) := by decide +kernel
theorem md_Mo_repeat_23 : decode mb_Mo_repeat 23 = .ok (.bipush (-2), 2) := by decide +kernel
theorem md_Mo_repeat_25 : decode mb_Mo_repeat 25 = .ok (.ireturn, 1) := by decide +kernel
theorem md_Mo_repeat_26 : decode mb_Mo_repeat 26 = .ok (.aload_n 0, 1) := by decide +kernel
theorem md_Mo_repeat_27 : decode mb_Mo_repeat 27 = .ok (.iload_n 1, 1) := by decide +kernel
theorem md_Mo_repeat_28 : decode mb_Mo_repeat 28 = .ok (.aload_n 0, 1) := by decide +kernel
theorem md_Mo_repeat_29 : decode mb_Mo_repeat 29 = .ok (.getfield 170, 3) := by decide +kernel
theorem md_Mo_repeat_32 : decode mb_Mo_repeat 32 = .ok (.invokevirtual 179, 3) := by decide +kernel
theorem md_Mo_repeat_35 : decode mb_Mo_repeat 35 = .ok (.aload_n 0, 1) := by decide +kernel
theorem md_Mo_repeat_36 : decode mb_Mo_repeat 36 = .ok (.dup, 1) := by decide +kernel
theorem md_Mo_repeat_37 : decode mb_Mo_repeat 37 = .ok (.getfield 170, 3) := by decide +kernel
theorem md_Mo_repeat_40 : decode mb_Mo_repeat 40 = .ok (.iconst 1, 1) := by decide +kernel
theorem md_Mo_repeat_41 : decode mb_Mo_repeat 41 = .ok (.iadd, 1) := by decide +kernel
theorem md_Mo_repeat_42 : decode mb_Mo_repeat 42 = .ok (.dup_x1, 1) := by decide +kernel
theorem md_Mo_repeat_43 : decode mb_Mo_repeat 43 = .ok (.putfield 170, 3) := by decide +kernel
theorem md_Mo_repeat_46 : decode mb_Mo_repeat 46 = .ok (.ireturn, 1) := by decide +kernel
abbrev mb_Mo_enter : ByteArray := prog_11_method_21_code
def my_Mo_enter : MethodName := ⟨R_Mo, "enter", "(II)V"⟩
abbrev mrm_Mo_enter : Room := { frames := 0, cells := 0, slots := 0, locals := 0 }
theorem mK_Mo_enter : Cond.code my_Mo_enter mb_Mo_enter 3 none ∈ vTB := vTB_in 1005 (by decide +kernel) rfl
theorem mI_Mo_enter : Cond.instanceMethod my_Mo_enter ∈ vTB := vTB_in 1004 (by decide +kernel) rfl
theorem mS_Mo_enter : Cond.selects R_Mo my_Mo_enter my_Mo_enter ∈ vTB := vTB_sel (q := (my_Mo_enter, 57)) 42 (by decide +kernel)
theorem mw_Mo_enter {R : Room} {s : State} {args : Array Value} {own : String} {index : Nat} (hts : ∀ w ∈ vTB, w.before args s = true) (hl : Cond.methodLink own index my_Mo_enter ∈ vTB) (hR : mrm_Mo_enter.frames + 1 ≤ R.frames ∧ 8 + (3 + 11) + mrm_Mo_enter.locals ≤ R.locals) : CallW R s args own R_Mo index my_Mo_enter mb_Mo_enter 3 none (Cond.code my_Mo_enter mb_Mo_enter 3 none :: vTB) mrm_Mo_enter 0 0 2 := cwV 2 hts (fw_gV vTB_good mK_Mo_enter hl mI_Mo_enter mS_Mo_enter N_Mo) rfl rfl rfl (by decide +kernel) hR
theorem md_Mo_enter_0 : decode mb_Mo_enter 0 = .ok (.aload_n 0, 1) := by decide +kernel
theorem md_Mo_enter_1 : decode mb_Mo_enter 1 = .ok (.getfield 41, 3) := by decide +kernel
theorem md_Mo_enter_4 : decode mb_Mo_enter 4 = .ok (.iload_n 1, 1) := by decide +kernel
theorem md_Mo_enter_5 : decode mb_Mo_enter 5 = .ok (.iload_n 2, 1) := by decide +kernel
theorem md_Mo_enter_6 : decode mb_Mo_enter 6 = .ok (.iastore, 1) := by decide +kernel
theorem md_Mo_enter_7 : decode mb_Mo_enter 7 = .ok (.aload_n 0, 1) := by decide +kernel
theorem md_Mo_enter_8 : decode mb_Mo_enter 8 = .ok (.getfield 59, 3) := by decide +kernel
theorem md_Mo_enter_11 : decode mb_Mo_enter 11 = .ok (.iload_n 1, 1) := by decide +kernel
theorem md_Mo_enter_12 : decode mb_Mo_enter 12 = .ok (.iconst 0, 1) := by decide +kernel
theorem md_Mo_enter_13 : decode mb_Mo_enter 13 = .ok (.iastore, 1) := by decide +kernel
theorem md_Mo_enter_14 : decode mb_Mo_enter 14 = .ok (.aload_n 0, 1) := by decide +kernel
theorem md_Mo_enter_15 : decode mb_Mo_enter 15 = .ok (.getfield 62, 3) := by decide +kernel
theorem md_Mo_enter_18 : decode mb_Mo_enter 18 = .ok (.iload_n 1, 1) := by decide +kernel
theorem md_Mo_enter_19 : decode mb_Mo_enter 19 = .ok (.iconst 0, 1) := by decide +kernel
theorem md_Mo_enter_20 : decode mb_Mo_enter 20 = .ok (.iastore, 1) := by decide +kernel
theorem md_Mo_enter_21 : decode mb_Mo_enter 21 = .ok (.return_, 1) := by decide +kernel
abbrev mb_Mo_ask : ByteArray := prog_11_method_20_code
def my_Mo_ask : MethodName := ⟨R_Mo, "ask", "(I)V"⟩
abbrev mrm_Mo_ask : Room := { frames := 2, cells := 0, slots := 0, locals := 46 }
theorem mK_Mo_ask : Cond.code my_Mo_ask mb_Mo_ask 4 none ∈ vTB := vTB_in 1009 (by decide +kernel) rfl
theorem mI_Mo_ask : Cond.instanceMethod my_Mo_ask ∈ vTB := vTB_in 1008 (by decide +kernel) rfl
theorem mS_Mo_ask : Cond.selects R_Mo my_Mo_ask my_Mo_ask ∈ vTB := vTB_sel (q := (my_Mo_ask, 57)) 43 (by decide +kernel)
theorem mw_Mo_ask {R : Room} {s : State} {args : Array Value} {own : String} {index : Nat} (hts : ∀ w ∈ vTB, w.before args s = true) (hl : Cond.methodLink own index my_Mo_ask ∈ vTB) (hR : mrm_Mo_ask.frames + 1 ≤ R.frames ∧ 8 + (4 + 11) + mrm_Mo_ask.locals ≤ R.locals) : CallW R s args own R_Mo index my_Mo_ask mb_Mo_ask 4 none (Cond.code my_Mo_ask mb_Mo_ask 4 none :: vTB) mrm_Mo_ask 0 0 1 := cwV 1 hts (fw_gV vTB_good mK_Mo_ask hl mI_Mo_ask mS_Mo_ask N_Mo) rfl rfl rfl (by decide +kernel) hR
theorem md_Mo_ask_0 : decode mb_Mo_ask 0 = .ok (.aload_n 0, 1) := by decide +kernel
theorem md_Mo_ask_1 : decode mb_Mo_ask 1 = .ok (.getfield 59, 3) := by decide +kernel
theorem md_Mo_ask_4 : decode mb_Mo_ask 4 = .ok (.iload_n 1, 1) := by decide +kernel
theorem md_Mo_ask_5 : decode mb_Mo_ask 5 = .ok (.iconst 0, 1) := by decide +kernel
theorem md_Mo_ask_6 : decode mb_Mo_ask 6 = .ok (.iastore, 1) := by decide +kernel
theorem md_Mo_ask_7 : decode mb_Mo_ask 7 = .ok (.iconst 3, 1) := by decide +kernel
theorem md_Mo_ask_8 : decode mb_Mo_ask 8 = .ok (.iload_n 1, 1) := by decide +kernel
theorem md_Mo_ask_9 : decode mb_Mo_ask 9 = .ok (.imul, 1) := by decide +kernel
theorem md_Mo_ask_10 : decode mb_Mo_ask 10 = .ok (.istore_n 2, 1) := by decide +kernel
theorem md_Mo_ask_11 : decode mb_Mo_ask 11 = .ok (.aload_n 0, 1) := by decide +kernel
theorem md_Mo_ask_12 : decode mb_Mo_ask 12 = .ok (.getfield 41, 3) := by decide +kernel
theorem md_Mo_ask_15 : decode mb_Mo_ask 15 = .ok (.iload_n 1, 1) := by decide +kernel
theorem md_Mo_ask_16 : decode mb_Mo_ask 16 = .ok (.iaload, 1) := by decide +kernel
theorem md_Mo_ask_17 : decode mb_Mo_ask 17 = .ok (.iconst 1, 1) := by decide +kernel
theorem md_Mo_ask_18 : decode mb_Mo_ask 18 = .ok (.if_icmp .ne 19, 3) := by decide +kernel
theorem md_Mo_ask_21 : decode mb_Mo_ask 21 = .ok (.aload_n 0, 1) := by decide +kernel
theorem md_Mo_ask_22 : decode mb_Mo_ask 22 = .ok (.iconst 1, 1) := by decide +kernel
theorem md_Mo_ask_23 : decode mb_Mo_ask 23 = .ok (.iconst 0, 1) := by decide +kernel
theorem md_Mo_ask_24 : decode mb_Mo_ask 24 = .ok (.aload_n 0, 1) := by decide +kernel
theorem md_Mo_ask_25 : decode mb_Mo_ask 25 = .ok (.getfield 47, 3) := by decide +kernel
theorem md_Mo_ask_28 : decode mb_Mo_ask 28 = .ok (.iload_n 1, 1) := by decide +kernel
theorem md_Mo_ask_29 : decode mb_Mo_ask 29 = .ok (.iaload, 1) := by decide +kernel
theorem md_Mo_ask_30 : decode mb_Mo_ask 30 = .ok (.iconst 3, 1) := by decide +kernel
theorem md_Mo_ask_31 : decode mb_Mo_ask 31 = .ok (.invokevirtual 197, 3) := by decide +kernel
theorem md_Mo_ask_34 : decode mb_Mo_ask 34 = .ok (.goto 138, 3) := by decide +kernel
theorem md_Mo_ask_37 : decode mb_Mo_ask 37 = .ok (.aload_n 0, 1) := by decide +kernel
theorem md_Mo_ask_38 : decode mb_Mo_ask 38 = .ok (.getfield 41, 3) := by decide +kernel
theorem md_Mo_ask_41 : decode mb_Mo_ask 41 = .ok (.iload_n 1, 1) := by decide +kernel
theorem md_Mo_ask_42 : decode mb_Mo_ask 42 = .ok (.iaload, 1) := by decide +kernel
theorem md_Mo_ask_43 : decode mb_Mo_ask 43 = .ok (.iconst 2, 1) := by decide +kernel
theorem md_Mo_ask_44 : decode mb_Mo_ask 44 = .ok (.if_icmp .ne 53, 3) := by decide +kernel
theorem md_Mo_ask_47 : decode mb_Mo_ask 47 = .ok (.iconst 0, 1) := by decide +kernel
theorem md_Mo_ask_48 : decode mb_Mo_ask 48 = .ok (.istore_n 3, 1) := by decide +kernel
theorem md_Mo_ask_49 : decode mb_Mo_ask 49 = .ok (.iload_n 3, 1) := by decide +kernel
theorem md_Mo_ask_50 : decode mb_Mo_ask 50 = .ok (.iconst 3, 1) := by decide +kernel
theorem md_Mo_ask_51 : decode mb_Mo_ask 51 = .ok (.if_icmp .ge 25, 3) := by decide +kernel
theorem md_Mo_ask_54 : decode mb_Mo_ask 54 = .ok (.aload_n 0, 1) := by decide +kernel
theorem md_Mo_ask_55 : decode mb_Mo_ask 55 = .ok (.getfield 35, 3) := by decide +kernel
theorem md_Mo_ask_58 : decode mb_Mo_ask 58 = .ok (.iload_n 3, 1) := by decide +kernel
theorem md_Mo_ask_59 : decode mb_Mo_ask 59 = .ok (.aload_n 0, 1) := by decide +kernel
theorem md_Mo_ask_60 : decode mb_Mo_ask 60 = .ok (.getfield 77, 3) := by decide +kernel
theorem md_Mo_ask_63 : decode mb_Mo_ask 63 = .ok (.iload_n 2, 1) := by decide +kernel
theorem md_Mo_ask_64 : decode mb_Mo_ask 64 = .ok (.iload_n 3, 1) := by decide +kernel
theorem md_Mo_ask_65 : decode mb_Mo_ask 65 = .ok (.iadd, 1) := by decide +kernel
theorem md_Mo_ask_66 : decode mb_Mo_ask 66 = .ok (.iaload, 1) := by decide +kernel
theorem md_Mo_ask_67 : decode mb_Mo_ask 67 = .ok (.iconst 1, 1) := by decide +kernel
theorem md_Mo_ask_68 : decode mb_Mo_ask 68 = .ok (.iadd, 1) := by decide +kernel
theorem md_Mo_ask_69 : decode mb_Mo_ask 69 = .ok (.iastore, 1) := by decide +kernel
theorem md_Mo_ask_70 : decode mb_Mo_ask 70 = .ok (.iinc 3 1, 3) := by decide +kernel
theorem md_Mo_ask_73 : decode mb_Mo_ask 73 = .ok (.goto (-24), 3) := by decide +kernel
theorem md_Mo_ask_76 : decode mb_Mo_ask 76 = .ok (.aload_n 0, 1) := by decide +kernel
theorem md_Mo_ask_77 : decode mb_Mo_ask 77 = .ok (.iconst 3, 1) := by decide +kernel
theorem md_Mo_ask_78 : decode mb_Mo_ask 78 = .ok (.aload_n 0, 1) := by decide +kernel
theorem md_Mo_ask_79 : decode mb_Mo_ask 79 = .ok (.getfield 44, 3) := by decide +kernel
theorem md_Mo_ask_82 : decode mb_Mo_ask 82 = .ok (.iload_n 1, 1) := by decide +kernel
theorem md_Mo_ask_83 : decode mb_Mo_ask 83 = .ok (.iaload, 1) := by decide +kernel
theorem md_Mo_ask_84 : decode mb_Mo_ask 84 = .ok (.iconst 0, 1) := by decide +kernel
theorem md_Mo_ask_85 : decode mb_Mo_ask 85 = .ok (.aload_n 0, 1) := by decide +kernel
theorem md_Mo_ask_86 : decode mb_Mo_ask 86 = .ok (.getfield 50, 3) := by decide +kernel
theorem md_Mo_ask_89 : decode mb_Mo_ask 89 = .ok (.iload_n 1, 1) := by decide +kernel
theorem md_Mo_ask_90 : decode mb_Mo_ask 90 = .ok (.iaload, 1) := by decide +kernel
theorem md_Mo_ask_91 : decode mb_Mo_ask 91 = .ok (.invokevirtual 197, 3) := by decide +kernel
theorem md_Mo_ask_94 : decode mb_Mo_ask 94 = .ok (.goto 78, 3) := by decide +kernel
theorem md_Mo_ask_97 : decode mb_Mo_ask 97 = .ok (.aload_n 0, 1) := by decide +kernel
theorem md_Mo_ask_98 : decode mb_Mo_ask 98 = .ok (.getfield 41, 3) := by decide +kernel
theorem md_Mo_ask_101 : decode mb_Mo_ask 101 = .ok (.iload_n 1, 1) := by decide +kernel
theorem md_Mo_ask_102 : decode mb_Mo_ask 102 = .ok (.iaload, 1) := by decide +kernel
theorem md_Mo_ask_103 : decode mb_Mo_ask 103 = .ok (.iconst 3, 1) := by decide +kernel
theorem md_Mo_ask_104 : decode mb_Mo_ask 104 = .ok (.if_icmp .ne 49, 3) := by decide +kernel
theorem md_Mo_ask_107 : decode mb_Mo_ask 107 = .ok (.aload_n 0, 1) := by decide +kernel
theorem md_Mo_ask_108 : decode mb_Mo_ask 108 = .ok (.getfield 35, 3) := by decide +kernel
theorem md_Mo_ask_111 : decode mb_Mo_ask 111 = .ok (.iconst 0, 1) := by decide +kernel
theorem md_Mo_ask_112 : decode mb_Mo_ask 112 = .ok (.aload_n 0, 1) := by decide +kernel
theorem md_Mo_ask_113 : decode mb_Mo_ask 113 = .ok (.getfield 80, 3) := by decide +kernel
theorem md_Mo_ask_116 : decode mb_Mo_ask 116 = .ok (.iload_n 2, 1) := by decide +kernel
theorem md_Mo_ask_117 : decode mb_Mo_ask 117 = .ok (.aload_n 0, 1) := by decide +kernel
theorem md_Mo_ask_118 : decode mb_Mo_ask 118 = .ok (.getfield 65, 3) := by decide +kernel
theorem md_Mo_ask_121 : decode mb_Mo_ask 121 = .ok (.iload_n 1, 1) := by decide +kernel
theorem md_Mo_ask_122 : decode mb_Mo_ask 122 = .ok (.iaload, 1) := by decide +kernel
theorem md_Mo_ask_123 : decode mb_Mo_ask 123 = .ok (.iadd, 1) := by decide +kernel
theorem md_Mo_ask_124 : decode mb_Mo_ask 124 = .ok (.iaload, 1) := by decide +kernel
theorem md_Mo_ask_125 : decode mb_Mo_ask 125 = .ok (.iastore, 1) := by decide +kernel
theorem md_Mo_ask_126 : decode mb_Mo_ask 126 = .ok (.aload_n 0, 1) := by decide +kernel
theorem md_Mo_ask_127 : decode mb_Mo_ask 127 = .ok (.bipush 6, 2) := by decide +kernel
theorem md_Mo_ask_129 : decode mb_Mo_ask 129 = .ok (.aload_n 0, 1) := by decide +kernel
theorem md_Mo_ask_130 : decode mb_Mo_ask 130 = .ok (.getfield 44, 3) := by decide +kernel
theorem md_Mo_ask_133 : decode mb_Mo_ask 133 = .ok (.iload_n 1, 1) := by decide +kernel
theorem md_Mo_ask_134 : decode mb_Mo_ask 134 = .ok (.iaload, 1) := by decide +kernel
theorem md_Mo_ask_135 : decode mb_Mo_ask 135 = .ok (.aload_n 0, 1) := by decide +kernel
theorem md_Mo_ask_136 : decode mb_Mo_ask 136 = .ok (.getfield 65, 3) := by decide +kernel
theorem md_Mo_ask_139 : decode mb_Mo_ask 139 = .ok (.iload_n 1, 1) := by decide +kernel
theorem md_Mo_ask_140 : decode mb_Mo_ask 140 = .ok (.iaload, 1) := by decide +kernel
theorem md_Mo_ask_141 : decode mb_Mo_ask 141 = .ok (.aload_n 0, 1) := by decide +kernel
theorem md_Mo_ask_142 : decode mb_Mo_ask 142 = .ok (.getfield 50, 3) := by decide +kernel
theorem md_Mo_ask_145 : decode mb_Mo_ask 145 = .ok (.iload_n 1, 1) := by decide +kernel
theorem md_Mo_ask_146 : decode mb_Mo_ask 146 = .ok (.iaload, 1) := by decide +kernel
theorem md_Mo_ask_147 : decode mb_Mo_ask 147 = .ok (.invokevirtual 197, 3) := by decide +kernel
theorem md_Mo_ask_150 : decode mb_Mo_ask 150 = .ok (.goto 22, 3) := by decide +kernel
theorem md_Mo_ask_153 : decode mb_Mo_ask 153 = .ok (.aload_n 0, 1) := by decide +kernel
theorem md_Mo_ask_154 : decode mb_Mo_ask 154 = .ok (.bipush 8, 2) := by decide +kernel
theorem md_Mo_ask_156 : decode mb_Mo_ask 156 = .ok (.aload_n 0, 1) := by decide +kernel
theorem md_Mo_ask_157 : decode mb_Mo_ask 157 = .ok (.getfield 44, 3) := by decide +kernel
theorem md_Mo_ask_160 : decode mb_Mo_ask 160 = .ok (.iload_n 1, 1) := by decide +kernel
theorem md_Mo_ask_161 : decode mb_Mo_ask 161 = .ok (.iaload, 1) := by decide +kernel
theorem md_Mo_ask_162 : decode mb_Mo_ask 162 = .ok (.iconst 0, 1) := by decide +kernel
theorem md_Mo_ask_163 : decode mb_Mo_ask 163 = .ok (.aload_n 0, 1) := by decide +kernel
theorem md_Mo_ask_164 : decode mb_Mo_ask 164 = .ok (.getfield 50, 3) := by decide +kernel
theorem md_Mo_ask_167 : decode mb_Mo_ask 167 = .ok (.iload_n 1, 1) := by decide +kernel
theorem md_Mo_ask_168 : decode mb_Mo_ask 168 = .ok (.iaload, 1) := by decide +kernel
theorem md_Mo_ask_169 : decode mb_Mo_ask 169 = .ok (.invokevirtual 197, 3) := by decide +kernel
theorem md_Mo_ask_172 : decode mb_Mo_ask 172 = .ok (.return_, 1) := by decide +kernel
abbrev mb_Mo_write : ByteArray := prog_11_method_26_code
def my_Mo_write : MethodName := ⟨R_Mo, "write", "(II)V"⟩
abbrev mrm_Mo_write : Room := { frames := 3, cells := 0, slots := 0, locals := 69 }
theorem mK_Mo_write : Cond.code my_Mo_write mb_Mo_write 4 none ∈ vTB := vTB_in 1025 (by decide +kernel) rfl
theorem mI_Mo_write : Cond.instanceMethod my_Mo_write ∈ vTB := vTB_in 1024 (by decide +kernel) rfl
theorem mS_Mo_write : Cond.selects R_Mo my_Mo_write my_Mo_write ∈ vTB := vTB_sel (q := (my_Mo_write, 57)) 47 (by decide +kernel)
theorem mw_Mo_write {R : Room} {s : State} {args : Array Value} {own : String} {index : Nat} (hts : ∀ w ∈ vTB, w.before args s = true) (hl : Cond.methodLink own index my_Mo_write ∈ vTB) (hR : mrm_Mo_write.frames + 1 ≤ R.frames ∧ 8 + (4 + 11) + mrm_Mo_write.locals ≤ R.locals) : CallW R s args own R_Mo index my_Mo_write mb_Mo_write 4 none (Cond.code my_Mo_write mb_Mo_write 4 none :: vTB) mrm_Mo_write 0 0 2 := cwV 2 hts (fw_gV vTB_good mK_Mo_write hl mI_Mo_write mS_Mo_write N_Mo) rfl rfl rfl (by decide +kernel) hR
theorem md_Mo_write_0 : decode mb_Mo_write 0 = .ok (.iload_n 2, 1) := by decide +kernel
theorem md_Mo_write_1 : decode mb_Mo_write 1 = .ok (.istore_n 3, 1) := by decide +kernel
theorem md_Mo_write_2 : decode mb_Mo_write 2 = .ok (.iload_n 3, 1) := by decide +kernel
theorem md_Mo_write_3 : decode mb_Mo_write 3 = .ok (.iconst 3, 1) := by decide +kernel
theorem md_Mo_write_4 : decode mb_Mo_write 4 = .ok (.if_icmp .ge 54, 3) := by decide +kernel
theorem md_Mo_write_7 : decode mb_Mo_write 7 = .ok (.aload_n 0, 1) := by decide +kernel
theorem md_Mo_write_8 : decode mb_Mo_write 8 = .ok (.getfield 77, 3) := by decide +kernel
theorem md_Mo_write_11 : decode mb_Mo_write 11 = .ok (.iconst 3, 1) := by decide +kernel
theorem md_Mo_write_12 : decode mb_Mo_write 12 = .ok (.iload_n 1, 1) := by decide +kernel
theorem md_Mo_write_13 : decode mb_Mo_write 13 = .ok (.imul, 1) := by decide +kernel
theorem md_Mo_write_14 : decode mb_Mo_write 14 = .ok (.iload_n 3, 1) := by decide +kernel
theorem md_Mo_write_15 : decode mb_Mo_write 15 = .ok (.iadd, 1) := by decide +kernel
theorem md_Mo_write_16 : decode mb_Mo_write 16 = .ok (.iaload, 1) := by decide +kernel
theorem md_Mo_write_17 : decode mb_Mo_write 17 = .ok (.ifCond .lt 35, 3) := by decide +kernel
theorem md_Mo_write_20 : decode mb_Mo_write 20 = .ok (.aload_n 0, 1) := by decide +kernel
theorem md_Mo_write_21 : decode mb_Mo_write 21 = .ok (.getfield 16, 3) := by decide +kernel
theorem md_Mo_write_24 : decode mb_Mo_write 24 = .ok (.aload_n 0, 1) := by decide +kernel
theorem md_Mo_write_25 : decode mb_Mo_write 25 = .ok (.getfield 77, 3) := by decide +kernel
theorem md_Mo_write_28 : decode mb_Mo_write 28 = .ok (.iconst 3, 1) := by decide +kernel
theorem md_Mo_write_29 : decode mb_Mo_write 29 = .ok (.iload_n 1, 1) := by decide +kernel
theorem md_Mo_write_30 : decode mb_Mo_write 30 = .ok (.imul, 1) := by decide +kernel
theorem md_Mo_write_31 : decode mb_Mo_write 31 = .ok (.iload_n 3, 1) := by decide +kernel
theorem md_Mo_write_32 : decode mb_Mo_write 32 = .ok (.iadd, 1) := by decide +kernel
theorem md_Mo_write_33 : decode mb_Mo_write 33 = .ok (.iaload, 1) := by decide +kernel
theorem md_Mo_write_34 : decode mb_Mo_write 34 = .ok (.baload, 1) := by decide +kernel
theorem md_Mo_write_35 : decode mb_Mo_write 35 = .ok (.ifCond .eq 17, 3) := by decide +kernel
theorem md_Mo_write_38 : decode mb_Mo_write 38 = .ok (.aload_n 0, 1) := by decide +kernel
theorem md_Mo_write_39 : decode mb_Mo_write 39 = .ok (.getfield 53, 3) := by decide +kernel
theorem md_Mo_write_42 : decode mb_Mo_write 42 = .ok (.iload_n 1, 1) := by decide +kernel
theorem md_Mo_write_43 : decode mb_Mo_write 43 = .ok (.iaload, 1) := by decide +kernel
theorem md_Mo_write_44 : decode mb_Mo_write 44 = .ok (.iload_n 3, 1) := by decide +kernel
theorem md_Mo_write_45 : decode mb_Mo_write 45 = .ok (.ishr, 1) := by decide +kernel
theorem md_Mo_write_46 : decode mb_Mo_write 46 = .ok (.iconst 1, 1) := by decide +kernel
theorem md_Mo_write_47 : decode mb_Mo_write 47 = .ok (.iand, 1) := by decide +kernel
theorem md_Mo_write_48 : decode mb_Mo_write 48 = .ok (.iconst 1, 1) := by decide +kernel
theorem md_Mo_write_49 : decode mb_Mo_write 49 = .ok (.if_icmp .ne 9, 3) := by decide +kernel
theorem md_Mo_write_52 : decode mb_Mo_write 52 = .ok (.iinc 3 1, 3) := by decide +kernel
theorem md_Mo_write_55 : decode mb_Mo_write 55 = .ok (.goto (-53), 3) := by decide +kernel
theorem md_Mo_write_58 : decode mb_Mo_write 58 = .ok (.aload_n 0, 1) := by decide +kernel
theorem md_Mo_write_59 : decode mb_Mo_write 59 = .ok (.iload_n 1, 1) := by decide +kernel
theorem md_Mo_write_60 : decode mb_Mo_write 60 = .ok (.iload_n 3, 1) := by decide +kernel
theorem md_Mo_write_61 : decode mb_Mo_write 61 = .ok (.iconst 3, 1) := by decide +kernel
theorem md_Mo_write_62 : decode mb_Mo_write 62 = .ok (.if_icmp .ge 7, 3) := by decide +kernel
theorem md_Mo_write_65 : decode mb_Mo_write 65 = .ok (.iconst 3, 1) := by decide +kernel
theorem md_Mo_write_66 : decode mb_Mo_write 66 = .ok (.goto 4, 3) := by decide +kernel
theorem md_Mo_write_69 : decode mb_Mo_write 69 = .ok (.iconst 4, 1) := by decide +kernel
theorem md_Mo_write_70 : decode mb_Mo_write 70 = .ok (.invokevirtual 200, 3) := by decide +kernel
theorem md_Mo_write_73 : decode mb_Mo_write 73 = .ok (.aload_n 0, 1) := by decide +kernel
theorem md_Mo_write_74 : decode mb_Mo_write 74 = .ok (.getfield 65, 3) := by decide +kernel
theorem md_Mo_write_77 : decode mb_Mo_write 77 = .ok (.iload_n 1, 1) := by decide +kernel
theorem md_Mo_write_78 : decode mb_Mo_write 78 = .ok (.iload_n 3, 1) := by decide +kernel
theorem md_Mo_write_79 : decode mb_Mo_write 79 = .ok (.iastore, 1) := by decide +kernel
theorem md_Mo_write_80 : decode mb_Mo_write 80 = .ok (.aload_n 0, 1) := by decide +kernel
theorem md_Mo_write_81 : decode mb_Mo_write 81 = .ok (.iload_n 1, 1) := by decide +kernel
theorem md_Mo_write_82 : decode mb_Mo_write 82 = .ok (.invokevirtual 213, 3) := by decide +kernel
theorem md_Mo_write_85 : decode mb_Mo_write 85 = .ok (.return_, 1) := by decide +kernel
abbrev mb_Mo_shut : ByteArray := prog_11_method_22_code
def my_Mo_shut : MethodName := ⟨R_Mo, "shut", "(I)V"⟩
abbrev mrm_Mo_shut : Room := { frames := 1, cells := 0, slots := 0, locals := 22 }
theorem mK_Mo_shut : Cond.code my_Mo_shut mb_Mo_shut 3 none ∈ vTB := vTB_in 1029 (by decide +kernel) rfl
theorem mI_Mo_shut : Cond.instanceMethod my_Mo_shut ∈ vTB := vTB_in 1028 (by decide +kernel) rfl
theorem mS_Mo_shut : Cond.selects R_Mo my_Mo_shut my_Mo_shut ∈ vTB := vTB_sel (q := (my_Mo_shut, 57)) 48 (by decide +kernel)
theorem mw_Mo_shut {R : Room} {s : State} {args : Array Value} {own : String} {index : Nat} (hts : ∀ w ∈ vTB, w.before args s = true) (hl : Cond.methodLink own index my_Mo_shut ∈ vTB) (hR : mrm_Mo_shut.frames + 1 ≤ R.frames ∧ 8 + (3 + 11) + mrm_Mo_shut.locals ≤ R.locals) : CallW R s args own R_Mo index my_Mo_shut mb_Mo_shut 3 none (Cond.code my_Mo_shut mb_Mo_shut 3 none :: vTB) mrm_Mo_shut 0 0 1 := cwV 1 hts (fw_gV vTB_good mK_Mo_shut hl mI_Mo_shut mS_Mo_shut N_Mo) rfl rfl rfl (by decide +kernel) hR
theorem md_Mo_shut_0 : decode mb_Mo_shut 0 = .ok (.aload_n 0, 1) := by decide +kernel
theorem md_Mo_shut_1 : decode mb_Mo_shut 1 = .ok (.iload_n 1, 1) := by decide +kernel
theorem md_Mo_shut_2 : decode mb_Mo_shut 2 = .ok (.iconst 0, 1) := by decide +kernel
theorem md_Mo_shut_3 : decode mb_Mo_shut 3 = .ok (.invokevirtual 200, 3) := by decide +kernel
theorem md_Mo_shut_6 : decode mb_Mo_shut 6 = .ok (.aload_n 0, 1) := by decide +kernel
theorem md_Mo_shut_7 : decode mb_Mo_shut 7 = .ok (.getfield 44, 3) := by decide +kernel
theorem md_Mo_shut_10 : decode mb_Mo_shut 10 = .ok (.iload_n 1, 1) := by decide +kernel
theorem md_Mo_shut_11 : decode mb_Mo_shut 11 = .ok (.iconst 0, 1) := by decide +kernel
theorem md_Mo_shut_12 : decode mb_Mo_shut 12 = .ok (.iastore, 1) := by decide +kernel
theorem md_Mo_shut_13 : decode mb_Mo_shut 13 = .ok (.aload_n 0, 1) := by decide +kernel
theorem md_Mo_shut_14 : decode mb_Mo_shut 14 = .ok (.getfield 50, 3) := by decide +kernel
theorem md_Mo_shut_17 : decode mb_Mo_shut 17 = .ok (.iload_n 1, 1) := by decide +kernel
theorem md_Mo_shut_18 : decode mb_Mo_shut 18 = .ok (.iconst (-1), 1) := by decide +kernel
theorem md_Mo_shut_19 : decode mb_Mo_shut 19 = .ok (.iastore, 1) := by decide +kernel
theorem md_Mo_shut_20 : decode mb_Mo_shut 20 = .ok (.aload_n 0, 1) := by decide +kernel
theorem md_Mo_shut_21 : decode mb_Mo_shut 21 = .ok (.getfield 53, 3) := by decide +kernel
theorem md_Mo_shut_24 : decode mb_Mo_shut 24 = .ok (.iload_n 1, 1) := by decide +kernel
theorem md_Mo_shut_25 : decode mb_Mo_shut 25 = .ok (.iconst 0, 1) := by decide +kernel
theorem md_Mo_shut_26 : decode mb_Mo_shut 26 = .ok (.iastore, 1) := by decide +kernel
theorem md_Mo_shut_27 : decode mb_Mo_shut 27 = .ok (.aload_n 0, 1) := by decide +kernel
theorem md_Mo_shut_28 : decode mb_Mo_shut 28 = .ok (.getfield 56, 3) := by decide +kernel
theorem md_Mo_shut_31 : decode mb_Mo_shut 31 = .ok (.iload_n 1, 1) := by decide +kernel
theorem md_Mo_shut_32 : decode mb_Mo_shut 32 = .ok (.iconst 0, 1) := by decide +kernel
theorem md_Mo_shut_33 : decode mb_Mo_shut 33 = .ok (.iastore, 1) := by decide +kernel
theorem md_Mo_shut_34 : decode mb_Mo_shut 34 = .ok (.bipush 6, 2) := by decide +kernel
theorem md_Mo_shut_36 : decode mb_Mo_shut 36 = .ok (.iload_n 1, 1) := by decide +kernel
theorem md_Mo_shut_37 : decode mb_Mo_shut 37 = .ok (.imul, 1) := by decide +kernel
theorem md_Mo_shut_38 : decode mb_Mo_shut 38 = .ok (.istore_n 2, 1) := by decide +kernel
theorem md_Mo_shut_39 : decode mb_Mo_shut 39 = .ok (.iload_n 2, 1) := by decide +kernel
theorem md_Mo_shut_40 : decode mb_Mo_shut 40 = .ok (.bipush 6, 2) := by decide +kernel
theorem md_Mo_shut_42 : decode mb_Mo_shut 42 = .ok (.iload_n 1, 1) := by decide +kernel
theorem md_Mo_shut_43 : decode mb_Mo_shut 43 = .ok (.imul, 1) := by decide +kernel
theorem md_Mo_shut_44 : decode mb_Mo_shut 44 = .ok (.bipush 6, 2) := by decide +kernel
theorem md_Mo_shut_46 : decode mb_Mo_shut 46 = .ok (.iadd, 1) := by decide +kernel
theorem md_Mo_shut_47 : decode mb_Mo_shut 47 = .ok (.if_icmp .ge 16, 3) := by decide +kernel
theorem md_Mo_shut_50 : decode mb_Mo_shut 50 = .ok (.aload_n 0, 1) := by decide +kernel
theorem md_Mo_shut_51 : decode mb_Mo_shut 51 = .ok (.getfield 86, 3) := by decide +kernel
theorem md_Mo_shut_54 : decode mb_Mo_shut 54 = .ok (.iload_n 2, 1) := by decide +kernel
theorem md_Mo_shut_55 : decode mb_Mo_shut 55 = .ok (.iconst 0, 1) := by decide +kernel
theorem md_Mo_shut_56 : decode mb_Mo_shut 56 = .ok (.iastore, 1) := by decide +kernel
theorem md_Mo_shut_57 : decode mb_Mo_shut 57 = .ok (.iinc 2 1, 3) := by decide +kernel
theorem md_Mo_shut_60 : decode mb_Mo_shut 60 = .ok (.goto (-21), 3) := by decide +kernel
theorem md_Mo_shut_63 : decode mb_Mo_shut 63 = .ok (.return_, 1) := by decide +kernel
abbrev mb_Mo_isNewer : ByteArray := prog_11_method_29_code
def my_Mo_isNewer : MethodName := ⟨R_Mo, "isNewer", "(II)Z"⟩
abbrev mrm_Mo_isNewer : Room := { frames := 1, cells := 0, slots := 0, locals := 22 }
theorem mK_Mo_isNewer : Cond.code my_Mo_isNewer mb_Mo_isNewer 2 (some .boolean) ∈ vTB := vTB_in 1032 (by decide +kernel) rfl
theorem mS_Mo_isNewer : Cond.static my_Mo_isNewer ∈ vTB := vTB_in 1031 (by decide +kernel) rfl
theorem mw_Mo_isNewer {R : Room} {s : State} {args : Array Value} {own : String} {index : Nat} (hts : ∀ w ∈ vTB, w.before args s = true) (hl : Cond.methodLink own index my_Mo_isNewer ∈ vTB) (hR : mrm_Mo_isNewer.frames + 1 ≤ R.frames ∧ 8 + (2 + 11) + mrm_Mo_isNewer.locals ≤ R.locals) : CallB R s args own index my_Mo_isNewer mb_Mo_isNewer 2 (some .boolean) (Cond.code my_Mo_isNewer mb_Mo_isNewer 2 (some .boolean) :: vTB) mrm_Mo_isNewer 0 0 2 ∧ (Cond.static my_Mo_isNewer).before args s = true := va_cwS 2 hts (fw_gS2 vTB_good mK_Mo_isNewer hl mS_Mo_isNewer N_Mo) rfl rfl rfl (by decide +kernel) hR
theorem mwn_Mo_isNewer {R : Room} {s : State} {args : Array Value} {own host : String} {index : Nat} (hts : ∀ w ∈ vTB, w.before args s = true) (hl : va_Nw (.methodLinkNest own index my_Mo_isNewer host) s) (hR : mrm_Mo_isNewer.frames + 1 ≤ R.frames ∧ 8 + (2 + 11) + mrm_Mo_isNewer.locals ≤ R.locals) : va_CN R s args own index my_Mo_isNewer host mb_Mo_isNewer 2 (some .boolean) (Cond.code my_Mo_isNewer mb_Mo_isNewer 2 (some .boolean) :: vTB) mrm_Mo_isNewer 0 0 2 ∧ (Cond.static my_Mo_isNewer).before args s = true ∧ True := ⟨va_cnB 2 hts (fw_gI vTB_good mK_Mo_isNewer) rfl rfl rfl hl (hts _ N_Mo) (by decide +kernel) hR, hts _ mS_Mo_isNewer, trivial⟩
theorem md_Mo_isNewer_0 : decode mb_Mo_isNewer 0 = .ok (.iload_n 1, 1) := by decide +kernel
theorem md_Mo_isNewer_1 : decode mb_Mo_isNewer 1 = .ok (.ifCond .lt 19, 3) := by decide +kernel
theorem md_Mo_isNewer_4 : decode mb_Mo_isNewer 4 = .ok (.iload_n 0, 1) := by decide +kernel
theorem md_Mo_isNewer_5 : decode mb_Mo_isNewer 5 = .ok (.iload_n 1, 1) := by decide +kernel
theorem md_Mo_isNewer_6 : decode mb_Mo_isNewer 6 = .ok (.isub, 1) := by decide +kernel
theorem md_Mo_isNewer_7 : decode mb_Mo_isNewer 7 = .ok (.sipush 255, 3) := by decide +kernel
theorem md_Mo_isNewer_10 : decode mb_Mo_isNewer 10 = .ok (.iand, 1) := by decide +kernel
theorem md_Mo_isNewer_11 : decode mb_Mo_isNewer 11 = .ok (.iconst 1, 1) := by decide +kernel
theorem md_Mo_isNewer_12 : decode mb_Mo_isNewer 12 = .ok (.bipush 127, 2) := by decide +kernel
theorem md_Mo_isNewer_14 : decode mb_Mo_isNewer 14 = .ok (.invokestatic 155, 3) := by decide +kernel
theorem md_Mo_isNewer_17 : decode mb_Mo_isNewer 17 = .ok (.ifCond .eq 7, 3) := by decide +kernel
theorem md_Mo_isNewer_20 : decode mb_Mo_isNewer 20 = .ok (.iconst 1, 1) := by decide +kernel
theorem md_Mo_isNewer_21 : decode mb_Mo_isNewer 21 = .ok (.goto 4, 3) := by decide +kernel
theorem md_Mo_isNewer_24 : decode mb_Mo_isNewer 24 = .ok (.iconst 0, 1) := by decide +kernel
theorem md_Mo_isNewer_25 : decode mb_Mo_isNewer 25 = .ok (.ireturn, 1) := by decide +kernel
abbrev mb_Mo_tell : ByteArray := prog_11_method_30_code
def my_Mo_tell : MethodName := ⟨R_Mo, "tell", "(II)V"⟩
abbrev mrm_Mo_tell : Room := { frames := 0, cells := 0, slots := 0, locals := 0 }
theorem mK_Mo_tell : Cond.code my_Mo_tell mb_Mo_tell 6 none ∈ vTB := vTB_in 1036 (by decide +kernel) rfl
theorem mI_Mo_tell : Cond.instanceMethod my_Mo_tell ∈ vTB := vTB_in 1035 (by decide +kernel) rfl
theorem mS_Mo_tell : Cond.selects R_Mo my_Mo_tell my_Mo_tell ∈ vTB := vTB_sel (q := (my_Mo_tell, 57)) 49 (by decide +kernel)
theorem mw_Mo_tell {R : Room} {s : State} {args : Array Value} {own : String} {index : Nat} (hts : ∀ w ∈ vTB, w.before args s = true) (hl : Cond.methodLink own index my_Mo_tell ∈ vTB) (hR : mrm_Mo_tell.frames + 1 ≤ R.frames ∧ 8 + (6 + 11) + mrm_Mo_tell.locals ≤ R.locals) : CallW R s args own R_Mo index my_Mo_tell mb_Mo_tell 6 none (Cond.code my_Mo_tell mb_Mo_tell 6 none :: vTB) mrm_Mo_tell 0 0 2 := cwV 2 hts (fw_gV vTB_good mK_Mo_tell hl mI_Mo_tell mS_Mo_tell N_Mo) rfl rfl rfl (by decide +kernel) hR
theorem md_Mo_tell_0 : decode mb_Mo_tell 0 = .ok (.aload_n 0, 1) := by decide +kernel
theorem md_Mo_tell_1 : decode mb_Mo_tell 1 = .ok (.getfield 38, 3) := by decide +kernel
theorem md_Mo_tell_4 : decode mb_Mo_tell 4 = .ok (.iconst 0, 1) := by decide +kernel
theorem md_Mo_tell_5 : decode mb_Mo_tell 5 = .ok (.iaload, 1) := by decide +kernel
theorem md_Mo_tell_6 : decode mb_Mo_tell 6 = .ok (.istore_n 3, 1) := by decide +kernel
theorem md_Mo_tell_7 : decode mb_Mo_tell 7 = .ok (.aload_n 0, 1) := by decide +kernel
theorem md_Mo_tell_8 : decode mb_Mo_tell 8 = .ok (.getfield 38, 3) := by decide +kernel
theorem md_Mo_tell_11 : decode mb_Mo_tell 11 = .ok (.iconst 1, 1) := by decide +kernel
theorem md_Mo_tell_12 : decode mb_Mo_tell 12 = .ok (.iaload, 1) := by decide +kernel
theorem md_Mo_tell_13 : decode mb_Mo_tell 13 = .ok (.istore 4, 2) := by decide +kernel
theorem md_Mo_tell_15 : decode mb_Mo_tell 15 = .ok (.aload_n 0, 1) := by decide +kernel
theorem md_Mo_tell_16 : decode mb_Mo_tell 16 = .ok (.getfield 74, 3) := by decide +kernel
theorem md_Mo_tell_19 : decode mb_Mo_tell 19 = .ok (.iload_n 1, 1) := by decide +kernel
theorem md_Mo_tell_20 : decode mb_Mo_tell 20 = .ok (.iload_n 2, 1) := by decide +kernel
theorem md_Mo_tell_21 : decode mb_Mo_tell 21 = .ok (.iastore, 1) := by decide +kernel
theorem md_Mo_tell_22 : decode mb_Mo_tell 22 = .ok (.aload_n 0, 1) := by decide +kernel
theorem md_Mo_tell_23 : decode mb_Mo_tell 23 = .ok (.getfield 53, 3) := by decide +kernel
theorem md_Mo_tell_26 : decode mb_Mo_tell 26 = .ok (.iload_n 1, 1) := by decide +kernel
theorem md_Mo_tell_27 : decode mb_Mo_tell 27 = .ok (.aload_n 0, 1) := by decide +kernel
theorem md_Mo_tell_28 : decode mb_Mo_tell 28 = .ok (.getfield 77, 3) := by decide +kernel
theorem md_Mo_tell_31 : decode mb_Mo_tell 31 = .ok (.iconst 3, 1) := by decide +kernel
theorem md_Mo_tell_32 : decode mb_Mo_tell 32 = .ok (.iload_n 1, 1) := by decide +kernel
theorem md_Mo_tell_33 : decode mb_Mo_tell 33 = .ok (.imul, 1) := by decide +kernel
theorem md_Mo_tell_34 : decode mb_Mo_tell 34 = .ok (.iload_n 3, 1) := by decide +kernel
theorem md_Mo_tell_35 : decode mb_Mo_tell 35 = .ok (.iadd, 1) := by decide +kernel
theorem md_Mo_tell_36 : decode mb_Mo_tell 36 = .ok (.iaload, 1) := by decide +kernel
theorem md_Mo_tell_37 : decode mb_Mo_tell 37 = .ok (.ifCond .lt 33, 3) := by decide +kernel
theorem md_Mo_tell_40 : decode mb_Mo_tell 40 = .ok (.iload 4, 2) := by decide +kernel
theorem md_Mo_tell_42 : decode mb_Mo_tell 42 = .ok (.aload_n 0, 1) := by decide +kernel
theorem md_Mo_tell_43 : decode mb_Mo_tell 43 = .ok (.getfield 77, 3) := by decide +kernel
theorem md_Mo_tell_46 : decode mb_Mo_tell 46 = .ok (.iconst 3, 1) := by decide +kernel
theorem md_Mo_tell_47 : decode mb_Mo_tell 47 = .ok (.iload_n 1, 1) := by decide +kernel
theorem md_Mo_tell_48 : decode mb_Mo_tell 48 = .ok (.imul, 1) := by decide +kernel
theorem md_Mo_tell_49 : decode mb_Mo_tell 49 = .ok (.iload_n 3, 1) := by decide +kernel
theorem md_Mo_tell_50 : decode mb_Mo_tell 50 = .ok (.iadd, 1) := by decide +kernel
theorem md_Mo_tell_51 : decode mb_Mo_tell 51 = .ok (.iaload, 1) := by decide +kernel
theorem md_Mo_tell_52 : decode mb_Mo_tell 52 = .ok (.iconst 1, 1) := by decide +kernel
theorem md_Mo_tell_53 : decode mb_Mo_tell 53 = .ok (.iadd, 1) := by decide +kernel
theorem md_Mo_tell_54 : decode mb_Mo_tell 54 = .ok (.if_icmp .eq 16, 3) := by decide +kernel
theorem md_Mo_tell_57 : decode mb_Mo_tell 57 = .ok (.aload_n 0, 1) := by decide +kernel
theorem md_Mo_tell_58 : decode mb_Mo_tell 58 = .ok (.getfield 53, 3) := by decide +kernel
theorem md_Mo_tell_61 : decode mb_Mo_tell 61 = .ok (.iload_n 1, 1) := by decide +kernel
theorem md_Mo_tell_62 : decode mb_Mo_tell 62 = .ok (.iaload, 1) := by decide +kernel
theorem md_Mo_tell_63 : decode mb_Mo_tell 63 = .ok (.iconst 1, 1) := by decide +kernel
theorem md_Mo_tell_64 : decode mb_Mo_tell 64 = .ok (.iload_n 3, 1) := by decide +kernel
theorem md_Mo_tell_65 : decode mb_Mo_tell 65 = .ok (.ishl, 1) := by decide +kernel
theorem md_Mo_tell_66 : decode mb_Mo_tell 66 = .ok (.ior, 1) := by decide +kernel
theorem md_Mo_tell_67 : decode mb_Mo_tell 67 = .ok (.goto 15, 3) := by decide +kernel
theorem md_Mo_tell_70 : decode mb_Mo_tell 70 = .ok (.aload_n 0, 1) := by decide +kernel
theorem md_Mo_tell_71 : decode mb_Mo_tell 71 = .ok (.getfield 53, 3) := by decide +kernel
theorem md_Mo_tell_74 : decode mb_Mo_tell 74 = .ok (.iload_n 1, 1) := by decide +kernel
theorem md_Mo_tell_75 : decode mb_Mo_tell 75 = .ok (.iaload, 1) := by decide +kernel
theorem md_Mo_tell_76 : decode mb_Mo_tell 76 = .ok (.iconst 1, 1) := by decide +kernel
theorem md_Mo_tell_77 : decode mb_Mo_tell 77 = .ok (.iload_n 3, 1) := by decide +kernel
theorem md_Mo_tell_78 : decode mb_Mo_tell 78 = .ok (.ishl, 1) := by decide +kernel
theorem md_Mo_tell_79 : decode mb_Mo_tell 79 = .ok (.iconst (-1), 1) := by decide +kernel
theorem md_Mo_tell_80 : decode mb_Mo_tell 80 = .ok (.ixor, 1) := by decide +kernel
theorem md_Mo_tell_81 : decode mb_Mo_tell 81 = .ok (.iand, 1) := by decide +kernel
theorem md_Mo_tell_82 : decode mb_Mo_tell 82 = .ok (.iastore, 1) := by decide +kernel
theorem md_Mo_tell_83 : decode mb_Mo_tell 83 = .ok (.bipush 7, 2) := by decide +kernel
theorem md_Mo_tell_85 : decode mb_Mo_tell 85 = .ok (.istore 5, 2) := by decide +kernel
theorem md_Mo_tell_87 : decode mb_Mo_tell 87 = .ok (.iload 5, 2) := by decide +kernel
theorem md_Mo_tell_89 : decode mb_Mo_tell 89 = .ok (.ifCond .le 25, 3) := by decide +kernel
theorem md_Mo_tell_92 : decode mb_Mo_tell 92 = .ok (.aload_n 0, 1) := by decide +kernel
theorem md_Mo_tell_93 : decode mb_Mo_tell 93 = .ok (.getfield 152, 3) := by decide +kernel
theorem md_Mo_tell_96 : decode mb_Mo_tell 96 = .ok (.iload 5, 2) := by decide +kernel
theorem md_Mo_tell_98 : decode mb_Mo_tell 98 = .ok (.aload_n 0, 1) := by decide +kernel
theorem md_Mo_tell_99 : decode mb_Mo_tell 99 = .ok (.getfield 152, 3) := by decide +kernel
theorem md_Mo_tell_102 : decode mb_Mo_tell 102 = .ok (.iload 5, 2) := by decide +kernel
theorem md_Mo_tell_104 : decode mb_Mo_tell 104 = .ok (.iconst 1, 1) := by decide +kernel
theorem md_Mo_tell_105 : decode mb_Mo_tell 105 = .ok (.isub, 1) := by decide +kernel
theorem md_Mo_tell_106 : decode mb_Mo_tell 106 = .ok (.iaload, 1) := by decide +kernel
theorem md_Mo_tell_107 : decode mb_Mo_tell 107 = .ok (.iastore, 1) := by decide +kernel
theorem md_Mo_tell_108 : decode mb_Mo_tell 108 = .ok (.iinc 5 (-1), 3) := by decide +kernel
theorem md_Mo_tell_111 : decode mb_Mo_tell 111 = .ok (.goto (-24), 3) := by decide +kernel
theorem md_Mo_tell_114 : decode mb_Mo_tell 114 = .ok (.aload_n 0, 1) := by decide +kernel
theorem md_Mo_tell_115 : decode mb_Mo_tell 115 = .ok (.getfield 152, 3) := by decide +kernel
theorem md_Mo_tell_118 : decode mb_Mo_tell 118 = .ok (.iconst 0, 1) := by decide +kernel
theorem md_Mo_tell_119 : decode mb_Mo_tell 119 = .ok (.bipush 64, 2) := by decide +kernel
theorem md_Mo_tell_121 : decode mb_Mo_tell 121 = .ok (.iload_n 1, 1) := by decide +kernel
theorem md_Mo_tell_122 : decode mb_Mo_tell 122 = .ok (.imul, 1) := by decide +kernel
theorem md_Mo_tell_123 : decode mb_Mo_tell 123 = .ok (.bipush 16, 2) := by decide +kernel
theorem md_Mo_tell_125 : decode mb_Mo_tell 125 = .ok (.iload_n 3, 1) := by decide +kernel
theorem md_Mo_tell_126 : decode mb_Mo_tell 126 = .ok (.imul, 1) := by decide +kernel
theorem md_Mo_tell_127 : decode mb_Mo_tell 127 = .ok (.iadd, 1) := by decide +kernel
theorem md_Mo_tell_128 : decode mb_Mo_tell 128 = .ok (.iload 4, 2) := by decide +kernel
theorem md_Mo_tell_130 : decode mb_Mo_tell 130 = .ok (.iadd, 1) := by decide +kernel
theorem md_Mo_tell_131 : decode mb_Mo_tell 131 = .ok (.iastore, 1) := by decide +kernel
theorem md_Mo_tell_132 : decode mb_Mo_tell 132 = .ok (.aload_n 0, 1) := by decide +kernel
theorem md_Mo_tell_133 : decode mb_Mo_tell 133 = .ok (.dup, 1) := by decide +kernel
theorem md_Mo_tell_134 : decode mb_Mo_tell 134 = .ok (.getfield 232, 3) := by decide +kernel
theorem md_Mo_tell_137 : decode mb_Mo_tell 137 = .ok (.iconst 1, 1) := by decide +kernel
theorem md_Mo_tell_138 : decode mb_Mo_tell 138 = .ok (.iadd, 1) := by decide +kernel
theorem md_Mo_tell_139 : decode mb_Mo_tell 139 = .ok (.putfield 232, 3) := by decide +kernel
theorem md_Mo_tell_142 : decode mb_Mo_tell 142 = .ok (.return_, 1) := by decide +kernel
abbrev mb_Mo_hears : ByteArray := prog_11_method_28_code
def my_Mo_hears : MethodName := ⟨R_Mo, "hears", "(III)V"⟩
abbrev mrm_Mo_hears : Room := { frames := 4, cells := 0, slots := 0, locals := 92 }
theorem mK_Mo_hears : Cond.code my_Mo_hears mb_Mo_hears 6 none ∈ vTB := vTB_in 1021 (by decide +kernel) rfl
theorem mI_Mo_hears : Cond.instanceMethod my_Mo_hears ∈ vTB := vTB_in 1020 (by decide +kernel) rfl
theorem mS_Mo_hears : Cond.selects R_Mo my_Mo_hears my_Mo_hears ∈ vTB := vTB_sel (q := (my_Mo_hears, 57)) 46 (by decide +kernel)
theorem mw_Mo_hears {R : Room} {s : State} {args : Array Value} {own : String} {index : Nat} (hts : ∀ w ∈ vTB, w.before args s = true) (hl : Cond.methodLink own index my_Mo_hears ∈ vTB) (hR : mrm_Mo_hears.frames + 1 ≤ R.frames ∧ 8 + (6 + 11) + mrm_Mo_hears.locals ≤ R.locals) : CallW R s args own R_Mo index my_Mo_hears mb_Mo_hears 6 none (Cond.code my_Mo_hears mb_Mo_hears 6 none :: vTB) mrm_Mo_hears 0 0 3 := cwV 3 hts (fw_gV vTB_good mK_Mo_hears hl mI_Mo_hears mS_Mo_hears N_Mo) rfl rfl rfl (by decide +kernel) hR
theorem md_Mo_hears_0 : decode mb_Mo_hears 0 = .ok (.aload_n 0, 1) := by decide +kernel
theorem md_Mo_hears_1 : decode mb_Mo_hears 1 = .ok (.getfield 41, 3) := by decide +kernel
theorem md_Mo_hears_4 : decode mb_Mo_hears 4 = .ok (.iload_n 1, 1) := by decide +kernel
theorem md_Mo_hears_5 : decode mb_Mo_hears 5 = .ok (.iaload, 1) := by decide +kernel
theorem md_Mo_hears_6 : decode mb_Mo_hears 6 = .ok (.istore 4, 2) := by decide +kernel
theorem md_Mo_hears_8 : decode mb_Mo_hears 8 = .ok (.iload_n 2, 1) := by decide +kernel
theorem md_Mo_hears_9 : decode mb_Mo_hears 9 = .ok (.iconst 4, 1) := by decide +kernel
theorem md_Mo_hears_10 : decode mb_Mo_hears 10 = .ok (.if_icmp .ne 25, 3) := by decide +kernel
theorem md_Mo_hears_13 : decode mb_Mo_hears 13 = .ok (.iload 4, 2) := by decide +kernel
theorem md_Mo_hears_15 : decode mb_Mo_hears 15 = .ok (.iconst 2, 1) := by decide +kernel
theorem md_Mo_hears_16 : decode mb_Mo_hears 16 = .ok (.if_icmp .ne 19, 3) := by decide +kernel
theorem md_Mo_hears_19 : decode mb_Mo_hears 19 = .ok (.aload_n 0, 1) := by decide +kernel
theorem md_Mo_hears_20 : decode mb_Mo_hears 20 = .ok (.getfield 53, 3) := by decide +kernel
theorem md_Mo_hears_23 : decode mb_Mo_hears 23 = .ok (.iload_n 1, 1) := by decide +kernel
theorem md_Mo_hears_24 : decode mb_Mo_hears 24 = .ok (.iload_n 3, 1) := by decide +kernel
theorem md_Mo_hears_25 : decode mb_Mo_hears 25 = .ok (.iastore, 1) := by decide +kernel
theorem md_Mo_hears_26 : decode mb_Mo_hears 26 = .ok (.aload_n 0, 1) := by decide +kernel
theorem md_Mo_hears_27 : decode mb_Mo_hears 27 = .ok (.iload_n 1, 1) := by decide +kernel
theorem md_Mo_hears_28 : decode mb_Mo_hears 28 = .ok (.iconst 0, 1) := by decide +kernel
theorem md_Mo_hears_29 : decode mb_Mo_hears 29 = .ok (.invokevirtual 222, 3) := by decide +kernel
theorem md_Mo_hears_32 : decode mb_Mo_hears 32 = .ok (.goto 299, 3) := by decide +kernel
theorem md_Mo_hears_35 : decode mb_Mo_hears 35 = .ok (.iload_n 2, 1) := by decide +kernel
theorem md_Mo_hears_36 : decode mb_Mo_hears 36 = .ok (.iconst 5, 1) := by decide +kernel
theorem md_Mo_hears_37 : decode mb_Mo_hears 37 = .ok (.if_icmp .ne 17, 3) := by decide +kernel
theorem md_Mo_hears_40 : decode mb_Mo_hears 40 = .ok (.iload 4, 2) := by decide +kernel
theorem md_Mo_hears_42 : decode mb_Mo_hears 42 = .ok (.iconst 2, 1) := by decide +kernel
theorem md_Mo_hears_43 : decode mb_Mo_hears 43 = .ok (.if_icmp .ne 11, 3) := by decide +kernel
theorem md_Mo_hears_46 : decode mb_Mo_hears 46 = .ok (.aload_n 0, 1) := by decide +kernel
theorem md_Mo_hears_47 : decode mb_Mo_hears 47 = .ok (.iload_n 1, 1) := by decide +kernel
theorem md_Mo_hears_48 : decode mb_Mo_hears 48 = .ok (.invokevirtual 203, 3) := by decide +kernel
theorem md_Mo_hears_51 : decode mb_Mo_hears 51 = .ok (.goto 280, 3) := by decide +kernel
theorem md_Mo_hears_54 : decode mb_Mo_hears 54 = .ok (.iload_n 2, 1) := by decide +kernel
theorem md_Mo_hears_55 : decode mb_Mo_hears 55 = .ok (.bipush 7, 2) := by decide +kernel
theorem md_Mo_hears_57 : decode mb_Mo_hears 57 = .ok (.if_icmp .ne 30, 3) := by decide +kernel
theorem md_Mo_hears_60 : decode mb_Mo_hears 60 = .ok (.iload 4, 2) := by decide +kernel
theorem md_Mo_hears_62 : decode mb_Mo_hears 62 = .ok (.iconst 3, 1) := by decide +kernel
theorem md_Mo_hears_63 : decode mb_Mo_hears 63 = .ok (.if_icmp .ne 24, 3) := by decide +kernel
theorem md_Mo_hears_66 : decode mb_Mo_hears 66 = .ok (.iload_n 3, 1) := by decide +kernel
theorem md_Mo_hears_67 : decode mb_Mo_hears 67 = .ok (.aload_n 0, 1) := by decide +kernel
theorem md_Mo_hears_68 : decode mb_Mo_hears 68 = .ok (.getfield 65, 3) := by decide +kernel
theorem md_Mo_hears_71 : decode mb_Mo_hears 71 = .ok (.iload_n 1, 1) := by decide +kernel
theorem md_Mo_hears_72 : decode mb_Mo_hears 72 = .ok (.iaload, 1) := by decide +kernel
theorem md_Mo_hears_73 : decode mb_Mo_hears 73 = .ok (.if_icmp .ne 14, 3) := by decide +kernel
theorem md_Mo_hears_76 : decode mb_Mo_hears 76 = .ok (.aload_n 0, 1) := by decide +kernel
theorem md_Mo_hears_77 : decode mb_Mo_hears 77 = .ok (.iload_n 1, 1) := by decide +kernel
theorem md_Mo_hears_78 : decode mb_Mo_hears 78 = .ok (.iload_n 3, 1) := by decide +kernel
theorem md_Mo_hears_79 : decode mb_Mo_hears 79 = .ok (.iconst 1, 1) := by decide +kernel
theorem md_Mo_hears_80 : decode mb_Mo_hears 80 = .ok (.iadd, 1) := by decide +kernel
theorem md_Mo_hears_81 : decode mb_Mo_hears 81 = .ok (.invokevirtual 222, 3) := by decide +kernel
theorem md_Mo_hears_84 : decode mb_Mo_hears 84 = .ok (.goto 247, 3) := by decide +kernel
theorem md_Mo_hears_87 : decode mb_Mo_hears 87 = .ok (.iload_n 2, 1) := by decide +kernel
theorem md_Mo_hears_88 : decode mb_Mo_hears 88 = .ok (.bipush 9, 2) := by decide +kernel
theorem md_Mo_hears_90 : decode mb_Mo_hears 90 = .ok (.if_icmp .ne 18, 3) := by decide +kernel
theorem md_Mo_hears_93 : decode mb_Mo_hears 93 = .ok (.iload 4, 2) := by decide +kernel
theorem md_Mo_hears_95 : decode mb_Mo_hears 95 = .ok (.iconst 4, 1) := by decide +kernel
theorem md_Mo_hears_96 : decode mb_Mo_hears 96 = .ok (.if_icmp .ne 12, 3) := by decide +kernel
theorem md_Mo_hears_99 : decode mb_Mo_hears 99 = .ok (.aload_n 0, 1) := by decide +kernel
theorem md_Mo_hears_100 : decode mb_Mo_hears 100 = .ok (.iload_n 1, 1) := by decide +kernel
theorem md_Mo_hears_101 : decode mb_Mo_hears 101 = .ok (.iconst 5, 1) := by decide +kernel
theorem md_Mo_hears_102 : decode mb_Mo_hears 102 = .ok (.invokevirtual 200, 3) := by decide +kernel
theorem md_Mo_hears_105 : decode mb_Mo_hears 105 = .ok (.goto 226, 3) := by decide +kernel
theorem md_Mo_hears_108 : decode mb_Mo_hears 108 = .ok (.iload_n 2, 1) := by decide +kernel
theorem md_Mo_hears_109 : decode mb_Mo_hears 109 = .ok (.bipush 10, 2) := by decide +kernel
theorem md_Mo_hears_111 : decode mb_Mo_hears 111 = .ok (.if_icmp .ne 67, 3) := by decide +kernel
theorem md_Mo_hears_114 : decode mb_Mo_hears 114 = .ok (.iload 4, 2) := by decide +kernel
theorem md_Mo_hears_116 : decode mb_Mo_hears 116 = .ok (.iconst 5, 1) := by decide +kernel
theorem md_Mo_hears_117 : decode mb_Mo_hears 117 = .ok (.if_icmp .lt 61, 3) := by decide +kernel
theorem md_Mo_hears_120 : decode mb_Mo_hears 120 = .ok (.aload_n 0, 1) := by decide +kernel
theorem md_Mo_hears_121 : decode mb_Mo_hears 121 = .ok (.bipush 11, 2) := by decide +kernel
theorem md_Mo_hears_123 : decode mb_Mo_hears 123 = .ok (.aload_n 0, 1) := by decide +kernel
theorem md_Mo_hears_124 : decode mb_Mo_hears 124 = .ok (.getfield 44, 3) := by decide +kernel
theorem md_Mo_hears_127 : decode mb_Mo_hears 127 = .ok (.iload_n 1, 1) := by decide +kernel
theorem md_Mo_hears_128 : decode mb_Mo_hears 128 = .ok (.iaload, 1) := by decide +kernel
theorem md_Mo_hears_129 : decode mb_Mo_hears 129 = .ok (.iconst 0, 1) := by decide +kernel
theorem md_Mo_hears_130 : decode mb_Mo_hears 130 = .ok (.aload_n 0, 1) := by decide +kernel
theorem md_Mo_hears_131 : decode mb_Mo_hears 131 = .ok (.getfield 50, 3) := by decide +kernel
theorem md_Mo_hears_134 : decode mb_Mo_hears 134 = .ok (.iload_n 1, 1) := by decide +kernel
theorem md_Mo_hears_135 : decode mb_Mo_hears 135 = .ok (.iaload, 1) := by decide +kernel
theorem md_Mo_hears_136 : decode mb_Mo_hears 136 = .ok (.invokevirtual 197, 3) := by decide +kernel
theorem md_Mo_hears_139 : decode mb_Mo_hears 139 = .ok (.iload 4, 2) := by decide +kernel
theorem md_Mo_hears_141 : decode mb_Mo_hears 141 = .ok (.bipush 6, 2) := by decide +kernel
theorem md_Mo_hears_143 : decode mb_Mo_hears 143 = .ok (.if_icmp .ne 4, 3) := by decide +kernel
theorem md_Mo_hears_146 : decode mb_Mo_hears 146 = .ok (.return_, 1) := by decide +kernel
theorem md_Mo_hears_147 : decode mb_Mo_hears 147 = .ok (.aload_n 0, 1) := by decide +kernel
theorem md_Mo_hears_148 : decode mb_Mo_hears 148 = .ok (.iload_n 1, 1) := by decide +kernel
theorem md_Mo_hears_149 : decode mb_Mo_hears 149 = .ok (.bipush 6, 2) := by decide +kernel
theorem md_Mo_hears_151 : decode mb_Mo_hears 151 = .ok (.invokevirtual 200, 3) := by decide +kernel
theorem md_Mo_hears_154 : decode mb_Mo_hears 154 = .ok (.aload_n 0, 1) := by decide +kernel
theorem md_Mo_hears_155 : decode mb_Mo_hears 155 = .ok (.getfield 68, 3) := by decide +kernel
theorem md_Mo_hears_158 : decode mb_Mo_hears 158 = .ok (.iload_n 1, 1) := by decide +kernel
theorem md_Mo_hears_159 : decode mb_Mo_hears 159 = .ok (.iconst 0, 1) := by decide +kernel
theorem md_Mo_hears_160 : decode mb_Mo_hears 160 = .ok (.iastore, 1) := by decide +kernel
theorem md_Mo_hears_161 : decode mb_Mo_hears 161 = .ok (.aload_n 0, 1) := by decide +kernel
theorem md_Mo_hears_162 : decode mb_Mo_hears 162 = .ok (.getfield 71, 3) := by decide +kernel
theorem md_Mo_hears_165 : decode mb_Mo_hears 165 = .ok (.iload_n 1, 1) := by decide +kernel
theorem md_Mo_hears_166 : decode mb_Mo_hears 166 = .ok (.iconst (-1), 1) := by decide +kernel
theorem md_Mo_hears_167 : decode mb_Mo_hears 167 = .ok (.iastore, 1) := by decide +kernel
theorem md_Mo_hears_168 : decode mb_Mo_hears 168 = .ok (.aload_n 0, 1) := by decide +kernel
theorem md_Mo_hears_169 : decode mb_Mo_hears 169 = .ok (.getfield 56, 3) := by decide +kernel
theorem md_Mo_hears_172 : decode mb_Mo_hears 172 = .ok (.iload_n 1, 1) := by decide +kernel
theorem md_Mo_hears_173 : decode mb_Mo_hears 173 = .ok (.iconst 0, 1) := by decide +kernel
theorem md_Mo_hears_174 : decode mb_Mo_hears 174 = .ok (.iastore, 1) := by decide +kernel
theorem md_Mo_hears_175 : decode mb_Mo_hears 175 = .ok (.goto 156, 3) := by decide +kernel
theorem md_Mo_hears_178 : decode mb_Mo_hears 178 = .ok (.iload_n 2, 1) := by decide +kernel
theorem md_Mo_hears_179 : decode mb_Mo_hears 179 = .ok (.bipush 13, 2) := by decide +kernel
theorem md_Mo_hears_181 : decode mb_Mo_hears 181 = .ok (.if_icmp .ne 88, 3) := by decide +kernel
theorem md_Mo_hears_184 : decode mb_Mo_hears 184 = .ok (.iload 4, 2) := by decide +kernel
theorem md_Mo_hears_186 : decode mb_Mo_hears 186 = .ok (.bipush 6, 2) := by decide +kernel
theorem md_Mo_hears_188 : decode mb_Mo_hears 188 = .ok (.if_icmp .ne 81, 3) := by decide +kernel
theorem md_Mo_hears_191 : decode mb_Mo_hears 191 = .ok (.iload_n 3, 1) := by decide +kernel
theorem md_Mo_hears_192 : decode mb_Mo_hears 192 = .ok (.aload_n 0, 1) := by decide +kernel
theorem md_Mo_hears_193 : decode mb_Mo_hears 193 = .ok (.getfield 71, 3) := by decide +kernel
theorem md_Mo_hears_196 : decode mb_Mo_hears 196 = .ok (.iload_n 1, 1) := by decide +kernel
theorem md_Mo_hears_197 : decode mb_Mo_hears 197 = .ok (.iaload, 1) := by decide +kernel
theorem md_Mo_hears_198 : decode mb_Mo_hears 198 = .ok (.invokestatic 225, 3) := by decide +kernel
theorem md_Mo_hears_201 : decode mb_Mo_hears 201 = .ok (.ifCond .eq 68, 3) := by decide +kernel
theorem md_Mo_hears_204 : decode mb_Mo_hears 204 = .ok (.aload_n 0, 1) := by decide +kernel
theorem md_Mo_hears_205 : decode mb_Mo_hears 205 = .ok (.getfield 71, 3) := by decide +kernel
theorem md_Mo_hears_208 : decode mb_Mo_hears 208 = .ok (.iload_n 1, 1) := by decide +kernel
theorem md_Mo_hears_209 : decode mb_Mo_hears 209 = .ok (.iload_n 3, 1) := by decide +kernel
theorem md_Mo_hears_210 : decode mb_Mo_hears 210 = .ok (.iastore, 1) := by decide +kernel
theorem md_Mo_hears_211 : decode mb_Mo_hears 211 = .ok (.aload_n 0, 1) := by decide +kernel
theorem md_Mo_hears_212 : decode mb_Mo_hears 212 = .ok (.getfield 59, 3) := by decide +kernel
theorem md_Mo_hears_215 : decode mb_Mo_hears 215 = .ok (.iload_n 1, 1) := by decide +kernel
theorem md_Mo_hears_216 : decode mb_Mo_hears 216 = .ok (.iconst 0, 1) := by decide +kernel
theorem md_Mo_hears_217 : decode mb_Mo_hears 217 = .ok (.iastore, 1) := by decide +kernel
theorem md_Mo_hears_218 : decode mb_Mo_hears 218 = .ok (.aload_n 0, 1) := by decide +kernel
theorem md_Mo_hears_219 : decode mb_Mo_hears 219 = .ok (.getfield 56, 3) := by decide +kernel
theorem md_Mo_hears_222 : decode mb_Mo_hears 222 = .ok (.iload_n 1, 1) := by decide +kernel
theorem md_Mo_hears_223 : decode mb_Mo_hears 223 = .ok (.aload_n 0, 1) := by decide +kernel
theorem md_Mo_hears_224 : decode mb_Mo_hears 224 = .ok (.getfield 38, 3) := by decide +kernel
theorem md_Mo_hears_227 : decode mb_Mo_hears 227 = .ok (.bipush 6, 2) := by decide +kernel
theorem md_Mo_hears_229 : decode mb_Mo_hears 229 = .ok (.iaload, 1) := by decide +kernel
theorem md_Mo_hears_230 : decode mb_Mo_hears 230 = .ok (.iastore, 1) := by decide +kernel
theorem md_Mo_hears_231 : decode mb_Mo_hears 231 = .ok (.iconst 0, 1) := by decide +kernel
theorem md_Mo_hears_232 : decode mb_Mo_hears 232 = .ok (.istore 5, 2) := by decide +kernel
theorem md_Mo_hears_234 : decode mb_Mo_hears 234 = .ok (.iload 5, 2) := by decide +kernel
theorem md_Mo_hears_236 : decode mb_Mo_hears 236 = .ok (.bipush 6, 2) := by decide +kernel
theorem md_Mo_hears_238 : decode mb_Mo_hears 238 = .ok (.if_icmp .ge 28, 3) := by decide +kernel
theorem md_Mo_hears_241 : decode mb_Mo_hears 241 = .ok (.aload_n 0, 1) := by decide +kernel
theorem md_Mo_hears_242 : decode mb_Mo_hears 242 = .ok (.getfield 86, 3) := by decide +kernel
theorem md_Mo_hears_245 : decode mb_Mo_hears 245 = .ok (.bipush 6, 2) := by decide +kernel
theorem md_Mo_hears_247 : decode mb_Mo_hears 247 = .ok (.iload_n 1, 1) := by decide +kernel
theorem md_Mo_hears_248 : decode mb_Mo_hears 248 = .ok (.imul, 1) := by decide +kernel
theorem md_Mo_hears_249 : decode mb_Mo_hears 249 = .ok (.iload 5, 2) := by decide +kernel
theorem md_Mo_hears_251 : decode mb_Mo_hears 251 = .ok (.iadd, 1) := by decide +kernel
theorem md_Mo_hears_252 : decode mb_Mo_hears 252 = .ok (.aload_n 0, 1) := by decide +kernel
theorem md_Mo_hears_253 : decode mb_Mo_hears 253 = .ok (.getfield 38, 3) := by decide +kernel
theorem md_Mo_hears_256 : decode mb_Mo_hears 256 = .ok (.iload 5, 2) := by decide +kernel
theorem md_Mo_hears_258 : decode mb_Mo_hears 258 = .ok (.iaload, 1) := by decide +kernel
theorem md_Mo_hears_259 : decode mb_Mo_hears 259 = .ok (.iastore, 1) := by decide +kernel
theorem md_Mo_hears_260 : decode mb_Mo_hears 260 = .ok (.iinc 5 1, 3) := by decide +kernel
theorem md_Mo_hears_263 : decode mb_Mo_hears 263 = .ok (.goto (-29), 3) := by decide +kernel
theorem md_Mo_hears_266 : decode mb_Mo_hears 266 = .ok (.goto 65, 3) := by decide +kernel
theorem md_Mo_hears_269 : decode mb_Mo_hears 269 = .ok (.iload_n 2, 1) := by decide +kernel
theorem md_Mo_hears_270 : decode mb_Mo_hears 270 = .ok (.bipush 14, 2) := by decide +kernel
theorem md_Mo_hears_272 : decode mb_Mo_hears 272 = .ok (.if_icmp .ne 48, 3) := by decide +kernel
theorem md_Mo_hears_275 : decode mb_Mo_hears 275 = .ok (.aload_n 0, 1) := by decide +kernel
theorem md_Mo_hears_276 : decode mb_Mo_hears 276 = .ok (.bipush 15, 2) := by decide +kernel
theorem md_Mo_hears_278 : decode mb_Mo_hears 278 = .ok (.aload_n 0, 1) := by decide +kernel
theorem md_Mo_hears_279 : decode mb_Mo_hears 279 = .ok (.getfield 44, 3) := by decide +kernel
theorem md_Mo_hears_282 : decode mb_Mo_hears 282 = .ok (.iload_n 1, 1) := by decide +kernel
theorem md_Mo_hears_283 : decode mb_Mo_hears 283 = .ok (.iaload, 1) := by decide +kernel
theorem md_Mo_hears_284 : decode mb_Mo_hears 284 = .ok (.iload_n 3, 1) := by decide +kernel
theorem md_Mo_hears_285 : decode mb_Mo_hears 285 = .ok (.aload_n 0, 1) := by decide +kernel
theorem md_Mo_hears_286 : decode mb_Mo_hears 286 = .ok (.getfield 50, 3) := by decide +kernel
theorem md_Mo_hears_289 : decode mb_Mo_hears 289 = .ok (.iload_n 1, 1) := by decide +kernel
theorem md_Mo_hears_290 : decode mb_Mo_hears 290 = .ok (.iaload, 1) := by decide +kernel
theorem md_Mo_hears_291 : decode mb_Mo_hears 291 = .ok (.invokevirtual 197, 3) := by decide +kernel
theorem md_Mo_hears_294 : decode mb_Mo_hears 294 = .ok (.iload 4, 2) := by decide +kernel
theorem md_Mo_hears_296 : decode mb_Mo_hears 296 = .ok (.bipush 6, 2) := by decide +kernel
theorem md_Mo_hears_298 : decode mb_Mo_hears 298 = .ok (.if_icmp .ne 33, 3) := by decide +kernel
theorem md_Mo_hears_301 : decode mb_Mo_hears 301 = .ok (.iload_n 3, 1) := by decide +kernel
theorem md_Mo_hears_302 : decode mb_Mo_hears 302 = .ok (.aload_n 0, 1) := by decide +kernel
theorem md_Mo_hears_303 : decode mb_Mo_hears 303 = .ok (.getfield 74, 3) := by decide +kernel
theorem md_Mo_hears_306 : decode mb_Mo_hears 306 = .ok (.iload_n 1, 1) := by decide +kernel
theorem md_Mo_hears_307 : decode mb_Mo_hears 307 = .ok (.iaload, 1) := by decide +kernel
theorem md_Mo_hears_308 : decode mb_Mo_hears 308 = .ok (.if_icmp .eq 23, 3) := by decide +kernel
theorem md_Mo_hears_311 : decode mb_Mo_hears 311 = .ok (.aload_n 0, 1) := by decide +kernel
theorem md_Mo_hears_312 : decode mb_Mo_hears 312 = .ok (.iload_n 1, 1) := by decide +kernel
theorem md_Mo_hears_313 : decode mb_Mo_hears 313 = .ok (.iload_n 3, 1) := by decide +kernel
theorem md_Mo_hears_314 : decode mb_Mo_hears 314 = .ok (.invokevirtual 229, 3) := by decide +kernel
theorem md_Mo_hears_317 : decode mb_Mo_hears 317 = .ok (.goto 14, 3) := by decide +kernel
theorem md_Mo_hears_320 : decode mb_Mo_hears 320 = .ok (.iload_n 2, 1) := by decide +kernel
theorem md_Mo_hears_321 : decode mb_Mo_hears 321 = .ok (.bipush 16, 2) := by decide +kernel
theorem md_Mo_hears_323 : decode mb_Mo_hears 323 = .ok (.if_icmp .ne 8, 3) := by decide +kernel
theorem md_Mo_hears_326 : decode mb_Mo_hears 326 = .ok (.aload_n 0, 1) := by decide +kernel
theorem md_Mo_hears_327 : decode mb_Mo_hears 327 = .ok (.iload_n 1, 1) := by decide +kernel
theorem md_Mo_hears_328 : decode mb_Mo_hears 328 = .ok (.invokevirtual 203, 3) := by decide +kernel
theorem md_Mo_hears_331 : decode mb_Mo_hears 331 = .ok (.return_, 1) := by decide +kernel
abbrev mb_Mo_controller : ByteArray := prog_11_method_27_code
def my_Mo_controller : MethodName := ⟨R_Mo, "controller", "(III)V"⟩
abbrev mrm_Mo_controller : Room := { frames := 5, cells := 0, slots := 0, locals := 117 }
theorem mK_Mo_controller : Cond.code my_Mo_controller mb_Mo_controller 5 none ∈ vTB := vTB_in 1001 (by decide +kernel) rfl
theorem mI_Mo_controller : Cond.instanceMethod my_Mo_controller ∈ vTB := vTB_in 1000 (by decide +kernel) rfl
theorem mS_Mo_controller : Cond.selects R_Mo my_Mo_controller my_Mo_controller ∈ vTB := vTB_sel (q := (my_Mo_controller, 57)) 41 (by decide +kernel)
theorem mw_Mo_controller {R : Room} {s : State} {args : Array Value} {own : String} {index : Nat} (hts : ∀ w ∈ vTB, w.before args s = true) (hl : Cond.methodLink own index my_Mo_controller ∈ vTB) (hR : mrm_Mo_controller.frames + 1 ≤ R.frames ∧ 8 + (5 + 11) + mrm_Mo_controller.locals ≤ R.locals) : CallW R s args own R_Mo index my_Mo_controller mb_Mo_controller 5 none (Cond.code my_Mo_controller mb_Mo_controller 5 none :: vTB) mrm_Mo_controller 0 0 3 := cwV 3 hts (fw_gV vTB_good mK_Mo_controller hl mI_Mo_controller mS_Mo_controller N_Mo) rfl rfl rfl (by decide +kernel) hR
theorem md_Mo_controller_0 : decode mb_Mo_controller 0 = .ok (.iconst 0, 1) := by decide +kernel
theorem md_Mo_controller_1 : decode mb_Mo_controller 1 = .ok (.istore 4, 2) := by decide +kernel
theorem md_Mo_controller_3 : decode mb_Mo_controller 3 = .ok (.iload 4, 2) := by decide +kernel
theorem md_Mo_controller_5 : decode mb_Mo_controller 5 = .ok (.iconst 2, 1) := by decide +kernel
theorem md_Mo_controller_6 : decode mb_Mo_controller 6 = .ok (.if_icmp .ge 99, 3) := by decide +kernel
theorem md_Mo_controller_9 : decode mb_Mo_controller 9 = .ok (.iload_n 1, 1) := by decide +kernel
theorem md_Mo_controller_10 : decode mb_Mo_controller 10 = .ok (.iconst 2, 1) := by decide +kernel
theorem md_Mo_controller_11 : decode mb_Mo_controller 11 = .ok (.if_icmp .ne 54, 3) := by decide +kernel
theorem md_Mo_controller_14 : decode mb_Mo_controller 14 = .ok (.aload_n 0, 1) := by decide +kernel
theorem md_Mo_controller_15 : decode mb_Mo_controller 15 = .ok (.getfield 41, 3) := by decide +kernel
theorem md_Mo_controller_18 : decode mb_Mo_controller 18 = .ok (.iload 4, 2) := by decide +kernel
theorem md_Mo_controller_20 : decode mb_Mo_controller 20 = .ok (.iaload, 1) := by decide +kernel
theorem md_Mo_controller_21 : decode mb_Mo_controller 21 = .ok (.iconst 1, 1) := by decide +kernel
theorem md_Mo_controller_22 : decode mb_Mo_controller 22 = .ok (.if_icmp .ne 43, 3) := by decide +kernel
theorem md_Mo_controller_25 : decode mb_Mo_controller 25 = .ok (.aload_n 0, 1) := by decide +kernel
theorem md_Mo_controller_26 : decode mb_Mo_controller 26 = .ok (.getfield 47, 3) := by decide +kernel
theorem md_Mo_controller_29 : decode mb_Mo_controller 29 = .ok (.iload 4, 2) := by decide +kernel
theorem md_Mo_controller_31 : decode mb_Mo_controller 31 = .ok (.iaload, 1) := by decide +kernel
theorem md_Mo_controller_32 : decode mb_Mo_controller 32 = .ok (.aload_n 0, 1) := by decide +kernel
theorem md_Mo_controller_33 : decode mb_Mo_controller 33 = .ok (.getfield 38, 3) := by decide +kernel
theorem md_Mo_controller_36 : decode mb_Mo_controller 36 = .ok (.iconst 0, 1) := by decide +kernel
theorem md_Mo_controller_37 : decode mb_Mo_controller 37 = .ok (.iaload, 1) := by decide +kernel
theorem md_Mo_controller_38 : decode mb_Mo_controller 38 = .ok (.if_icmp .ne 27, 3) := by decide +kernel
theorem md_Mo_controller_41 : decode mb_Mo_controller 41 = .ok (.aload_n 0, 1) := by decide +kernel
theorem md_Mo_controller_42 : decode mb_Mo_controller 42 = .ok (.iload 4, 2) := by decide +kernel
theorem md_Mo_controller_44 : decode mb_Mo_controller 44 = .ok (.iconst 2, 1) := by decide +kernel
theorem md_Mo_controller_45 : decode mb_Mo_controller 45 = .ok (.invokevirtual 200, 3) := by decide +kernel
theorem md_Mo_controller_48 : decode mb_Mo_controller 48 = .ok (.aload_n 0, 1) := by decide +kernel
theorem md_Mo_controller_49 : decode mb_Mo_controller 49 = .ok (.getfield 50, 3) := by decide +kernel
theorem md_Mo_controller_52 : decode mb_Mo_controller 52 = .ok (.iload 4, 2) := by decide +kernel
theorem md_Mo_controller_54 : decode mb_Mo_controller 54 = .ok (.iload_n 3, 1) := by decide +kernel
theorem md_Mo_controller_55 : decode mb_Mo_controller 55 = .ok (.iastore, 1) := by decide +kernel
theorem md_Mo_controller_56 : decode mb_Mo_controller 56 = .ok (.aload_n 0, 1) := by decide +kernel
theorem md_Mo_controller_57 : decode mb_Mo_controller 57 = .ok (.iload 4, 2) := by decide +kernel
theorem md_Mo_controller_59 : decode mb_Mo_controller 59 = .ok (.invokevirtual 213, 3) := by decide +kernel
theorem md_Mo_controller_62 : decode mb_Mo_controller 62 = .ok (.goto 37, 3) := by decide +kernel
theorem md_Mo_controller_65 : decode mb_Mo_controller 65 = .ok (.iload_n 1, 1) := by decide +kernel
theorem md_Mo_controller_66 : decode mb_Mo_controller 66 = .ok (.iconst 2, 1) := by decide +kernel
theorem md_Mo_controller_67 : decode mb_Mo_controller 67 = .ok (.if_icmp .eq 32, 3) := by decide +kernel
theorem md_Mo_controller_70 : decode mb_Mo_controller 70 = .ok (.aload_n 0, 1) := by decide +kernel
theorem md_Mo_controller_71 : decode mb_Mo_controller 71 = .ok (.getfield 41, 3) := by decide +kernel
theorem md_Mo_controller_74 : decode mb_Mo_controller 74 = .ok (.iload 4, 2) := by decide +kernel
theorem md_Mo_controller_76 : decode mb_Mo_controller 76 = .ok (.iaload, 1) := by decide +kernel
theorem md_Mo_controller_77 : decode mb_Mo_controller 77 = .ok (.ifCond .eq 22, 3) := by decide +kernel
theorem md_Mo_controller_80 : decode mb_Mo_controller 80 = .ok (.aload_n 0, 1) := by decide +kernel
theorem md_Mo_controller_81 : decode mb_Mo_controller 81 = .ok (.getfield 44, 3) := by decide +kernel
theorem md_Mo_controller_84 : decode mb_Mo_controller 84 = .ok (.iload 4, 2) := by decide +kernel
theorem md_Mo_controller_86 : decode mb_Mo_controller 86 = .ok (.iaload, 1) := by decide +kernel
theorem md_Mo_controller_87 : decode mb_Mo_controller 87 = .ok (.iload_n 2, 1) := by decide +kernel
theorem md_Mo_controller_88 : decode mb_Mo_controller 88 = .ok (.if_icmp .ne 11, 3) := by decide +kernel
theorem md_Mo_controller_91 : decode mb_Mo_controller 91 = .ok (.aload_n 0, 1) := by decide +kernel
theorem md_Mo_controller_92 : decode mb_Mo_controller 92 = .ok (.iload 4, 2) := by decide +kernel
theorem md_Mo_controller_94 : decode mb_Mo_controller 94 = .ok (.iload_n 1, 1) := by decide +kernel
theorem md_Mo_controller_95 : decode mb_Mo_controller 95 = .ok (.iload_n 3, 1) := by decide +kernel
theorem md_Mo_controller_96 : decode mb_Mo_controller 96 = .ok (.invokevirtual 219, 3) := by decide +kernel
theorem md_Mo_controller_99 : decode mb_Mo_controller 99 = .ok (.iinc 4 1, 3) := by decide +kernel
theorem md_Mo_controller_102 : decode mb_Mo_controller 102 = .ok (.goto (-99), 3) := by decide +kernel
theorem md_Mo_controller_105 : decode mb_Mo_controller 105 = .ok (.return_, 1) := by decide +kernel
