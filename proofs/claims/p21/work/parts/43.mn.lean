abbrev mb_Mo_reply : ByteArray := prog_11_method_32_code
def my_Mo_reply : MethodName := ⟨R_Mo, "reply", "(III)V"⟩
abbrev mrm_Mo_reply : Room := { frames := 2, cells := 0, slots := 0, locals := 46 }
theorem mK_Mo_reply : Cond.code my_Mo_reply mb_Mo_reply 4 none ∈ vTB := vTB_in 1048 (by decide +kernel) rfl
theorem mI_Mo_reply : Cond.instanceMethod my_Mo_reply ∈ vTB := vTB_in 1047 (by decide +kernel) rfl
theorem mS_Mo_reply : Cond.selects R_Mo my_Mo_reply my_Mo_reply ∈ vTB := vTB_sel (q := (my_Mo_reply, 57)) 52 (by decide +kernel)
theorem mw_Mo_reply {R : Room} {s : State} {args : Array Value} {own : String} {index : Nat} (hts : ∀ w ∈ vTB, w.before args s = true) (hl : Cond.methodLink own index my_Mo_reply ∈ vTB) (hR : mrm_Mo_reply.frames + 1 ≤ R.frames ∧ 8 + (4 + 11) + mrm_Mo_reply.locals ≤ R.locals) : CallW R s args own R_Mo index my_Mo_reply mb_Mo_reply 4 none (Cond.code my_Mo_reply mb_Mo_reply 4 none :: vTB) mrm_Mo_reply 0 0 3 := cwV 3 hts (fw_gV vTB_good mK_Mo_reply hl mI_Mo_reply mS_Mo_reply N_Mo) rfl rfl rfl (by decide +kernel) hR
theorem md_Mo_reply_0 : decode mb_Mo_reply 0 = .ok (.aload_n 0, 1) := by decide +kernel
theorem md_Mo_reply_1 : decode mb_Mo_reply 1 = .ok (.iload_n 2, 1) := by decide +kernel
theorem md_Mo_reply_2 : decode mb_Mo_reply 2 = .ok (.aload_n 0, 1) := by decide +kernel
theorem md_Mo_reply_3 : decode mb_Mo_reply 3 = .ok (.getfield 92, 3) := by decide +kernel
theorem md_Mo_reply_6 : decode mb_Mo_reply 6 = .ok (.iload_n 1, 1) := by decide +kernel
theorem md_Mo_reply_7 : decode mb_Mo_reply 7 = .ok (.iaload, 1) := by decide +kernel
theorem md_Mo_reply_8 : decode mb_Mo_reply 8 = .ok (.iload_n 3, 1) := by decide +kernel
theorem md_Mo_reply_9 : decode mb_Mo_reply 9 = .ok (.iconst 2, 1) := by decide +kernel
theorem md_Mo_reply_10 : decode mb_Mo_reply 10 = .ok (.invokevirtual 197, 3) := by decide +kernel
theorem md_Mo_reply_13 : decode mb_Mo_reply 13 = .ok (.return_, 1) := by decide +kernel
abbrev mb_Mo_connect : ByteArray := prog_11_method_36_code
def my_Mo_connect : MethodName := ⟨R_Mo, "connect", "(II)V"⟩
abbrev mrm_Mo_connect : Room := { frames := 3, cells := 0, slots := 0, locals := 69 }
theorem mK_Mo_connect : Cond.code my_Mo_connect mb_Mo_connect 4 none ∈ vTB := vTB_in 1044 (by decide +kernel) rfl
theorem mI_Mo_connect : Cond.instanceMethod my_Mo_connect ∈ vTB := vTB_in 1043 (by decide +kernel) rfl
theorem mS_Mo_connect : Cond.selects R_Mo my_Mo_connect my_Mo_connect ∈ vTB := vTB_sel (q := (my_Mo_connect, 57)) 51 (by decide +kernel)
theorem mw_Mo_connect {R : Room} {s : State} {args : Array Value} {own : String} {index : Nat} (hts : ∀ w ∈ vTB, w.before args s = true) (hl : Cond.methodLink own index my_Mo_connect ∈ vTB) (hR : mrm_Mo_connect.frames + 1 ≤ R.frames ∧ 8 + (4 + 11) + mrm_Mo_connect.locals ≤ R.locals) : CallW R s args own R_Mo index my_Mo_connect mb_Mo_connect 4 none (Cond.code my_Mo_connect mb_Mo_connect 4 none :: vTB) mrm_Mo_connect 0 0 2 := cwV 2 hts (fw_gV vTB_good mK_Mo_connect hl mI_Mo_connect mS_Mo_connect N_Mo) rfl rfl rfl (by decide +kernel) hR
theorem md_Mo_connect_0 : decode mb_Mo_connect 0 = .ok (.aload_n 0, 1) := by decide +kernel
theorem md_Mo_connect_1 : decode mb_Mo_connect 1 = .ok (.getfield 89, 3) := by decide +kernel
theorem md_Mo_connect_4 : decode mb_Mo_connect 4 = .ok (.iload_n 1, 1) := by decide +kernel
theorem md_Mo_connect_5 : decode mb_Mo_connect 5 = .ok (.iaload, 1) := by decide +kernel
theorem md_Mo_connect_6 : decode mb_Mo_connect 6 = .ok (.ifCond .eq 22, 3) := by decide +kernel
theorem md_Mo_connect_9 : decode mb_Mo_connect 9 = .ok (.aload_n 0, 1) := by decide +kernel
theorem md_Mo_connect_10 : decode mb_Mo_connect 10 = .ok (.getfield 92, 3) := by decide +kernel
theorem md_Mo_connect_13 : decode mb_Mo_connect 13 = .ok (.iload_n 1, 1) := by decide +kernel
theorem md_Mo_connect_14 : decode mb_Mo_connect 14 = .ok (.iaload, 1) := by decide +kernel
theorem md_Mo_connect_15 : decode mb_Mo_connect 15 = .ok (.iload_n 2, 1) := by decide +kernel
theorem md_Mo_connect_16 : decode mb_Mo_connect 16 = .ok (.if_icmp .eq 12, 3) := by decide +kernel
theorem md_Mo_connect_19 : decode mb_Mo_connect 19 = .ok (.aload_n 0, 1) := by decide +kernel
theorem md_Mo_connect_20 : decode mb_Mo_connect 20 = .ok (.iconst 5, 1) := by decide +kernel
theorem md_Mo_connect_21 : decode mb_Mo_connect 21 = .ok (.iload_n 2, 1) := by decide +kernel
theorem md_Mo_connect_22 : decode mb_Mo_connect 22 = .ok (.iconst 0, 1) := by decide +kernel
theorem md_Mo_connect_23 : decode mb_Mo_connect 23 = .ok (.iconst 2, 1) := by decide +kernel
theorem md_Mo_connect_24 : decode mb_Mo_connect 24 = .ok (.invokevirtual 197, 3) := by decide +kernel
theorem md_Mo_connect_27 : decode mb_Mo_connect 27 = .ok (.return_, 1) := by decide +kernel
theorem md_Mo_connect_28 : decode mb_Mo_connect 28 = .ok (.aload_n 0, 1) := by decide +kernel
theorem md_Mo_connect_29 : decode mb_Mo_connect 29 = .ok (.getfield 89, 3) := by decide +kernel
theorem md_Mo_connect_32 : decode mb_Mo_connect 32 = .ok (.iload_n 1, 1) := by decide +kernel
theorem md_Mo_connect_33 : decode mb_Mo_connect 33 = .ok (.iaload, 1) := by decide +kernel
theorem md_Mo_connect_34 : decode mb_Mo_connect 34 = .ok (.iconst 1, 1) := by decide +kernel
theorem md_Mo_connect_35 : decode mb_Mo_connect 35 = .ok (.if_icmp .le 4, 3) := by decide +kernel
theorem md_Mo_connect_38 : decode mb_Mo_connect 38 = .ok (.return_, 1) := by decide +kernel
theorem md_Mo_connect_39 : decode mb_Mo_connect 39 = .ok (.aload_n 0, 1) := by decide +kernel
theorem md_Mo_connect_40 : decode mb_Mo_connect 40 = .ok (.getfield 89, 3) := by decide +kernel
theorem md_Mo_connect_43 : decode mb_Mo_connect 43 = .ok (.iload_n 1, 1) := by decide +kernel
theorem md_Mo_connect_44 : decode mb_Mo_connect 44 = .ok (.iconst 1, 1) := by decide +kernel
theorem md_Mo_connect_45 : decode mb_Mo_connect 45 = .ok (.iastore, 1) := by decide +kernel
theorem md_Mo_connect_46 : decode mb_Mo_connect 46 = .ok (.aload_n 0, 1) := by decide +kernel
theorem md_Mo_connect_47 : decode mb_Mo_connect 47 = .ok (.getfield 92, 3) := by decide +kernel
theorem md_Mo_connect_50 : decode mb_Mo_connect 50 = .ok (.iload_n 1, 1) := by decide +kernel
theorem md_Mo_connect_51 : decode mb_Mo_connect 51 = .ok (.iload_n 2, 1) := by decide +kernel
theorem md_Mo_connect_52 : decode mb_Mo_connect 52 = .ok (.iastore, 1) := by decide +kernel
theorem md_Mo_connect_53 : decode mb_Mo_connect 53 = .ok (.aload_n 0, 1) := by decide +kernel
theorem md_Mo_connect_54 : decode mb_Mo_connect 54 = .ok (.getfield 101, 3) := by decide +kernel
theorem md_Mo_connect_57 : decode mb_Mo_connect 57 = .ok (.iload_n 1, 1) := by decide +kernel
theorem md_Mo_connect_58 : decode mb_Mo_connect 58 = .ok (.iconst 0, 1) := by decide +kernel
theorem md_Mo_connect_59 : decode mb_Mo_connect 59 = .ok (.iastore, 1) := by decide +kernel
theorem md_Mo_connect_60 : decode mb_Mo_connect 60 = .ok (.iconst 0, 1) := by decide +kernel
theorem md_Mo_connect_61 : decode mb_Mo_connect 61 = .ok (.istore_n 3, 1) := by decide +kernel
theorem md_Mo_connect_62 : decode mb_Mo_connect 62 = .ok (.iload_n 3, 1) := by decide +kernel
theorem md_Mo_connect_63 : decode mb_Mo_connect 63 = .ok (.iconst 3, 1) := by decide +kernel
theorem md_Mo_connect_64 : decode mb_Mo_connect 64 = .ok (.if_icmp .ge 44, 3) := by decide +kernel
theorem md_Mo_connect_67 : decode mb_Mo_connect 67 = .ok (.aload_n 0, 1) := by decide +kernel
theorem md_Mo_connect_68 : decode mb_Mo_connect 68 = .ok (.getfield 134, 3) := by decide +kernel
theorem md_Mo_connect_71 : decode mb_Mo_connect 71 = .ok (.iconst 3, 1) := by decide +kernel
theorem md_Mo_connect_72 : decode mb_Mo_connect 72 = .ok (.iload_n 1, 1) := by decide +kernel
theorem md_Mo_connect_73 : decode mb_Mo_connect 73 = .ok (.imul, 1) := by decide +kernel
theorem md_Mo_connect_74 : decode mb_Mo_connect 74 = .ok (.iload_n 3, 1) := by decide +kernel
theorem md_Mo_connect_75 : decode mb_Mo_connect 75 = .ok (.iadd, 1) := by decide +kernel
theorem md_Mo_connect_76 : decode mb_Mo_connect 76 = .ok (.aload_n 0, 1) := by decide +kernel
theorem md_Mo_connect_77 : decode mb_Mo_connect 77 = .ok (.getfield 38, 3) := by decide +kernel
theorem md_Mo_connect_80 : decode mb_Mo_connect 80 = .ok (.iload_n 3, 1) := by decide +kernel
theorem md_Mo_connect_81 : decode mb_Mo_connect 81 = .ok (.iaload, 1) := by decide +kernel
theorem md_Mo_connect_82 : decode mb_Mo_connect 82 = .ok (.iconst 1, 1) := by decide +kernel
theorem md_Mo_connect_83 : decode mb_Mo_connect 83 = .ok (.isub, 1) := by decide +kernel
theorem md_Mo_connect_84 : decode mb_Mo_connect 84 = .ok (.iastore, 1) := by decide +kernel
theorem md_Mo_connect_85 : decode mb_Mo_connect 85 = .ok (.aload_n 0, 1) := by decide +kernel
theorem md_Mo_connect_86 : decode mb_Mo_connect 86 = .ok (.getfield 137, 3) := by decide +kernel
theorem md_Mo_connect_89 : decode mb_Mo_connect 89 = .ok (.iconst 3, 1) := by decide +kernel
theorem md_Mo_connect_90 : decode mb_Mo_connect 90 = .ok (.iload_n 1, 1) := by decide +kernel
theorem md_Mo_connect_91 : decode mb_Mo_connect 91 = .ok (.imul, 1) := by decide +kernel
theorem md_Mo_connect_92 : decode mb_Mo_connect 92 = .ok (.iload_n 3, 1) := by decide +kernel
theorem md_Mo_connect_93 : decode mb_Mo_connect 93 = .ok (.iadd, 1) := by decide +kernel
theorem md_Mo_connect_94 : decode mb_Mo_connect 94 = .ok (.iconst (-1), 1) := by decide +kernel
theorem md_Mo_connect_95 : decode mb_Mo_connect 95 = .ok (.iastore, 1) := by decide +kernel
theorem md_Mo_connect_96 : decode mb_Mo_connect 96 = .ok (.aload_n 0, 1) := by decide +kernel
theorem md_Mo_connect_97 : decode mb_Mo_connect 97 = .ok (.iload_n 1, 1) := by decide +kernel
theorem md_Mo_connect_98 : decode mb_Mo_connect 98 = .ok (.iload_n 3, 1) := by decide +kernel
theorem md_Mo_connect_99 : decode mb_Mo_connect 99 = .ok (.invokevirtual 163, 3) := by decide +kernel
theorem md_Mo_connect_102 : decode mb_Mo_connect 102 = .ok (.iinc 3 1, 3) := by decide +kernel
theorem md_Mo_connect_105 : decode mb_Mo_connect 105 = .ok (.goto (-43), 3) := by decide +kernel
theorem md_Mo_connect_108 : decode mb_Mo_connect 108 = .ok (.aload_n 0, 1) := by decide +kernel
theorem md_Mo_connect_109 : decode mb_Mo_connect 109 = .ok (.iload_n 1, 1) := by decide +kernel
theorem md_Mo_connect_110 : decode mb_Mo_connect 110 = .ok (.iconst 4, 1) := by decide +kernel
theorem md_Mo_connect_111 : decode mb_Mo_connect 111 = .ok (.aload_n 0, 1) := by decide +kernel
theorem md_Mo_connect_112 : decode mb_Mo_connect 112 = .ok (.getfield 98, 3) := by decide +kernel
theorem md_Mo_connect_115 : decode mb_Mo_connect 115 = .ok (.iload_n 1, 1) := by decide +kernel
theorem md_Mo_connect_116 : decode mb_Mo_connect 116 = .ok (.iaload, 1) := by decide +kernel
theorem md_Mo_connect_117 : decode mb_Mo_connect 117 = .ok (.invokevirtual 238, 3) := by decide +kernel
theorem md_Mo_connect_120 : decode mb_Mo_connect 120 = .ok (.return_, 1) := by decide +kernel
abbrev mb_Mo_isGood : ByteArray := prog_11_method_39_code
def my_Mo_isGood : MethodName := ⟨R_Mo, "isGood", "(II)Z"⟩
abbrev mrm_Mo_isGood : Room := { frames := 0, cells := 0, slots := 0, locals := 0 }
theorem mK_Mo_isGood : Cond.code my_Mo_isGood mb_Mo_isGood 3 (some .boolean) ∈ vTB := vTB_in 1056 (by decide +kernel) rfl
theorem mI_Mo_isGood : Cond.instanceMethod my_Mo_isGood ∈ vTB := vTB_in 1055 (by decide +kernel) rfl
theorem mS_Mo_isGood : Cond.selects R_Mo my_Mo_isGood my_Mo_isGood ∈ vTB := vTB_sel (q := (my_Mo_isGood, 57)) 54 (by decide +kernel)
theorem mw_Mo_isGood {R : Room} {s : State} {args : Array Value} {own : String} {index : Nat} (hts : ∀ w ∈ vTB, w.before args s = true) (hl : Cond.methodLink own index my_Mo_isGood ∈ vTB) (hR : mrm_Mo_isGood.frames + 1 ≤ R.frames ∧ 8 + (3 + 11) + mrm_Mo_isGood.locals ≤ R.locals) : CallW R s args own R_Mo index my_Mo_isGood mb_Mo_isGood 3 (some .boolean) (Cond.code my_Mo_isGood mb_Mo_isGood 3 (some .boolean) :: vTB) mrm_Mo_isGood 0 0 2 := cwV 2 hts (fw_gV vTB_good mK_Mo_isGood hl mI_Mo_isGood mS_Mo_isGood N_Mo) rfl rfl rfl (by decide +kernel) hR
theorem md_Mo_isGood_0 : decode mb_Mo_isGood 0 = .ok (.aload_n 0, 1) := by decide +kernel
theorem md_Mo_isGood_1 : decode mb_Mo_isGood 1 = .ok (.getfield 134, 3) := by decide +kernel
theorem md_Mo_isGood_4 : decode mb_Mo_isGood 4 = .ok (.iconst 3, 1) := by decide +kernel
theorem md_Mo_isGood_5 : decode mb_Mo_isGood 5 = .ok (.iload_n 1, 1) := by decide +kernel
theorem md_Mo_isGood_6 : decode mb_Mo_isGood 6 = .ok (.imul, 1) := by decide +kernel
theorem md_Mo_isGood_7 : decode mb_Mo_isGood 7 = .ok (.iload_n 2, 1) := by decide +kernel
theorem md_Mo_isGood_8 : decode mb_Mo_isGood 8 = .ok (.iadd, 1) := by decide +kernel
theorem md_Mo_isGood_9 : decode mb_Mo_isGood 9 = .ok (.iaload, 1) := by decide +kernel
theorem md_Mo_isGood_10 : decode mb_Mo_isGood 10 = .ok (.ifCond .lt 20, 3) := by decide +kernel
theorem md_Mo_isGood_13 : decode mb_Mo_isGood 13 = .ok (.aload_n 0, 1) := by decide +kernel
theorem md_Mo_isGood_14 : decode mb_Mo_isGood 14 = .ok (.getfield 98, 3) := by decide +kernel
theorem md_Mo_isGood_17 : decode mb_Mo_isGood 17 = .ok (.iload_n 1, 1) := by decide +kernel
theorem md_Mo_isGood_18 : decode mb_Mo_isGood 18 = .ok (.iaload, 1) := by decide +kernel
theorem md_Mo_isGood_19 : decode mb_Mo_isGood 19 = .ok (.iload_n 2, 1) := by decide +kernel
theorem md_Mo_isGood_20 : decode mb_Mo_isGood 20 = .ok (.ishr, 1) := by decide +kernel
theorem md_Mo_isGood_21 : decode mb_Mo_isGood 21 = .ok (.iconst 1, 1) := by decide +kernel
theorem md_Mo_isGood_22 : decode mb_Mo_isGood 22 = .ok (.iand, 1) := by decide +kernel
theorem md_Mo_isGood_23 : decode mb_Mo_isGood 23 = .ok (.ifCond .ne 7, 3) := by decide +kernel
theorem md_Mo_isGood_26 : decode mb_Mo_isGood 26 = .ok (.iconst 1, 1) := by decide +kernel
theorem md_Mo_isGood_27 : decode mb_Mo_isGood 27 = .ok (.goto 4, 3) := by decide +kernel
theorem md_Mo_isGood_30 : decode mb_Mo_isGood 30 = .ok (.iconst 0, 1) := by decide +kernel
theorem md_Mo_isGood_31 : decode mb_Mo_isGood 31 = .ok (.ireturn, 1) := by decide +kernel
abbrev mb_Mo_rest : ByteArray := prog_11_method_33_code
def my_Mo_rest : MethodName := ⟨R_Mo, "rest", "(I)V"⟩
abbrev mrm_Mo_rest : Room := { frames := 1, cells := 0, slots := 0, locals := 26 }
theorem mK_Mo_rest : Cond.code my_Mo_rest mb_Mo_rest 4 none ∈ vTB := vTB_in 1064 (by decide +kernel) rfl
theorem mI_Mo_rest : Cond.instanceMethod my_Mo_rest ∈ vTB := vTB_in 1063 (by decide +kernel) rfl
theorem mS_Mo_rest : Cond.selects R_Mo my_Mo_rest my_Mo_rest ∈ vTB := vTB_sel (q := (my_Mo_rest, 57)) 56 (by decide +kernel)
theorem mw_Mo_rest {R : Room} {s : State} {args : Array Value} {own : String} {index : Nat} (hts : ∀ w ∈ vTB, w.before args s = true) (hl : Cond.methodLink own index my_Mo_rest ∈ vTB) (hR : mrm_Mo_rest.frames + 1 ≤ R.frames ∧ 8 + (4 + 11) + mrm_Mo_rest.locals ≤ R.locals) : CallW R s args own R_Mo index my_Mo_rest mb_Mo_rest 4 none (Cond.code my_Mo_rest mb_Mo_rest 4 none :: vTB) mrm_Mo_rest 0 0 1 := cwV 1 hts (fw_gV vTB_good mK_Mo_rest hl mI_Mo_rest mS_Mo_rest N_Mo) rfl rfl rfl (by decide +kernel) hR
theorem md_Mo_rest_0 : decode mb_Mo_rest 0 = .ok (.aload_n 0, 1) := by decide +kernel
theorem md_Mo_rest_1 : decode mb_Mo_rest 1 = .ok (.getfield 89, 3) := by decide +kernel
theorem md_Mo_rest_4 : decode mb_Mo_rest 4 = .ok (.iload_n 1, 1) := by decide +kernel
theorem md_Mo_rest_5 : decode mb_Mo_rest 5 = .ok (.iaload, 1) := by decide +kernel
theorem md_Mo_rest_6 : decode mb_Mo_rest 6 = .ok (.iconst 3, 1) := by decide +kernel
theorem md_Mo_rest_7 : decode mb_Mo_rest 7 = .ok (.if_icmp .ne 7, 3) := by decide +kernel
theorem md_Mo_rest_10 : decode mb_Mo_rest 10 = .ok (.iconst 1, 1) := by decide +kernel
theorem md_Mo_rest_11 : decode mb_Mo_rest 11 = .ok (.goto 4, 3) := by decide +kernel
theorem md_Mo_rest_14 : decode mb_Mo_rest 14 = .ok (.iconst 0, 1) := by decide +kernel
theorem md_Mo_rest_15 : decode mb_Mo_rest 15 = .ok (.istore_n 2, 1) := by decide +kernel
theorem md_Mo_rest_16 : decode mb_Mo_rest 16 = .ok (.aload_n 0, 1) := by decide +kernel
theorem md_Mo_rest_17 : decode mb_Mo_rest 17 = .ok (.getfield 89, 3) := by decide +kernel
theorem md_Mo_rest_20 : decode mb_Mo_rest 20 = .ok (.iload_n 1, 1) := by decide +kernel
theorem md_Mo_rest_21 : decode mb_Mo_rest 21 = .ok (.iconst 0, 1) := by decide +kernel
theorem md_Mo_rest_22 : decode mb_Mo_rest 22 = .ok (.iastore, 1) := by decide +kernel
theorem md_Mo_rest_23 : decode mb_Mo_rest 23 = .ok (.aload_n 0, 1) := by decide +kernel
theorem md_Mo_rest_24 : decode mb_Mo_rest 24 = .ok (.getfield 92, 3) := by decide +kernel
theorem md_Mo_rest_27 : decode mb_Mo_rest 27 = .ok (.iload_n 1, 1) := by decide +kernel
theorem md_Mo_rest_28 : decode mb_Mo_rest 28 = .ok (.iconst 0, 1) := by decide +kernel
theorem md_Mo_rest_29 : decode mb_Mo_rest 29 = .ok (.iastore, 1) := by decide +kernel
theorem md_Mo_rest_30 : decode mb_Mo_rest 30 = .ok (.aload_n 0, 1) := by decide +kernel
theorem md_Mo_rest_31 : decode mb_Mo_rest 31 = .ok (.getfield 98, 3) := by decide +kernel
theorem md_Mo_rest_34 : decode mb_Mo_rest 34 = .ok (.iload_n 1, 1) := by decide +kernel
theorem md_Mo_rest_35 : decode mb_Mo_rest 35 = .ok (.iconst 0, 1) := by decide +kernel
theorem md_Mo_rest_36 : decode mb_Mo_rest 36 = .ok (.iastore, 1) := by decide +kernel
theorem md_Mo_rest_37 : decode mb_Mo_rest 37 = .ok (.aload_n 0, 1) := by decide +kernel
theorem md_Mo_rest_38 : decode mb_Mo_rest 38 = .ok (.getfield 101, 3) := by decide +kernel
theorem md_Mo_rest_41 : decode mb_Mo_rest 41 = .ok (.iload_n 1, 1) := by decide +kernel
theorem md_Mo_rest_42 : decode mb_Mo_rest 42 = .ok (.iconst 0, 1) := by decide +kernel
theorem md_Mo_rest_43 : decode mb_Mo_rest 43 = .ok (.iastore, 1) := by decide +kernel
theorem md_Mo_rest_44 : decode mb_Mo_rest 44 = .ok (.aload_n 0, 1) := by decide +kernel
theorem md_Mo_rest_45 : decode mb_Mo_rest 45 = .ok (.getfield 116, 3) := by decide +kernel
theorem md_Mo_rest_48 : decode mb_Mo_rest 48 = .ok (.iload_n 1, 1) := by decide +kernel
theorem md_Mo_rest_49 : decode mb_Mo_rest 49 = .ok (.iconst 0, 1) := by decide +kernel
theorem md_Mo_rest_50 : decode mb_Mo_rest 50 = .ok (.iastore, 1) := by decide +kernel
theorem md_Mo_rest_51 : decode mb_Mo_rest 51 = .ok (.aload_n 0, 1) := by decide +kernel
theorem md_Mo_rest_52 : decode mb_Mo_rest 52 = .ok (.getfield 113, 3) := by decide +kernel
theorem md_Mo_rest_55 : decode mb_Mo_rest 55 = .ok (.iload_n 1, 1) := by decide +kernel
theorem md_Mo_rest_56 : decode mb_Mo_rest 56 = .ok (.iconst 0, 1) := by decide +kernel
theorem md_Mo_rest_57 : decode mb_Mo_rest 57 = .ok (.iastore, 1) := by decide +kernel
theorem md_Mo_rest_58 : decode mb_Mo_rest 58 = .ok (.iconst 3, 1) := by decide +kernel
theorem md_Mo_rest_59 : decode mb_Mo_rest 59 = .ok (.iload_n 1, 1) := by decide +kernel
theorem md_Mo_rest_60 : decode mb_Mo_rest 60 = .ok (.imul, 1) := by decide +kernel
theorem md_Mo_rest_61 : decode mb_Mo_rest 61 = .ok (.istore_n 3, 1) := by decide +kernel
theorem md_Mo_rest_62 : decode mb_Mo_rest 62 = .ok (.iload_n 3, 1) := by decide +kernel
theorem md_Mo_rest_63 : decode mb_Mo_rest 63 = .ok (.iconst 3, 1) := by decide +kernel
theorem md_Mo_rest_64 : decode mb_Mo_rest 64 = .ok (.iload_n 1, 1) := by decide +kernel
theorem md_Mo_rest_65 : decode mb_Mo_rest 65 = .ok (.imul, 1) := by decide +kernel
theorem md_Mo_rest_66 : decode mb_Mo_rest 66 = .ok (.iconst 3, 1) := by decide +kernel
theorem md_Mo_rest_67 : decode mb_Mo_rest 67 = .ok (.iadd, 1) := by decide +kernel
theorem md_Mo_rest_68 : decode mb_Mo_rest 68 = .ok (.if_icmp .ge 23, 3) := by decide +kernel
theorem md_Mo_rest_71 : decode mb_Mo_rest 71 = .ok (.aload_n 0, 1) := by decide +kernel
theorem md_Mo_rest_72 : decode mb_Mo_rest 72 = .ok (.getfield 134, 3) := by decide +kernel
theorem md_Mo_rest_75 : decode mb_Mo_rest 75 = .ok (.iload_n 3, 1) := by decide +kernel
theorem md_Mo_rest_76 : decode mb_Mo_rest 76 = .ok (.iconst (-1), 1) := by decide +kernel
theorem md_Mo_rest_77 : decode mb_Mo_rest 77 = .ok (.iastore, 1) := by decide +kernel
theorem md_Mo_rest_78 : decode mb_Mo_rest 78 = .ok (.aload_n 0, 1) := by decide +kernel
theorem md_Mo_rest_79 : decode mb_Mo_rest 79 = .ok (.getfield 137, 3) := by decide +kernel
theorem md_Mo_rest_82 : decode mb_Mo_rest 82 = .ok (.iload_n 3, 1) := by decide +kernel
theorem md_Mo_rest_83 : decode mb_Mo_rest 83 = .ok (.iconst (-1), 1) := by decide +kernel
theorem md_Mo_rest_84 : decode mb_Mo_rest 84 = .ok (.iastore, 1) := by decide +kernel
theorem md_Mo_rest_85 : decode mb_Mo_rest 85 = .ok (.iinc 3 1, 3) := by decide +kernel
theorem md_Mo_rest_88 : decode mb_Mo_rest 88 = .ok (.goto (-26), 3) := by decide +kernel
theorem md_Mo_rest_91 : decode mb_Mo_rest 91 = .ok (.iconst 0, 1) := by decide +kernel
theorem md_Mo_rest_92 : decode mb_Mo_rest 92 = .ok (.istore_n 3, 1) := by decide +kernel
theorem md_Mo_rest_93 : decode mb_Mo_rest 93 = .ok (.iload_n 3, 1) := by decide +kernel
theorem md_Mo_rest_94 : decode mb_Mo_rest 94 = .ok (.iconst 3, 1) := by decide +kernel
theorem md_Mo_rest_95 : decode mb_Mo_rest 95 = .ok (.if_icmp .ge 19, 3) := by decide +kernel
theorem md_Mo_rest_98 : decode mb_Mo_rest 98 = .ok (.iload_n 2, 1) := by decide +kernel
theorem md_Mo_rest_99 : decode mb_Mo_rest 99 = .ok (.ifCond .eq 15, 3) := by decide +kernel
theorem md_Mo_rest_102 : decode mb_Mo_rest 102 = .ok (.aload_n 0, 1) := by decide +kernel
theorem md_Mo_rest_103 : decode mb_Mo_rest 103 = .ok (.iload_n 1, 1) := by decide +kernel
theorem md_Mo_rest_104 : decode mb_Mo_rest 104 = .ok (.iload_n 3, 1) := by decide +kernel
theorem md_Mo_rest_105 : decode mb_Mo_rest 105 = .ok (.invokevirtual 159, 3) := by decide +kernel
theorem md_Mo_rest_108 : decode mb_Mo_rest 108 = .ok (.iinc 3 1, 3) := by decide +kernel
theorem md_Mo_rest_111 : decode mb_Mo_rest 111 = .ok (.goto (-18), 3) := by decide +kernel
theorem md_Mo_rest_114 : decode mb_Mo_rest 114 = .ok (.return_, 1) := by decide +kernel
abbrev mb_Mo_quit : ByteArray := prog_11_method_34_code
def my_Mo_quit : MethodName := ⟨R_Mo, "quit", "(I)V"⟩
abbrev mrm_Mo_quit : Room := { frames := 3, cells := 0, slots := 0, locals := 69 }
theorem mK_Mo_quit : Cond.code my_Mo_quit mb_Mo_quit 2 none ∈ vTB := vTB_in 1060 (by decide +kernel) rfl
theorem mI_Mo_quit : Cond.instanceMethod my_Mo_quit ∈ vTB := vTB_in 1059 (by decide +kernel) rfl
theorem mS_Mo_quit : Cond.selects R_Mo my_Mo_quit my_Mo_quit ∈ vTB := vTB_sel (q := (my_Mo_quit, 57)) 55 (by decide +kernel)
theorem mw_Mo_quit {R : Room} {s : State} {args : Array Value} {own : String} {index : Nat} (hts : ∀ w ∈ vTB, w.before args s = true) (hl : Cond.methodLink own index my_Mo_quit ∈ vTB) (hR : mrm_Mo_quit.frames + 1 ≤ R.frames ∧ 8 + (2 + 11) + mrm_Mo_quit.locals ≤ R.locals) : CallW R s args own R_Mo index my_Mo_quit mb_Mo_quit 2 none (Cond.code my_Mo_quit mb_Mo_quit 2 none :: vTB) mrm_Mo_quit 0 0 1 := cwV 1 hts (fw_gV vTB_good mK_Mo_quit hl mI_Mo_quit mS_Mo_quit N_Mo) rfl rfl rfl (by decide +kernel) hR
theorem md_Mo_quit_0 : decode mb_Mo_quit 0 = .ok (.aload_n 0, 1) := by decide +kernel
theorem md_Mo_quit_1 : decode mb_Mo_quit 1 = .ok (.iload_n 1, 1) := by decide +kernel
theorem md_Mo_quit_2 : decode mb_Mo_quit 2 = .ok (.bipush 16, 2) := by decide +kernel
theorem md_Mo_quit_4 : decode mb_Mo_quit 4 = .ok (.iconst 0, 1) := by decide +kernel
theorem md_Mo_quit_5 : decode mb_Mo_quit 5 = .ok (.invokevirtual 238, 3) := by decide +kernel
theorem md_Mo_quit_8 : decode mb_Mo_quit 8 = .ok (.aload_n 0, 1) := by decide +kernel
theorem md_Mo_quit_9 : decode mb_Mo_quit 9 = .ok (.iload_n 1, 1) := by decide +kernel
theorem md_Mo_quit_10 : decode mb_Mo_quit 10 = .ok (.invokevirtual 241, 3) := by decide +kernel
theorem md_Mo_quit_13 : decode mb_Mo_quit 13 = .ok (.return_, 1) := by decide +kernel
abbrev mb_Mo_outsAt : ByteArray := prog_11_method_38_code
def my_Mo_outsAt : MethodName := ⟨R_Mo, "outsAt", "(I)I"⟩
abbrev mrm_Mo_outsAt : Room := { frames := 0, cells := 0, slots := 0, locals := 0 }
theorem mK_Mo_outsAt : Cond.code my_Mo_outsAt mb_Mo_outsAt 2 (some .int) ∈ vTB := vTB_in 1068 (by decide +kernel) rfl
theorem mI_Mo_outsAt : Cond.instanceMethod my_Mo_outsAt ∈ vTB := vTB_in 1067 (by decide +kernel) rfl
theorem mS_Mo_outsAt : Cond.selects R_Mo my_Mo_outsAt my_Mo_outsAt ∈ vTB := vTB_sel (q := (my_Mo_outsAt, 57)) 57 (by decide +kernel)
theorem mw_Mo_outsAt {R : Room} {s : State} {args : Array Value} {own : String} {index : Nat} (hts : ∀ w ∈ vTB, w.before args s = true) (hl : Cond.methodLink own index my_Mo_outsAt ∈ vTB) (hR : mrm_Mo_outsAt.frames + 1 ≤ R.frames ∧ 8 + (2 + 11) + mrm_Mo_outsAt.locals ≤ R.locals) : CallW R s args own R_Mo index my_Mo_outsAt mb_Mo_outsAt 2 (some .int) (Cond.code my_Mo_outsAt mb_Mo_outsAt 2 (some .int) :: vTB) mrm_Mo_outsAt 0 0 1 := cwV 1 hts (fw_gV vTB_good mK_Mo_outsAt hl mI_Mo_outsAt mS_Mo_outsAt N_Mo) rfl rfl rfl (by decide +kernel) hR
theorem md_Mo_outsAt_0 : decode mb_Mo_outsAt 0 = .ok (.aload_n 0, 1) := by decide +kernel
theorem md_Mo_outsAt_1 : decode mb_Mo_outsAt 1 = .ok (.getfield 131, 3) := by decide +kernel
theorem md_Mo_outsAt_4 : decode mb_Mo_outsAt 4 = .ok (.iload_n 1, 1) := by decide +kernel
theorem md_Mo_outsAt_5 : decode mb_Mo_outsAt 5 = .ok (.iaload, 1) := by decide +kernel
theorem md_Mo_outsAt_6 : decode mb_Mo_outsAt 6 = .ok (.ifCond .ge 7, 3) := by decide +kernel
theorem md_Mo_outsAt_9 : decode mb_Mo_outsAt 9 = .ok (.iconst 0, 1) := by decide +kernel
theorem md_Mo_outsAt_10 : decode mb_Mo_outsAt 10 = .ok (.goto 14, 3) := by decide +kernel
theorem md_Mo_outsAt_13 : decode mb_Mo_outsAt 13 = .ok (.aload_n 0, 1) := by decide +kernel
theorem md_Mo_outsAt_14 : decode mb_Mo_outsAt 14 = .ok (.getfield 13, 3) := by decide +kernel
theorem md_Mo_outsAt_17 : decode mb_Mo_outsAt 17 = .ok (.aload_n 0, 1) := by decide +kernel
theorem md_Mo_outsAt_18 : decode mb_Mo_outsAt 18 = .ok (.getfield 131, 3) := by decide +kernel
theorem md_Mo_outsAt_21 : decode mb_Mo_outsAt 21 = .ok (.iload_n 1, 1) := by decide +kernel
theorem md_Mo_outsAt_22 : decode mb_Mo_outsAt 22 = .ok (.iaload, 1) := by decide +kernel
theorem md_Mo_outsAt_23 : decode mb_Mo_outsAt 23 = .ok (.iaload, 1) := by decide +kernel
theorem md_Mo_outsAt_24 : decode mb_Mo_outsAt 24 = .ok (.ireturn, 1) := by decide +kernel
abbrev mb_Mo_obeys : ByteArray := prog_11_method_40_code
def my_Mo_obeys : MethodName := ⟨R_Mo, "obeys", "(III)V"⟩
abbrev mrm_Mo_obeys : Room := { frames := 4, cells := 0, slots := 0, locals := 90 }
theorem mK_Mo_obeys : Cond.code my_Mo_obeys mb_Mo_obeys 7 none ∈ vTB := vTB_in 1052 (by decide +kernel) rfl
theorem mI_Mo_obeys : Cond.instanceMethod my_Mo_obeys ∈ vTB := vTB_in 1051 (by decide +kernel) rfl
theorem mS_Mo_obeys : Cond.selects R_Mo my_Mo_obeys my_Mo_obeys ∈ vTB := vTB_sel (q := (my_Mo_obeys, 57)) 53 (by decide +kernel)
theorem mw_Mo_obeys {R : Room} {s : State} {args : Array Value} {own : String} {index : Nat} (hts : ∀ w ∈ vTB, w.before args s = true) (hl : Cond.methodLink own index my_Mo_obeys ∈ vTB) (hR : mrm_Mo_obeys.frames + 1 ≤ R.frames ∧ 8 + (7 + 11) + mrm_Mo_obeys.locals ≤ R.locals) : CallW R s args own R_Mo index my_Mo_obeys mb_Mo_obeys 7 none (Cond.code my_Mo_obeys mb_Mo_obeys 7 none :: vTB) mrm_Mo_obeys 0 0 3 := cwV 3 hts (fw_gV vTB_good mK_Mo_obeys hl mI_Mo_obeys mS_Mo_obeys N_Mo) rfl rfl rfl (by decide +kernel) hR
theorem md_Mo_obeys_0 : decode mb_Mo_obeys 0 = .ok (.aload_n 0, 1) := by decide +kernel
theorem md_Mo_obeys_1 : decode mb_Mo_obeys 1 = .ok (.getfield 89, 3) := by decide +kernel
theorem md_Mo_obeys_4 : decode mb_Mo_obeys 4 = .ok (.iload_n 1, 1) := by decide +kernel
theorem md_Mo_obeys_5 : decode mb_Mo_obeys 5 = .ok (.iaload, 1) := by decide +kernel
theorem md_Mo_obeys_6 : decode mb_Mo_obeys 6 = .ok (.istore 4, 2) := by decide +kernel
theorem md_Mo_obeys_8 : decode mb_Mo_obeys 8 = .ok (.iload_n 2, 1) := by decide +kernel
theorem md_Mo_obeys_9 : decode mb_Mo_obeys 9 = .ok (.bipush 6, 2) := by decide +kernel
theorem md_Mo_obeys_11 : decode mb_Mo_obeys 11 = .ok (.if_icmp .ne 43, 3) := by decide +kernel
theorem md_Mo_obeys_14 : decode mb_Mo_obeys 14 = .ok (.iload 4, 2) := by decide +kernel
theorem md_Mo_obeys_16 : decode mb_Mo_obeys 16 = .ok (.iconst 1, 1) := by decide +kernel
theorem md_Mo_obeys_17 : decode mb_Mo_obeys 17 = .ok (.if_icmp .ne 37, 3) := by decide +kernel
theorem md_Mo_obeys_20 : decode mb_Mo_obeys 20 = .ok (.aload_n 0, 1) := by decide +kernel
theorem md_Mo_obeys_21 : decode mb_Mo_obeys 21 = .ok (.getfield 137, 3) := by decide +kernel
theorem md_Mo_obeys_24 : decode mb_Mo_obeys 24 = .ok (.iconst 3, 1) := by decide +kernel
theorem md_Mo_obeys_25 : decode mb_Mo_obeys 25 = .ok (.iload_n 1, 1) := by decide +kernel
theorem md_Mo_obeys_26 : decode mb_Mo_obeys 26 = .ok (.imul, 1) := by decide +kernel
theorem md_Mo_obeys_27 : decode mb_Mo_obeys 27 = .ok (.iload_n 3, 1) := by decide +kernel
theorem md_Mo_obeys_28 : decode mb_Mo_obeys 28 = .ok (.iadd, 1) := by decide +kernel
theorem md_Mo_obeys_29 : decode mb_Mo_obeys 29 = .ok (.aload_n 0, 1) := by decide +kernel
theorem md_Mo_obeys_30 : decode mb_Mo_obeys 30 = .ok (.getfield 38, 3) := by decide +kernel
theorem md_Mo_obeys_33 : decode mb_Mo_obeys 33 = .ok (.iconst 0, 1) := by decide +kernel
theorem md_Mo_obeys_34 : decode mb_Mo_obeys 34 = .ok (.iaload, 1) := by decide +kernel
theorem md_Mo_obeys_35 : decode mb_Mo_obeys 35 = .ok (.iastore, 1) := by decide +kernel
theorem md_Mo_obeys_36 : decode mb_Mo_obeys 36 = .ok (.aload_n 0, 1) := by decide +kernel
theorem md_Mo_obeys_37 : decode mb_Mo_obeys 37 = .ok (.getfield 101, 3) := by decide +kernel
theorem md_Mo_obeys_40 : decode mb_Mo_obeys 40 = .ok (.iload_n 1, 1) := by decide +kernel
theorem md_Mo_obeys_41 : decode mb_Mo_obeys 41 = .ok (.iconst 0, 1) := by decide +kernel
theorem md_Mo_obeys_42 : decode mb_Mo_obeys 42 = .ok (.iastore, 1) := by decide +kernel
theorem md_Mo_obeys_43 : decode mb_Mo_obeys 43 = .ok (.aload_n 0, 1) := by decide +kernel
theorem md_Mo_obeys_44 : decode mb_Mo_obeys 44 = .ok (.iload_n 1, 1) := by decide +kernel
theorem md_Mo_obeys_45 : decode mb_Mo_obeys 45 = .ok (.bipush 7, 2) := by decide +kernel
theorem md_Mo_obeys_47 : decode mb_Mo_obeys 47 = .ok (.iload_n 3, 1) := by decide +kernel
theorem md_Mo_obeys_48 : decode mb_Mo_obeys 48 = .ok (.invokevirtual 238, 3) := by decide +kernel
theorem md_Mo_obeys_51 : decode mb_Mo_obeys 51 = .ok (.goto 456, 3) := by decide +kernel
theorem md_Mo_obeys_54 : decode mb_Mo_obeys 54 = .ok (.iload_n 2, 1) := by decide +kernel
theorem md_Mo_obeys_55 : decode mb_Mo_obeys 55 = .ok (.bipush 8, 2) := by decide +kernel
theorem md_Mo_obeys_57 : decode mb_Mo_obeys 57 = .ok (.if_icmp .ne 131, 3) := by decide +kernel
theorem md_Mo_obeys_60 : decode mb_Mo_obeys 60 = .ok (.iload 4, 2) := by decide +kernel
theorem md_Mo_obeys_62 : decode mb_Mo_obeys 62 = .ok (.iconst 1, 1) := by decide +kernel
theorem md_Mo_obeys_63 : decode mb_Mo_obeys 63 = .ok (.if_icmp .ne 125, 3) := by decide +kernel
theorem md_Mo_obeys_66 : decode mb_Mo_obeys 66 = .ok (.iconst 0, 1) := by decide +kernel
theorem md_Mo_obeys_67 : decode mb_Mo_obeys 67 = .ok (.istore 5, 2) := by decide +kernel
theorem md_Mo_obeys_69 : decode mb_Mo_obeys 69 = .ok (.iconst 0, 1) := by decide +kernel
theorem md_Mo_obeys_70 : decode mb_Mo_obeys 70 = .ok (.istore 6, 2) := by decide +kernel
theorem md_Mo_obeys_72 : decode mb_Mo_obeys 72 = .ok (.iload 6, 2) := by decide +kernel
theorem md_Mo_obeys_74 : decode mb_Mo_obeys 74 = .ok (.iconst 3, 1) := by decide +kernel
theorem md_Mo_obeys_75 : decode mb_Mo_obeys 75 = .ok (.if_icmp .ge 62, 3) := by decide +kernel
theorem md_Mo_obeys_78 : decode mb_Mo_obeys 78 = .ok (.iload 5, 2) := by decide +kernel
theorem md_Mo_obeys_80 : decode mb_Mo_obeys 80 = .ok (.aload_n 0, 1) := by decide +kernel
theorem md_Mo_obeys_81 : decode mb_Mo_obeys 81 = .ok (.iload_n 1, 1) := by decide +kernel
theorem md_Mo_obeys_82 : decode mb_Mo_obeys 82 = .ok (.iload 6, 2) := by decide +kernel
theorem md_Mo_obeys_84 : decode mb_Mo_obeys 84 = .ok (.invokevirtual 250, 3) := by decide +kernel
theorem md_Mo_obeys_87 : decode mb_Mo_obeys 87 = .ok (.ifCond .eq 40, 3) := by decide +kernel
theorem md_Mo_obeys_90 : decode mb_Mo_obeys 90 = .ok (.aload_n 0, 1) := by decide +kernel
theorem md_Mo_obeys_91 : decode mb_Mo_obeys 91 = .ok (.getfield 16, 3) := by decide +kernel
theorem md_Mo_obeys_94 : decode mb_Mo_obeys 94 = .ok (.aload_n 0, 1) := by decide +kernel
theorem md_Mo_obeys_95 : decode mb_Mo_obeys 95 = .ok (.getfield 134, 3) := by decide +kernel
theorem md_Mo_obeys_98 : decode mb_Mo_obeys 98 = .ok (.iconst 3, 1) := by decide +kernel
theorem md_Mo_obeys_99 : decode mb_Mo_obeys 99 = .ok (.iload_n 1, 1) := by decide +kernel
theorem md_Mo_obeys_100 : decode mb_Mo_obeys 100 = .ok (.imul, 1) := by decide +kernel
theorem md_Mo_obeys_101 : decode mb_Mo_obeys 101 = .ok (.iload 6, 2) := by decide +kernel
theorem md_Mo_obeys_103 : decode mb_Mo_obeys 103 = .ok (.iadd, 1) := by decide +kernel
theorem md_Mo_obeys_104 : decode mb_Mo_obeys 104 = .ok (.iaload, 1) := by decide +kernel
theorem md_Mo_obeys_105 : decode mb_Mo_obeys 105 = .ok (.baload, 1) := by decide +kernel
theorem md_Mo_obeys_106 : decode mb_Mo_obeys 106 = .ok (.ifCond .eq 21, 3) := by decide +kernel
theorem md_Mo_obeys_109 : decode mb_Mo_obeys 109 = .ok (.aload_n 0, 1) := by decide +kernel
theorem md_Mo_obeys_110 : decode mb_Mo_obeys 110 = .ok (.getfield 137, 3) := by decide +kernel
theorem md_Mo_obeys_113 : decode mb_Mo_obeys 113 = .ok (.iconst 3, 1) := by decide +kernel
theorem md_Mo_obeys_114 : decode mb_Mo_obeys 114 = .ok (.iload_n 1, 1) := by decide +kernel
theorem md_Mo_obeys_115 : decode mb_Mo_obeys 115 = .ok (.imul, 1) := by decide +kernel
theorem md_Mo_obeys_116 : decode mb_Mo_obeys 116 = .ok (.iload 6, 2) := by decide +kernel
theorem md_Mo_obeys_118 : decode mb_Mo_obeys 118 = .ok (.iadd, 1) := by decide +kernel
theorem md_Mo_obeys_119 : decode mb_Mo_obeys 119 = .ok (.iaload, 1) := by decide +kernel
theorem md_Mo_obeys_120 : decode mb_Mo_obeys 120 = .ok (.ifCond .ge 7, 3) := by decide +kernel
theorem md_Mo_obeys_123 : decode mb_Mo_obeys 123 = .ok (.iconst 1, 1) := by decide +kernel
theorem md_Mo_obeys_124 : decode mb_Mo_obeys 124 = .ok (.goto 4, 3) := by decide +kernel
theorem md_Mo_obeys_127 : decode mb_Mo_obeys 127 = .ok (.iconst 0, 1) := by decide +kernel
theorem md_Mo_obeys_128 : decode mb_Mo_obeys 128 = .ok (.ior, 1) := by decide +kernel
theorem md_Mo_obeys_129 : decode mb_Mo_obeys 129 = .ok (.istore 5, 2) := by decide +kernel
theorem md_Mo_obeys_131 : decode mb_Mo_obeys 131 = .ok (.iinc 6 1, 3) := by decide +kernel
theorem md_Mo_obeys_134 : decode mb_Mo_obeys 134 = .ok (.goto (-62), 3) := by decide +kernel
theorem md_Mo_obeys_137 : decode mb_Mo_obeys 137 = .ok (.iload 5, 2) := by decide +kernel
theorem md_Mo_obeys_139 : decode mb_Mo_obeys 139 = .ok (.ifCond .eq 9, 3) := by decide +kernel
theorem md_Mo_obeys_142 : decode mb_Mo_obeys 142 = .ok (.aload_n 0, 1) := by decide +kernel
theorem md_Mo_obeys_143 : decode mb_Mo_obeys 143 = .ok (.iload_n 1, 1) := by decide +kernel
theorem md_Mo_obeys_144 : decode mb_Mo_obeys 144 = .ok (.invokevirtual 253, 3) := by decide +kernel
theorem md_Mo_obeys_147 : decode mb_Mo_obeys 147 = .ok (.return_, 1) := by decide +kernel
theorem md_Mo_obeys_148 : decode mb_Mo_obeys 148 = .ok (.aload_n 0, 1) := by decide +kernel
theorem md_Mo_obeys_149 : decode mb_Mo_obeys 149 = .ok (.getfield 89, 3) := by decide +kernel
theorem md_Mo_obeys_152 : decode mb_Mo_obeys 152 = .ok (.iload_n 1, 1) := by decide +kernel
theorem md_Mo_obeys_153 : decode mb_Mo_obeys 153 = .ok (.iconst 2, 1) := by decide +kernel
theorem md_Mo_obeys_154 : decode mb_Mo_obeys 154 = .ok (.iastore, 1) := by decide +kernel
theorem md_Mo_obeys_155 : decode mb_Mo_obeys 155 = .ok (.aload_n 0, 1) := by decide +kernel
theorem md_Mo_obeys_156 : decode mb_Mo_obeys 156 = .ok (.getfield 101, 3) := by decide +kernel
theorem md_Mo_obeys_159 : decode mb_Mo_obeys 159 = .ok (.iload_n 1, 1) := by decide +kernel
theorem md_Mo_obeys_160 : decode mb_Mo_obeys 160 = .ok (.iconst 0, 1) := by decide +kernel
theorem md_Mo_obeys_161 : decode mb_Mo_obeys 161 = .ok (.iastore, 1) := by decide +kernel
theorem md_Mo_obeys_162 : decode mb_Mo_obeys 162 = .ok (.aload_n 0, 1) := by decide +kernel
theorem md_Mo_obeys_163 : decode mb_Mo_obeys 163 = .ok (.getfield 104, 3) := by decide +kernel
theorem md_Mo_obeys_166 : decode mb_Mo_obeys 166 = .ok (.iload_n 1, 1) := by decide +kernel
theorem md_Mo_obeys_167 : decode mb_Mo_obeys 167 = .ok (.iconst 0, 1) := by decide +kernel
theorem md_Mo_obeys_168 : decode mb_Mo_obeys 168 = .ok (.iastore, 1) := by decide +kernel
theorem md_Mo_obeys_169 : decode mb_Mo_obeys 169 = .ok (.aload_n 0, 1) := by decide +kernel
theorem md_Mo_obeys_170 : decode mb_Mo_obeys 170 = .ok (.iload_n 1, 1) := by decide +kernel
theorem md_Mo_obeys_171 : decode mb_Mo_obeys 171 = .ok (.bipush 9, 2) := by decide +kernel
theorem md_Mo_obeys_173 : decode mb_Mo_obeys 173 = .ok (.iconst 0, 1) := by decide +kernel
theorem md_Mo_obeys_174 : decode mb_Mo_obeys 174 = .ok (.invokevirtual 238, 3) := by decide +kernel
theorem md_Mo_obeys_177 : decode mb_Mo_obeys 177 = .ok (.aload_n 0, 1) := by decide +kernel
theorem md_Mo_obeys_178 : decode mb_Mo_obeys 178 = .ok (.iload_n 1, 1) := by decide +kernel
theorem md_Mo_obeys_179 : decode mb_Mo_obeys 179 = .ok (.bipush 10, 2) := by decide +kernel
theorem md_Mo_obeys_181 : decode mb_Mo_obeys 181 = .ok (.iconst 0, 1) := by decide +kernel
theorem md_Mo_obeys_182 : decode mb_Mo_obeys 182 = .ok (.invokevirtual 238, 3) := by decide +kernel
theorem md_Mo_obeys_185 : decode mb_Mo_obeys 185 = .ok (.goto 322, 3) := by decide +kernel
theorem md_Mo_obeys_188 : decode mb_Mo_obeys 188 = .ok (.iload_n 2, 1) := by decide +kernel
theorem md_Mo_obeys_189 : decode mb_Mo_obeys 189 = .ok (.bipush 8, 2) := by decide +kernel
theorem md_Mo_obeys_191 : decode mb_Mo_obeys 191 = .ok (.if_icmp .ne 20, 3) := by decide +kernel
theorem md_Mo_obeys_194 : decode mb_Mo_obeys 194 = .ok (.iload 4, 2) := by decide +kernel
theorem md_Mo_obeys_196 : decode mb_Mo_obeys 196 = .ok (.iconst 2, 1) := by decide +kernel
theorem md_Mo_obeys_197 : decode mb_Mo_obeys 197 = .ok (.if_icmp .ne 14, 3) := by decide +kernel
theorem md_Mo_obeys_200 : decode mb_Mo_obeys 200 = .ok (.aload_n 0, 1) := by decide +kernel
theorem md_Mo_obeys_201 : decode mb_Mo_obeys 201 = .ok (.iload_n 1, 1) := by decide +kernel
theorem md_Mo_obeys_202 : decode mb_Mo_obeys 202 = .ok (.bipush 9, 2) := by decide +kernel
theorem md_Mo_obeys_204 : decode mb_Mo_obeys 204 = .ok (.iconst 0, 1) := by decide +kernel
theorem md_Mo_obeys_205 : decode mb_Mo_obeys 205 = .ok (.invokevirtual 238, 3) := by decide +kernel
theorem md_Mo_obeys_208 : decode mb_Mo_obeys 208 = .ok (.goto 299, 3) := by decide +kernel
theorem md_Mo_obeys_211 : decode mb_Mo_obeys 211 = .ok (.iload_n 2, 1) := by decide +kernel
theorem md_Mo_obeys_212 : decode mb_Mo_obeys 212 = .ok (.bipush 11, 2) := by decide +kernel
theorem md_Mo_obeys_214 : decode mb_Mo_obeys 214 = .ok (.if_icmp .ne 61, 3) := by decide +kernel
theorem md_Mo_obeys_217 : decode mb_Mo_obeys 217 = .ok (.iload 4, 2) := by decide +kernel
theorem md_Mo_obeys_219 : decode mb_Mo_obeys 219 = .ok (.iconst 2, 1) := by decide +kernel
theorem md_Mo_obeys_220 : decode mb_Mo_obeys 220 = .ok (.if_icmp .ne 55, 3) := by decide +kernel
theorem md_Mo_obeys_223 : decode mb_Mo_obeys 223 = .ok (.aload_n 0, 1) := by decide +kernel
theorem md_Mo_obeys_224 : decode mb_Mo_obeys 224 = .ok (.getfield 89, 3) := by decide +kernel
theorem md_Mo_obeys_227 : decode mb_Mo_obeys 227 = .ok (.iload_n 1, 1) := by decide +kernel
theorem md_Mo_obeys_228 : decode mb_Mo_obeys 228 = .ok (.iconst 3, 1) := by decide +kernel
theorem md_Mo_obeys_229 : decode mb_Mo_obeys 229 = .ok (.iastore, 1) := by decide +kernel
theorem md_Mo_obeys_230 : decode mb_Mo_obeys 230 = .ok (.aload_n 0, 1) := by decide +kernel
theorem md_Mo_obeys_231 : decode mb_Mo_obeys 231 = .ok (.getfield 101, 3) := by decide +kernel
theorem md_Mo_obeys_234 : decode mb_Mo_obeys 234 = .ok (.iload_n 1, 1) := by decide +kernel
theorem md_Mo_obeys_235 : decode mb_Mo_obeys 235 = .ok (.iconst 0, 1) := by decide +kernel
theorem md_Mo_obeys_236 : decode mb_Mo_obeys 236 = .ok (.iastore, 1) := by decide +kernel
theorem md_Mo_obeys_237 : decode mb_Mo_obeys 237 = .ok (.aload_n 0, 1) := by decide +kernel
theorem md_Mo_obeys_238 : decode mb_Mo_obeys 238 = .ok (.getfield 107, 3) := by decide +kernel
theorem md_Mo_obeys_241 : decode mb_Mo_obeys 241 = .ok (.iload_n 1, 1) := by decide +kernel
theorem md_Mo_obeys_242 : decode mb_Mo_obeys 242 = .ok (.iconst 0, 1) := by decide +kernel
theorem md_Mo_obeys_243 : decode mb_Mo_obeys 243 = .ok (.iastore, 1) := by decide +kernel
theorem md_Mo_obeys_244 : decode mb_Mo_obeys 244 = .ok (.aload_n 0, 1) := by decide +kernel
theorem md_Mo_obeys_245 : decode mb_Mo_obeys 245 = .ok (.getfield 110, 3) := by decide +kernel
theorem md_Mo_obeys_248 : decode mb_Mo_obeys 248 = .ok (.iload_n 1, 1) := by decide +kernel
theorem md_Mo_obeys_249 : decode mb_Mo_obeys 249 = .ok (.iconst (-1), 1) := by decide +kernel
theorem md_Mo_obeys_250 : decode mb_Mo_obeys 250 = .ok (.iastore, 1) := by decide +kernel
theorem md_Mo_obeys_251 : decode mb_Mo_obeys 251 = .ok (.aload_n 0, 1) := by decide +kernel
theorem md_Mo_obeys_252 : decode mb_Mo_obeys 252 = .ok (.getfield 116, 3) := by decide +kernel
theorem md_Mo_obeys_255 : decode mb_Mo_obeys 255 = .ok (.iload_n 1, 1) := by decide +kernel
theorem md_Mo_obeys_256 : decode mb_Mo_obeys 256 = .ok (.iconst 0, 1) := by decide +kernel
theorem md_Mo_obeys_257 : decode mb_Mo_obeys 257 = .ok (.iastore, 1) := by decide +kernel
theorem md_Mo_obeys_258 : decode mb_Mo_obeys 258 = .ok (.aload_n 0, 1) := by decide +kernel
theorem md_Mo_obeys_259 : decode mb_Mo_obeys 259 = .ok (.getfield 113, 3) := by decide +kernel
theorem md_Mo_obeys_262 : decode mb_Mo_obeys 262 = .ok (.iload_n 1, 1) := by decide +kernel
theorem md_Mo_obeys_263 : decode mb_Mo_obeys 263 = .ok (.iconst 0, 1) := by decide +kernel
theorem md_Mo_obeys_264 : decode mb_Mo_obeys 264 = .ok (.iastore, 1) := by decide +kernel
theorem md_Mo_obeys_265 : decode mb_Mo_obeys 265 = .ok (.aload_n 0, 1) := by decide +kernel
theorem md_Mo_obeys_266 : decode mb_Mo_obeys 266 = .ok (.getfield 122, 3) := by decide +kernel
theorem md_Mo_obeys_269 : decode mb_Mo_obeys 269 = .ok (.iload_n 1, 1) := by decide +kernel
theorem md_Mo_obeys_270 : decode mb_Mo_obeys 270 = .ok (.iconst 0, 1) := by decide +kernel
theorem md_Mo_obeys_271 : decode mb_Mo_obeys 271 = .ok (.iastore, 1) := by decide +kernel
theorem md_Mo_obeys_272 : decode mb_Mo_obeys 272 = .ok (.goto 235, 3) := by decide +kernel
theorem md_Mo_obeys_275 : decode mb_Mo_obeys 275 = .ok (.iload_n 2, 1) := by decide +kernel
theorem md_Mo_obeys_276 : decode mb_Mo_obeys 276 = .ok (.bipush 12, 2) := by decide +kernel
theorem md_Mo_obeys_278 : decode mb_Mo_obeys 278 = .ok (.if_icmp .ne 109, 3) := by decide +kernel
theorem md_Mo_obeys_281 : decode mb_Mo_obeys 281 = .ok (.iload 4, 2) := by decide +kernel
theorem md_Mo_obeys_283 : decode mb_Mo_obeys 283 = .ok (.iconst 3, 1) := by decide +kernel
theorem md_Mo_obeys_284 : decode mb_Mo_obeys 284 = .ok (.if_icmp .ne 103, 3) := by decide +kernel
theorem md_Mo_obeys_287 : decode mb_Mo_obeys 287 = .ok (.iload_n 3, 1) := by decide +kernel
theorem md_Mo_obeys_288 : decode mb_Mo_obeys 288 = .ok (.aload_n 0, 1) := by decide +kernel
theorem md_Mo_obeys_289 : decode mb_Mo_obeys 289 = .ok (.getfield 110, 3) := by decide +kernel
theorem md_Mo_obeys_292 : decode mb_Mo_obeys 292 = .ok (.iload_n 1, 1) := by decide +kernel
theorem md_Mo_obeys_293 : decode mb_Mo_obeys 293 = .ok (.iaload, 1) := by decide +kernel
theorem md_Mo_obeys_294 : decode mb_Mo_obeys 294 = .ok (.invokestatic 225, 3) := by decide +kernel
theorem md_Mo_obeys_297 : decode mb_Mo_obeys 297 = .ok (.ifCond .eq 90, 3) := by decide +kernel
theorem md_Mo_obeys_300 : decode mb_Mo_obeys 300 = .ok (.aload_n 0, 1) := by decide +kernel
theorem md_Mo_obeys_301 : decode mb_Mo_obeys 301 = .ok (.getfield 110, 3) := by decide +kernel
theorem md_Mo_obeys_304 : decode mb_Mo_obeys 304 = .ok (.iload_n 1, 1) := by decide +kernel
theorem md_Mo_obeys_305 : decode mb_Mo_obeys 305 = .ok (.iload_n 3, 1) := by decide +kernel
theorem md_Mo_obeys_306 : decode mb_Mo_obeys 306 = .ok (.iastore, 1) := by decide +kernel
theorem md_Mo_obeys_307 : decode mb_Mo_obeys 307 = .ok (.aload_n 0, 1) := by decide +kernel
theorem md_Mo_obeys_308 : decode mb_Mo_obeys 308 = .ok (.getfield 101, 3) := by decide +kernel
theorem md_Mo_obeys_311 : decode mb_Mo_obeys 311 = .ok (.iload_n 1, 1) := by decide +kernel
theorem md_Mo_obeys_312 : decode mb_Mo_obeys 312 = .ok (.iconst 0, 1) := by decide +kernel
theorem md_Mo_obeys_313 : decode mb_Mo_obeys 313 = .ok (.iastore, 1) := by decide +kernel
theorem md_Mo_obeys_314 : decode mb_Mo_obeys 314 = .ok (.iconst 0, 1) := by decide +kernel
theorem md_Mo_obeys_315 : decode mb_Mo_obeys 315 = .ok (.istore 5, 2) := by decide +kernel
theorem md_Mo_obeys_317 : decode mb_Mo_obeys 317 = .ok (.iload 5, 2) := by decide +kernel
theorem md_Mo_obeys_319 : decode mb_Mo_obeys 319 = .ok (.bipush 6, 2) := by decide +kernel
theorem md_Mo_obeys_321 : decode mb_Mo_obeys 321 = .ok (.if_icmp .ge 63, 3) := by decide +kernel
theorem md_Mo_obeys_324 : decode mb_Mo_obeys 324 = .ok (.aload_n 0, 1) := by decide +kernel
theorem md_Mo_obeys_325 : decode mb_Mo_obeys 325 = .ok (.iload_n 1, 1) := by decide +kernel
theorem md_Mo_obeys_326 : decode mb_Mo_obeys 326 = .ok (.iload 5, 2) := by decide +kernel
theorem md_Mo_obeys_328 : decode mb_Mo_obeys 328 = .ok (.iconst 2, 1) := by decide +kernel
theorem md_Mo_obeys_329 : decode mb_Mo_obeys 329 = .ok (.idiv, 1) := by decide +kernel
theorem md_Mo_obeys_330 : decode mb_Mo_obeys 330 = .ok (.invokevirtual 250, 3) := by decide +kernel
theorem md_Mo_obeys_333 : decode mb_Mo_obeys 333 = .ok (.ifCond .eq 45, 3) := by decide +kernel
theorem md_Mo_obeys_336 : decode mb_Mo_obeys 336 = .ok (.aload_n 0, 1) := by decide +kernel
theorem md_Mo_obeys_337 : decode mb_Mo_obeys 337 = .ok (.getfield 143, 3) := by decide +kernel
theorem md_Mo_obeys_340 : decode mb_Mo_obeys 340 = .ok (.bipush 6, 2) := by decide +kernel
theorem md_Mo_obeys_342 : decode mb_Mo_obeys 342 = .ok (.iload_n 1, 1) := by decide +kernel
theorem md_Mo_obeys_343 : decode mb_Mo_obeys 343 = .ok (.imul, 1) := by decide +kernel
theorem md_Mo_obeys_344 : decode mb_Mo_obeys 344 = .ok (.iload 5, 2) := by decide +kernel
theorem md_Mo_obeys_346 : decode mb_Mo_obeys 346 = .ok (.iadd, 1) := by decide +kernel
theorem md_Mo_obeys_347 : decode mb_Mo_obeys 347 = .ok (.iload 5, 2) := by decide +kernel
theorem md_Mo_obeys_349 : decode mb_Mo_obeys 349 = .ok (.iconst 2, 1) := by decide +kernel
theorem md_Mo_obeys_350 : decode mb_Mo_obeys 350 = .ok (.irem, 1) := by decide +kernel
theorem md_Mo_obeys_351 : decode mb_Mo_obeys 351 = .ok (.aload_n 0, 1) := by decide +kernel
theorem md_Mo_obeys_352 : decode mb_Mo_obeys 352 = .ok (.iconst 3, 1) := by decide +kernel
theorem md_Mo_obeys_353 : decode mb_Mo_obeys 353 = .ok (.iload_n 1, 1) := by decide +kernel
theorem md_Mo_obeys_354 : decode mb_Mo_obeys 354 = .ok (.imul, 1) := by decide +kernel
theorem md_Mo_obeys_355 : decode mb_Mo_obeys 355 = .ok (.iload 5, 2) := by decide +kernel
theorem md_Mo_obeys_357 : decode mb_Mo_obeys 357 = .ok (.iconst 2, 1) := by decide +kernel
theorem md_Mo_obeys_358 : decode mb_Mo_obeys 358 = .ok (.idiv, 1) := by decide +kernel
theorem md_Mo_obeys_359 : decode mb_Mo_obeys 359 = .ok (.iadd, 1) := by decide +kernel
theorem md_Mo_obeys_360 : decode mb_Mo_obeys 360 = .ok (.invokevirtual 256, 3) := by decide +kernel
theorem md_Mo_obeys_363 : decode mb_Mo_obeys 363 = .ok (.if_icmp .ge 13, 3) := by decide +kernel
theorem md_Mo_obeys_366 : decode mb_Mo_obeys 366 = .ok (.aload_n 0, 1) := by decide +kernel
theorem md_Mo_obeys_367 : decode mb_Mo_obeys 367 = .ok (.getfield 38, 3) := by decide +kernel
theorem md_Mo_obeys_370 : decode mb_Mo_obeys 370 = .ok (.iload 5, 2) := by decide +kernel
theorem md_Mo_obeys_372 : decode mb_Mo_obeys 372 = .ok (.iaload, 1) := by decide +kernel
theorem md_Mo_obeys_373 : decode mb_Mo_obeys 373 = .ok (.goto 4, 3) := by decide +kernel
theorem md_Mo_obeys_376 : decode mb_Mo_obeys 376 = .ok (.iconst 0, 1) := by decide +kernel
theorem md_Mo_obeys_377 : decode mb_Mo_obeys 377 = .ok (.iastore, 1) := by decide +kernel
theorem md_Mo_obeys_378 : decode mb_Mo_obeys 378 = .ok (.iinc 5 1, 3) := by decide +kernel
theorem md_Mo_obeys_381 : decode mb_Mo_obeys 381 = .ok (.goto (-64), 3) := by decide +kernel
theorem md_Mo_obeys_384 : decode mb_Mo_obeys 384 = .ok (.goto 123, 3) := by decide +kernel
theorem md_Mo_obeys_387 : decode mb_Mo_obeys 387 = .ok (.iload_n 2, 1) := by decide +kernel
theorem md_Mo_obeys_388 : decode mb_Mo_obeys 388 = .ok (.bipush 15, 2) := by decide +kernel
theorem md_Mo_obeys_390 : decode mb_Mo_obeys 390 = .ok (.if_icmp .ne 106, 3) := by decide +kernel
theorem md_Mo_obeys_393 : decode mb_Mo_obeys 393 = .ok (.iload 4, 2) := by decide +kernel
theorem md_Mo_obeys_395 : decode mb_Mo_obeys 395 = .ok (.iconst 3, 1) := by decide +kernel
theorem md_Mo_obeys_396 : decode mb_Mo_obeys 396 = .ok (.if_icmp .ne 100, 3) := by decide +kernel
theorem md_Mo_obeys_399 : decode mb_Mo_obeys 399 = .ok (.aload_n 0, 1) := by decide +kernel
theorem md_Mo_obeys_400 : decode mb_Mo_obeys 400 = .ok (.getfield 113, 3) := by decide +kernel
theorem md_Mo_obeys_403 : decode mb_Mo_obeys 403 = .ok (.iload_n 1, 1) := by decide +kernel
theorem md_Mo_obeys_404 : decode mb_Mo_obeys 404 = .ok (.iaload, 1) := by decide +kernel
theorem md_Mo_obeys_405 : decode mb_Mo_obeys 405 = .ok (.ifCond .le 91, 3) := by decide +kernel
theorem md_Mo_obeys_408 : decode mb_Mo_obeys 408 = .ok (.aload_n 0, 1) := by decide +kernel
theorem md_Mo_obeys_409 : decode mb_Mo_obeys 409 = .ok (.getfield 113, 3) := by decide +kernel
theorem md_Mo_obeys_412 : decode mb_Mo_obeys 412 = .ok (.iload_n 1, 1) := by decide +kernel
theorem md_Mo_obeys_413 : decode mb_Mo_obeys 413 = .ok (.iaload, 1) := by decide +kernel
theorem md_Mo_obeys_414 : decode mb_Mo_obeys 414 = .ok (.iload_n 3, 1) := by decide +kernel
theorem md_Mo_obeys_415 : decode mb_Mo_obeys 415 = .ok (.if_icmp .ne 81, 3) := by decide +kernel
theorem md_Mo_obeys_418 : decode mb_Mo_obeys 418 = .ok (.aload_n 0, 1) := by decide +kernel
theorem md_Mo_obeys_419 : decode mb_Mo_obeys 419 = .ok (.getfield 113, 3) := by decide +kernel
theorem md_Mo_obeys_422 : decode mb_Mo_obeys 422 = .ok (.iload_n 1, 1) := by decide +kernel
theorem md_Mo_obeys_423 : decode mb_Mo_obeys 423 = .ok (.iconst 0, 1) := by decide +kernel
theorem md_Mo_obeys_424 : decode mb_Mo_obeys 424 = .ok (.iastore, 1) := by decide +kernel
theorem md_Mo_obeys_425 : decode mb_Mo_obeys 425 = .ok (.aload_n 0, 1) := by decide +kernel
theorem md_Mo_obeys_426 : decode mb_Mo_obeys 426 = .ok (.getfield 116, 3) := by decide +kernel
theorem md_Mo_obeys_429 : decode mb_Mo_obeys 429 = .ok (.iload_n 1, 1) := by decide +kernel
theorem md_Mo_obeys_430 : decode mb_Mo_obeys 430 = .ok (.dup2, 1) := by decide +kernel
theorem md_Mo_obeys_431 : decode mb_Mo_obeys 431 = .ok (.iaload, 1) := by decide +kernel
theorem md_Mo_obeys_432 : decode mb_Mo_obeys 432 = .ok (.iconst 1, 1) := by decide +kernel
theorem md_Mo_obeys_433 : decode mb_Mo_obeys 433 = .ok (.isub, 1) := by decide +kernel
theorem md_Mo_obeys_434 : decode mb_Mo_obeys 434 = .ok (.iastore, 1) := by decide +kernel
theorem md_Mo_obeys_435 : decode mb_Mo_obeys 435 = .ok (.iconst 4, 1) := by decide +kernel
theorem md_Mo_obeys_436 : decode mb_Mo_obeys 436 = .ok (.iload_n 1, 1) := by decide +kernel
theorem md_Mo_obeys_437 : decode mb_Mo_obeys 437 = .ok (.imul, 1) := by decide +kernel
theorem md_Mo_obeys_438 : decode mb_Mo_obeys 438 = .ok (.istore 5, 2) := by decide +kernel
theorem md_Mo_obeys_440 : decode mb_Mo_obeys 440 = .ok (.iload 5, 2) := by decide +kernel
theorem md_Mo_obeys_442 : decode mb_Mo_obeys 442 = .ok (.iconst 4, 1) := by decide +kernel
theorem md_Mo_obeys_443 : decode mb_Mo_obeys 443 = .ok (.iload_n 1, 1) := by decide +kernel
theorem md_Mo_obeys_444 : decode mb_Mo_obeys 444 = .ok (.imul, 1) := by decide +kernel
theorem md_Mo_obeys_445 : decode mb_Mo_obeys 445 = .ok (.aload_n 0, 1) := by decide +kernel
theorem md_Mo_obeys_446 : decode mb_Mo_obeys 446 = .ok (.getfield 116, 3) := by decide +kernel
theorem md_Mo_obeys_449 : decode mb_Mo_obeys 449 = .ok (.iload_n 1, 1) := by decide +kernel
theorem md_Mo_obeys_450 : decode mb_Mo_obeys 450 = .ok (.iaload, 1) := by decide +kernel
theorem md_Mo_obeys_451 : decode mb_Mo_obeys 451 = .ok (.iadd, 1) := by decide +kernel
theorem md_Mo_obeys_452 : decode mb_Mo_obeys 452 = .ok (.if_icmp .ge 41, 3) := by decide +kernel
theorem md_Mo_obeys_455 : decode mb_Mo_obeys 455 = .ok (.aload_n 0, 1) := by decide +kernel
theorem md_Mo_obeys_456 : decode mb_Mo_obeys 456 = .ok (.getfield 146, 3) := by decide +kernel
theorem md_Mo_obeys_459 : decode mb_Mo_obeys 459 = .ok (.iload 5, 2) := by decide +kernel
theorem md_Mo_obeys_461 : decode mb_Mo_obeys 461 = .ok (.aload_n 0, 1) := by decide +kernel
theorem md_Mo_obeys_462 : decode mb_Mo_obeys 462 = .ok (.getfield 146, 3) := by decide +kernel
theorem md_Mo_obeys_465 : decode mb_Mo_obeys 465 = .ok (.iload 5, 2) := by decide +kernel
theorem md_Mo_obeys_467 : decode mb_Mo_obeys 467 = .ok (.iconst 1, 1) := by decide +kernel
theorem md_Mo_obeys_468 : decode mb_Mo_obeys 468 = .ok (.iadd, 1) := by decide +kernel
theorem md_Mo_obeys_469 : decode mb_Mo_obeys 469 = .ok (.iaload, 1) := by decide +kernel
theorem md_Mo_obeys_470 : decode mb_Mo_obeys 470 = .ok (.iastore, 1) := by decide +kernel
theorem md_Mo_obeys_471 : decode mb_Mo_obeys 471 = .ok (.aload_n 0, 1) := by decide +kernel
theorem md_Mo_obeys_472 : decode mb_Mo_obeys 472 = .ok (.getfield 149, 3) := by decide +kernel
theorem md_Mo_obeys_475 : decode mb_Mo_obeys 475 = .ok (.iload 5, 2) := by decide +kernel
theorem md_Mo_obeys_477 : decode mb_Mo_obeys 477 = .ok (.aload_n 0, 1) := by decide +kernel
theorem md_Mo_obeys_478 : decode mb_Mo_obeys 478 = .ok (.getfield 149, 3) := by decide +kernel
theorem md_Mo_obeys_481 : decode mb_Mo_obeys 481 = .ok (.iload 5, 2) := by decide +kernel
theorem md_Mo_obeys_483 : decode mb_Mo_obeys 483 = .ok (.iconst 1, 1) := by decide +kernel
theorem md_Mo_obeys_484 : decode mb_Mo_obeys 484 = .ok (.iadd, 1) := by decide +kernel
theorem md_Mo_obeys_485 : decode mb_Mo_obeys 485 = .ok (.iaload, 1) := by decide +kernel
theorem md_Mo_obeys_486 : decode mb_Mo_obeys 486 = .ok (.iastore, 1) := by decide +kernel
theorem md_Mo_obeys_487 : decode mb_Mo_obeys 487 = .ok (.iinc 5 1, 3) := by decide +kernel
theorem md_Mo_obeys_490 : decode mb_Mo_obeys 490 = .ok (.goto (-50), 3) := by decide +kernel
theorem md_Mo_obeys_493 : decode mb_Mo_obeys 493 = .ok (.goto 14, 3) := by decide +kernel
theorem md_Mo_obeys_496 : decode mb_Mo_obeys 496 = .ok (.iload_n 2, 1) := by decide +kernel
theorem md_Mo_obeys_497 : decode mb_Mo_obeys 497 = .ok (.bipush 16, 2) := by decide +kernel
theorem md_Mo_obeys_499 : decode mb_Mo_obeys 499 = .ok (.if_icmp .ne 8, 3) := by decide +kernel
theorem md_Mo_obeys_502 : decode mb_Mo_obeys 502 = .ok (.aload_n 0, 1) := by decide +kernel
theorem md_Mo_obeys_503 : decode mb_Mo_obeys 503 = .ok (.iload_n 1, 1) := by decide +kernel
theorem md_Mo_obeys_504 : decode mb_Mo_obeys 504 = .ok (.invokevirtual 241, 3) := by decide +kernel
theorem md_Mo_obeys_507 : decode mb_Mo_obeys 507 = .ok (.return_, 1) := by decide +kernel
abbrev mb_Mo_arrives : ByteArray := prog_11_method_35_code
def my_Mo_arrives : MethodName := ⟨R_Mo, "arrives", "(IIII)V"⟩
abbrev mrm_Mo_arrives : Room := { frames := 5, cells := 0, slots := 0, locals := 116 }
theorem mK_Mo_arrives : Cond.code my_Mo_arrives mb_Mo_arrives 5 none ∈ vTB := vTB_in 1040 (by decide +kernel) rfl
theorem mI_Mo_arrives : Cond.instanceMethod my_Mo_arrives ∈ vTB := vTB_in 1039 (by decide +kernel) rfl
theorem mS_Mo_arrives : Cond.selects R_Mo my_Mo_arrives my_Mo_arrives ∈ vTB := vTB_sel (q := (my_Mo_arrives, 57)) 50 (by decide +kernel)
theorem mw_Mo_arrives {R : Room} {s : State} {args : Array Value} {own : String} {index : Nat} (hts : ∀ w ∈ vTB, w.before args s = true) (hl : Cond.methodLink own index my_Mo_arrives ∈ vTB) (hR : mrm_Mo_arrives.frames + 1 ≤ R.frames ∧ 8 + (5 + 11) + mrm_Mo_arrives.locals ≤ R.locals) : CallW R s args own R_Mo index my_Mo_arrives mb_Mo_arrives 5 none (Cond.code my_Mo_arrives mb_Mo_arrives 5 none :: vTB) mrm_Mo_arrives 0 0 4 := cwV 4 hts (fw_gV vTB_good mK_Mo_arrives hl mI_Mo_arrives mS_Mo_arrives N_Mo) rfl rfl rfl (by decide +kernel) hR
theorem md_Mo_arrives_0 : decode mb_Mo_arrives 0 = .ok (.iload_n 2, 1) := by decide +kernel
theorem md_Mo_arrives_1 : decode mb_Mo_arrives 1 = .ok (.iconst 1, 1) := by decide +kernel
theorem md_Mo_arrives_2 : decode mb_Mo_arrives 2 = .ok (.if_icmp .ne 43, 3) := by decide +kernel
theorem md_Mo_arrives_5 : decode mb_Mo_arrives 5 = .ok (.aload_n 0, 1) := by decide +kernel
theorem md_Mo_arrives_6 : decode mb_Mo_arrives 6 = .ok (.getfield 95, 3) := by decide +kernel
theorem md_Mo_arrives_9 : decode mb_Mo_arrives 9 = .ok (.iload_n 1, 1) := by decide +kernel
theorem md_Mo_arrives_10 : decode mb_Mo_arrives 10 = .ok (.iaload, 1) := by decide +kernel
theorem md_Mo_arrives_11 : decode mb_Mo_arrives 11 = .ok (.ifCond .eq 14, 3) := by decide +kernel
theorem md_Mo_arrives_14 : decode mb_Mo_arrives 14 = .ok (.aload_n 0, 1) := by decide +kernel
theorem md_Mo_arrives_15 : decode mb_Mo_arrives 15 = .ok (.getfield 95, 3) := by decide +kernel
theorem md_Mo_arrives_18 : decode mb_Mo_arrives 18 = .ok (.iload_n 1, 1) := by decide +kernel
theorem md_Mo_arrives_19 : decode mb_Mo_arrives 19 = .ok (.iaload, 1) := by decide +kernel
theorem md_Mo_arrives_20 : decode mb_Mo_arrives 20 = .ok (.iload 4, 2) := by decide +kernel
theorem md_Mo_arrives_22 : decode mb_Mo_arrives 22 = .ok (.if_icmp .eq 4, 3) := by decide +kernel
theorem md_Mo_arrives_25 : decode mb_Mo_arrives 25 = .ok (.return_, 1) := by decide +kernel
theorem md_Mo_arrives_26 : decode mb_Mo_arrives 26 = .ok (.aload_n 0, 1) := by decide +kernel
theorem md_Mo_arrives_27 : decode mb_Mo_arrives 27 = .ok (.getfield 35, 3) := by decide +kernel
theorem md_Mo_arrives_30 : decode mb_Mo_arrives 30 = .ok (.iconst 0, 1) := by decide +kernel
theorem md_Mo_arrives_31 : decode mb_Mo_arrives 31 = .ok (.iload 4, 2) := by decide +kernel
theorem md_Mo_arrives_33 : decode mb_Mo_arrives 33 = .ok (.iastore, 1) := by decide +kernel
theorem md_Mo_arrives_34 : decode mb_Mo_arrives 34 = .ok (.aload_n 0, 1) := by decide +kernel
theorem md_Mo_arrives_35 : decode mb_Mo_arrives 35 = .ok (.iconst 2, 1) := by decide +kernel
theorem md_Mo_arrives_36 : decode mb_Mo_arrives 36 = .ok (.iconst 0, 1) := by decide +kernel
theorem md_Mo_arrives_37 : decode mb_Mo_arrives 37 = .ok (.iload_n 1, 1) := by decide +kernel
theorem md_Mo_arrives_38 : decode mb_Mo_arrives 38 = .ok (.iconst 2, 1) := by decide +kernel
theorem md_Mo_arrives_39 : decode mb_Mo_arrives 39 = .ok (.invokevirtual 197, 3) := by decide +kernel
theorem md_Mo_arrives_42 : decode mb_Mo_arrives 42 = .ok (.goto 44, 3) := by decide +kernel
theorem md_Mo_arrives_45 : decode mb_Mo_arrives 45 = .ok (.iload_n 2, 1) := by decide +kernel
theorem md_Mo_arrives_46 : decode mb_Mo_arrives 46 = .ok (.iconst 3, 1) := by decide +kernel
theorem md_Mo_arrives_47 : decode mb_Mo_arrives 47 = .ok (.if_icmp .ne 12, 3) := by decide +kernel
theorem md_Mo_arrives_50 : decode mb_Mo_arrives 50 = .ok (.aload_n 0, 1) := by decide +kernel
theorem md_Mo_arrives_51 : decode mb_Mo_arrives 51 = .ok (.iload_n 1, 1) := by decide +kernel
theorem md_Mo_arrives_52 : decode mb_Mo_arrives 52 = .ok (.iload_n 3, 1) := by decide +kernel
theorem md_Mo_arrives_53 : decode mb_Mo_arrives 53 = .ok (.invokevirtual 244, 3) := by decide +kernel
theorem md_Mo_arrives_56 : decode mb_Mo_arrives 56 = .ok (.goto 30, 3) := by decide +kernel
theorem md_Mo_arrives_59 : decode mb_Mo_arrives 59 = .ok (.aload_n 0, 1) := by decide +kernel
theorem md_Mo_arrives_60 : decode mb_Mo_arrives 60 = .ok (.getfield 89, 3) := by decide +kernel
theorem md_Mo_arrives_63 : decode mb_Mo_arrives 63 = .ok (.iload_n 1, 1) := by decide +kernel
theorem md_Mo_arrives_64 : decode mb_Mo_arrives 64 = .ok (.iaload, 1) := by decide +kernel
theorem md_Mo_arrives_65 : decode mb_Mo_arrives 65 = .ok (.ifCond .eq 21, 3) := by decide +kernel
theorem md_Mo_arrives_68 : decode mb_Mo_arrives 68 = .ok (.aload_n 0, 1) := by decide +kernel
theorem md_Mo_arrives_69 : decode mb_Mo_arrives 69 = .ok (.getfield 92, 3) := by decide +kernel
theorem md_Mo_arrives_72 : decode mb_Mo_arrives 72 = .ok (.iload_n 1, 1) := by decide +kernel
theorem md_Mo_arrives_73 : decode mb_Mo_arrives 73 = .ok (.iaload, 1) := by decide +kernel
theorem md_Mo_arrives_74 : decode mb_Mo_arrives 74 = .ok (.iload_n 3, 1) := by decide +kernel
theorem md_Mo_arrives_75 : decode mb_Mo_arrives 75 = .ok (.if_icmp .ne 11, 3) := by decide +kernel
theorem md_Mo_arrives_78 : decode mb_Mo_arrives 78 = .ok (.aload_n 0, 1) := by decide +kernel
theorem md_Mo_arrives_79 : decode mb_Mo_arrives 79 = .ok (.iload_n 1, 1) := by decide +kernel
theorem md_Mo_arrives_80 : decode mb_Mo_arrives 80 = .ok (.iload_n 2, 1) := by decide +kernel
theorem md_Mo_arrives_81 : decode mb_Mo_arrives 81 = .ok (.iload 4, 2) := by decide +kernel
theorem md_Mo_arrives_83 : decode mb_Mo_arrives 83 = .ok (.invokevirtual 247, 3) := by decide +kernel
theorem md_Mo_arrives_86 : decode mb_Mo_arrives 86 = .ok (.return_, 1) := by decide +kernel
abbrev mb_Mo_deliver : ByteArray := prog_11_method_19_code
def my_Mo_deliver : MethodName := ⟨R_Mo, "deliver", "(I)I"⟩
abbrev mrm_Mo_deliver : Room := { frames := 6, cells := 0, slots := 0, locals := 141 }
theorem mK_Mo_deliver : Cond.code my_Mo_deliver mb_Mo_deliver 7 (some .int) ∈ vTB := vTB_in 997 (by decide +kernel) rfl
theorem mI_Mo_deliver : Cond.instanceMethod my_Mo_deliver ∈ vTB := vTB_in 995 (by decide +kernel) rfl
theorem mS_Mo_deliver : Cond.selects R_Mo my_Mo_deliver my_Mo_deliver ∈ vTB := vTB_in 996 (by decide +kernel) rfl
theorem mw_Mo_deliver {R : Room} {s : State} {args : Array Value} {own : String} {index : Nat} (hts : ∀ w ∈ vTB, w.before args s = true) (hl : Cond.methodLink own index my_Mo_deliver ∈ vTB) (hR : mrm_Mo_deliver.frames + 1 ≤ R.frames ∧ 8 + (7 + 11) + mrm_Mo_deliver.locals ≤ R.locals) : CallW R s args own R_Mo index my_Mo_deliver mb_Mo_deliver 7 (some .int) (Cond.code my_Mo_deliver mb_Mo_deliver 7 (some .int) :: vTB) mrm_Mo_deliver 0 0 1 := cwV 1 hts (fw_gV vTB_good mK_Mo_deliver hl mI_Mo_deliver mS_Mo_deliver N_Mo) rfl rfl rfl (by decide +kernel) hR
theorem md_Mo_deliver_0 : decode mb_Mo_deliver 0 = .ok (.iload_n 1, 1) := by decide +kernel
theorem md_Mo_deliver_1 : decode mb_Mo_deliver 1 = .ok (.iconst 0, 1) := by decide +kernel
theorem md_Mo_deliver_2 : decode mb_Mo_deliver 2 = .ok (.aload_n 0, 1) := by decide +kernel
theorem md_Mo_deliver_3 : decode mb_Mo_deliver 3 = .ok (.getfield 170, 3) := by decide +kernel
theorem md_Mo_deliver_6 : decode mb_Mo_deliver 6 = .ok (.iconst 1, 1) := by decide +kernel
theorem md_Mo_deliver_7 : decode mb_Mo_deliver 7 = .ok (.isub, 1) := by decide +kernel
theorem md_Mo_deliver_8 : decode mb_Mo_deliver 8 = .ok (.invokestatic 155, 3) := by decide +kernel
theorem md_Mo_deliver_11 : decode mb_Mo_deliver 11 = .ok (.ifCond .ne 6, 3) := by decide +kernel
theorem md_Mo_deliver_14 : decode mb_Mo_deliver 14 = .ok (.bipush (-2), 2) := by decide +kernel
theorem md_Mo_deliver_16 : decode mb_Mo_deliver 16 = .ok (.ireturn, 1) := by decide +kernel
theorem md_Mo_deliver_17 : decode mb_Mo_deliver 17 = .ok (.aload_n 0, 1) := by decide +kernel
theorem md_Mo_deliver_18 : decode mb_Mo_deliver 18 = .ok (.getfield 20, 3) := by decide +kernel
theorem md_Mo_deliver_21 : decode mb_Mo_deliver 21 = .ok (.iload_n 1, 1) := by decide +kernel
theorem md_Mo_deliver_22 : decode mb_Mo_deliver 22 = .ok (.iaload, 1) := by decide +kernel
theorem md_Mo_deliver_23 : decode mb_Mo_deliver 23 = .ok (.istore_n 2, 1) := by decide +kernel
theorem md_Mo_deliver_24 : decode mb_Mo_deliver 24 = .ok (.aload_n 0, 1) := by decide +kernel
theorem md_Mo_deliver_25 : decode mb_Mo_deliver 25 = .ok (.getfield 23, 3) := by decide +kernel
theorem md_Mo_deliver_28 : decode mb_Mo_deliver 28 = .ok (.iload_n 1, 1) := by decide +kernel
theorem md_Mo_deliver_29 : decode mb_Mo_deliver 29 = .ok (.iaload, 1) := by decide +kernel
theorem md_Mo_deliver_30 : decode mb_Mo_deliver 30 = .ok (.istore_n 3, 1) := by decide +kernel
theorem md_Mo_deliver_31 : decode mb_Mo_deliver 31 = .ok (.aload_n 0, 1) := by decide +kernel
theorem md_Mo_deliver_32 : decode mb_Mo_deliver 32 = .ok (.getfield 26, 3) := by decide +kernel
theorem md_Mo_deliver_35 : decode mb_Mo_deliver 35 = .ok (.iload_n 1, 1) := by decide +kernel
theorem md_Mo_deliver_36 : decode mb_Mo_deliver 36 = .ok (.iaload, 1) := by decide +kernel
theorem md_Mo_deliver_37 : decode mb_Mo_deliver 37 = .ok (.istore 4, 2) := by decide +kernel
theorem md_Mo_deliver_39 : decode mb_Mo_deliver 39 = .ok (.aload_n 0, 1) := by decide +kernel
theorem md_Mo_deliver_40 : decode mb_Mo_deliver 40 = .ok (.getfield 29, 3) := by decide +kernel
theorem md_Mo_deliver_43 : decode mb_Mo_deliver 43 = .ok (.iload_n 1, 1) := by decide +kernel
theorem md_Mo_deliver_44 : decode mb_Mo_deliver 44 = .ok (.iaload, 1) := by decide +kernel
theorem md_Mo_deliver_45 : decode mb_Mo_deliver 45 = .ok (.istore 5, 2) := by decide +kernel
theorem md_Mo_deliver_47 : decode mb_Mo_deliver 47 = .ok (.iconst 0, 1) := by decide +kernel
theorem md_Mo_deliver_48 : decode mb_Mo_deliver 48 = .ok (.istore 6, 2) := by decide +kernel
theorem md_Mo_deliver_50 : decode mb_Mo_deliver 50 = .ok (.iload 6, 2) := by decide +kernel
theorem md_Mo_deliver_52 : decode mb_Mo_deliver 52 = .ok (.bipush 7, 2) := by decide +kernel
theorem md_Mo_deliver_54 : decode mb_Mo_deliver 54 = .ok (.if_icmp .ge 28, 3) := by decide +kernel
theorem md_Mo_deliver_57 : decode mb_Mo_deliver 57 = .ok (.aload_n 0, 1) := by decide +kernel
theorem md_Mo_deliver_58 : decode mb_Mo_deliver 58 = .ok (.getfield 38, 3) := by decide +kernel
theorem md_Mo_deliver_61 : decode mb_Mo_deliver 61 = .ok (.iload 6, 2) := by decide +kernel
theorem md_Mo_deliver_63 : decode mb_Mo_deliver 63 = .ok (.aload_n 0, 1) := by decide +kernel
theorem md_Mo_deliver_64 : decode mb_Mo_deliver 64 = .ok (.getfield 32, 3) := by decide +kernel
theorem md_Mo_deliver_67 : decode mb_Mo_deliver 67 = .ok (.bipush 7, 2) := by decide +kernel
theorem md_Mo_deliver_69 : decode mb_Mo_deliver 69 = .ok (.iload_n 1, 1) := by decide +kernel
theorem md_Mo_deliver_70 : decode mb_Mo_deliver 70 = .ok (.imul, 1) := by decide +kernel
theorem md_Mo_deliver_71 : decode mb_Mo_deliver 71 = .ok (.iload 6, 2) := by decide +kernel
theorem md_Mo_deliver_73 : decode mb_Mo_deliver 73 = .ok (.iadd, 1) := by decide +kernel
theorem md_Mo_deliver_74 : decode mb_Mo_deliver 74 = .ok (.iaload, 1) := by decide +kernel
theorem md_Mo_deliver_75 : decode mb_Mo_deliver 75 = .ok (.iastore, 1) := by decide +kernel
theorem md_Mo_deliver_76 : decode mb_Mo_deliver 76 = .ok (.iinc 6 1, 3) := by decide +kernel
theorem md_Mo_deliver_79 : decode mb_Mo_deliver 79 = .ok (.goto (-29), 3) := by decide +kernel
theorem md_Mo_deliver_82 : decode mb_Mo_deliver 82 = .ok (.aload_n 0, 1) := by decide +kernel
theorem md_Mo_deliver_83 : decode mb_Mo_deliver 83 = .ok (.iload_n 1, 1) := by decide +kernel
theorem md_Mo_deliver_84 : decode mb_Mo_deliver 84 = .ok (.invokevirtual 182, 3) := by decide +kernel
theorem md_Mo_deliver_87 : decode mb_Mo_deliver 87 = .ok (.aload_n 0, 1) := by decide +kernel
theorem md_Mo_deliver_88 : decode mb_Mo_deliver 88 = .ok (.dup, 1) := by decide +kernel
theorem md_Mo_deliver_89 : decode mb_Mo_deliver 89 = .ok (.getfield 186, 3) := by decide +kernel
theorem md_Mo_deliver_92 : decode mb_Mo_deliver 92 = .ok (.iconst 1, 1) := by decide +kernel
theorem md_Mo_deliver_93 : decode mb_Mo_deliver 93 = .ok (.iadd, 1) := by decide +kernel
theorem md_Mo_deliver_94 : decode mb_Mo_deliver 94 = .ok (.putfield 186, 3) := by decide +kernel
theorem md_Mo_deliver_97 : decode mb_Mo_deliver 97 = .ok (.iload 5, 2) := by decide +kernel
theorem md_Mo_deliver_99 : decode mb_Mo_deliver 99 = .ok (.iconst 2, 1) := by decide +kernel
theorem md_Mo_deliver_100 : decode mb_Mo_deliver 100 = .ok (.if_icmp .ne 14, 3) := by decide +kernel
theorem md_Mo_deliver_103 : decode mb_Mo_deliver 103 = .ok (.aload_n 0, 1) := by decide +kernel
theorem md_Mo_deliver_104 : decode mb_Mo_deliver 104 = .ok (.iload_n 2, 1) := by decide +kernel
theorem md_Mo_deliver_105 : decode mb_Mo_deliver 105 = .ok (.iload_n 3, 1) := by decide +kernel
theorem md_Mo_deliver_106 : decode mb_Mo_deliver 106 = .ok (.iload 4, 2) := by decide +kernel
theorem md_Mo_deliver_108 : decode mb_Mo_deliver 108 = .ok (.invokevirtual 189, 3) := by decide +kernel
theorem md_Mo_deliver_111 : decode mb_Mo_deliver 111 = .ok (.goto 41, 3) := by decide +kernel
theorem md_Mo_deliver_114 : decode mb_Mo_deliver 114 = .ok (.iconst 0, 1) := by decide +kernel
theorem md_Mo_deliver_115 : decode mb_Mo_deliver 115 = .ok (.istore 6, 2) := by decide +kernel
theorem md_Mo_deliver_117 : decode mb_Mo_deliver 117 = .ok (.iload 6, 2) := by decide +kernel
theorem md_Mo_deliver_119 : decode mb_Mo_deliver 119 = .ok (.iconst 2, 1) := by decide +kernel
theorem md_Mo_deliver_120 : decode mb_Mo_deliver 120 = .ok (.if_icmp .ge 32, 3) := by decide +kernel
theorem md_Mo_deliver_123 : decode mb_Mo_deliver 123 = .ok (.iload 5, 2) := by decide +kernel
theorem md_Mo_deliver_125 : decode mb_Mo_deliver 125 = .ok (.iload 6, 2) := by decide +kernel
theorem md_Mo_deliver_127 : decode mb_Mo_deliver 127 = .ok (.if_icmp .eq 9, 3) := by decide +kernel
theorem md_Mo_deliver_130 : decode mb_Mo_deliver 130 = .ok (.iload 5, 2) := by decide +kernel
theorem md_Mo_deliver_132 : decode mb_Mo_deliver 132 = .ok (.iconst 3, 1) := by decide +kernel
theorem md_Mo_deliver_133 : decode mb_Mo_deliver 133 = .ok (.if_icmp .ne 13, 3) := by decide +kernel
theorem md_Mo_deliver_136 : decode mb_Mo_deliver 136 = .ok (.aload_n 0, 1) := by decide +kernel
theorem md_Mo_deliver_137 : decode mb_Mo_deliver 137 = .ok (.iload 6, 2) := by decide +kernel
theorem md_Mo_deliver_139 : decode mb_Mo_deliver 139 = .ok (.iload_n 2, 1) := by decide +kernel
theorem md_Mo_deliver_140 : decode mb_Mo_deliver 140 = .ok (.iload_n 3, 1) := by decide +kernel
theorem md_Mo_deliver_141 : decode mb_Mo_deliver 141 = .ok (.iload 4, 2) := by decide +kernel
theorem md_Mo_deliver_143 : decode mb_Mo_deliver 143 = .ok (.invokevirtual 193, 3) := by decide +kernel
theorem md_Mo_deliver_146 : decode mb_Mo_deliver 146 = .ok (.iinc 6 1, 3) := by decide +kernel
theorem md_Mo_deliver_149 : decode mb_Mo_deliver 149 = .ok (.goto (-32), 3) := by decide +kernel
theorem md_Mo_deliver_152 : decode mb_Mo_deliver 152 = .ok (.aload_n 0, 1) := by decide +kernel
theorem md_Mo_deliver_153 : decode mb_Mo_deliver 153 = .ok (.getfield 170, 3) := by decide +kernel
theorem md_Mo_deliver_156 : decode mb_Mo_deliver 156 = .ok (.ireturn, 1) := by decide +kernel
