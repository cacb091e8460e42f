abbrev mb_Mo_relation : ByteArray := prog_11_method_45_code
def my_Mo_relation : MethodName := ⟨R_Mo, "relation", "(II)I"⟩
abbrev mrm_Mo_relation : Room := { frames := 1, cells := 0, slots := 0, locals := 22 }
theorem mK_Mo_relation : Cond.code my_Mo_relation mb_Mo_relation 3 (some .int) ∈ vTB := vTB_in 1109 (by decide +kernel) rfl
theorem mI_Mo_relation : Cond.instanceMethod my_Mo_relation ∈ vTB := vTB_in 1107 (by decide +kernel) rfl
theorem mS_Mo_relation : Cond.selects R_Mo my_Mo_relation my_Mo_relation ∈ vTB := vTB_in 1108 (by decide +kernel) rfl
theorem mw_Mo_relation {R : Room} {s : State} {args : Array Value} {own : String} {index : Nat} (hts : ∀ w ∈ vTB, w.before args s = true) (hl : Cond.methodLink own index my_Mo_relation ∈ vTB) (hR : mrm_Mo_relation.frames + 1 ≤ R.frames ∧ 8 + (3 + 11) + mrm_Mo_relation.locals ≤ R.locals) : CallW R s args own R_Mo index my_Mo_relation mb_Mo_relation 3 (some .int) (Cond.code my_Mo_relation mb_Mo_relation 3 (some .int) :: vTB) mrm_Mo_relation 0 0 2 := cwV 2 hts (fw_gV vTB_good mK_Mo_relation hl mI_Mo_relation mS_Mo_relation N_Mo) rfl rfl rfl (by decide +kernel) hR
theorem md_Mo_relation_0 : decode mb_Mo_relation 0 = .ok (.iload_n 1, 1) := by decide +kernel
theorem md_Mo_relation_1 : decode mb_Mo_relation 1 = .ok (.iconst 0, 1) := by decide +kernel
theorem md_Mo_relation_2 : decode mb_Mo_relation 2 = .ok (.iconst 1, 1) := by decide +kernel
theorem md_Mo_relation_3 : decode mb_Mo_relation 3 = .ok (.invokestatic 155, 3) := by decide +kernel
theorem md_Mo_relation_6 : decode mb_Mo_relation 6 = .ok (.ifCond .ne 5, 3) := by decide +kernel
theorem md_Mo_relation_9 : decode mb_Mo_relation 9 = .ok (.iconst (-1), 1) := by decide +kernel
theorem md_Mo_relation_10 : decode mb_Mo_relation 10 = .ok (.ireturn, 1) := by decide +kernel
theorem md_Mo_relation_11 : decode mb_Mo_relation 11 = .ok (.iload_n 2, 1) := by decide +kernel
theorem md_Mo_relation_12 : decode mb_Mo_relation 12 = .ok (.tableswitch 93 0 6 #[44, 51, 58, 65, 72, 79, 86], 44) := by decide +kernel
theorem md_Mo_relation_56 : decode mb_Mo_relation 56 = .ok (.aload_n 0, 1) := by decide +kernel
theorem md_Mo_relation_57 : decode mb_Mo_relation 57 = .ok (.getfield 41, 3) := by decide +kernel
theorem md_Mo_relation_60 : decode mb_Mo_relation 60 = .ok (.iload_n 1, 1) := by decide +kernel
theorem md_Mo_relation_61 : decode mb_Mo_relation 61 = .ok (.iaload, 1) := by decide +kernel
theorem md_Mo_relation_62 : decode mb_Mo_relation 62 = .ok (.ireturn, 1) := by decide +kernel
theorem md_Mo_relation_63 : decode mb_Mo_relation 63 = .ok (.aload_n 0, 1) := by decide +kernel
theorem md_Mo_relation_64 : decode mb_Mo_relation 64 = .ok (.getfield 44, 3) := by decide +kernel
theorem md_Mo_relation_67 : decode mb_Mo_relation 67 = .ok (.iload_n 1, 1) := by decide +kernel
theorem md_Mo_relation_68 : decode mb_Mo_relation 68 = .ok (.iaload, 1) := by decide +kernel
theorem md_Mo_relation_69 : decode mb_Mo_relation 69 = .ok (.ireturn, 1) := by decide +kernel
theorem md_Mo_relation_70 : decode mb_Mo_relation 70 = .ok (.aload_n 0, 1) := by decide +kernel
theorem md_Mo_relation_71 : decode mb_Mo_relation 71 = .ok (.getfield 50, 3) := by decide +kernel
theorem md_Mo_relation_74 : decode mb_Mo_relation 74 = .ok (.iload_n 1, 1) := by decide +kernel
theorem md_Mo_relation_75 : decode mb_Mo_relation 75 = .ok (.iaload, 1) := by decide +kernel
theorem md_Mo_relation_76 : decode mb_Mo_relation 76 = .ok (.ireturn, 1) := by decide +kernel
theorem md_Mo_relation_77 : decode mb_Mo_relation 77 = .ok (.aload_n 0, 1) := by decide +kernel
theorem md_Mo_relation_78 : decode mb_Mo_relation 78 = .ok (.getfield 53, 3) := by decide +kernel
theorem md_Mo_relation_81 : decode mb_Mo_relation 81 = .ok (.iload_n 1, 1) := by decide +kernel
theorem md_Mo_relation_82 : decode mb_Mo_relation 82 = .ok (.iaload, 1) := by decide +kernel
theorem md_Mo_relation_83 : decode mb_Mo_relation 83 = .ok (.ireturn, 1) := by decide +kernel
theorem md_Mo_relation_84 : decode mb_Mo_relation 84 = .ok (.aload_n 0, 1) := by decide +kernel
theorem md_Mo_relation_85 : decode mb_Mo_relation 85 = .ok (.getfield 56, 3) := by decide +kernel
theorem md_Mo_relation_88 : decode mb_Mo_relation 88 = .ok (.iload_n 1, 1) := by decide +kernel
theorem md_Mo_relation_89 : decode mb_Mo_relation 89 = .ok (.iaload, 1) := by decide +kernel
theorem md_Mo_relation_90 : decode mb_Mo_relation 90 = .ok (.ireturn, 1) := by decide +kernel
theorem md_Mo_relation_91 : decode mb_Mo_relation 91 = .ok (.aload_n 0, 1) := by decide +kernel
theorem md_Mo_relation_92 : decode mb_Mo_relation 92 = .ok (.getfield 59, 3) := by decide +kernel
theorem md_Mo_relation_95 : decode mb_Mo_relation 95 = .ok (.iload_n 1, 1) := by decide +kernel
theorem md_Mo_relation_96 : decode mb_Mo_relation 96 = .ok (.iaload, 1) := by decide +kernel
theorem md_Mo_relation_97 : decode mb_Mo_relation 97 = .ok (.ireturn, 1) := by decide +kernel
theorem md_Mo_relation_98 : decode mb_Mo_relation 98 = .ok (.aload_n 0, 1) := by decide +kernel
theorem md_Mo_relation_99 : decode mb_Mo_relation 99 = .ok (.getfield 62, 3) := by decide +kernel
theorem md_Mo_relation_102 : decode mb_Mo_relation 102 = .ok (.iload_n 1, 1) := by decide +kernel
theorem md_Mo_relation_103 : decode mb_Mo_relation 103 = .ok (.iaload, 1) := by decide +kernel
theorem md_Mo_relation_104 : decode mb_Mo_relation 104 = .ok (.ireturn, 1) := by decide +kernel
theorem md_Mo_relation_105 : decode mb_Mo_relation 105 = .ok (.iconst (-1), 1) := by decide +kernel
theorem md_Mo_relation_106 : decode mb_Mo_relation 106 = .ok (.ireturn, 1) := by decide +kernel
abbrev mb_Mo_device : ByteArray := prog_11_method_46_code
def my_Mo_device : MethodName := ⟨R_Mo, "device", "(II)I"⟩
abbrev mrm_Mo_device : Room := { frames := 1, cells := 0, slots := 0, locals := 22 }
theorem mK_Mo_device : Cond.code my_Mo_device mb_Mo_device 3 (some .int) ∈ vTB := vTB_in 1113 (by decide +kernel) rfl
theorem mI_Mo_device : Cond.instanceMethod my_Mo_device ∈ vTB := vTB_in 1111 (by decide +kernel) rfl
theorem mS_Mo_device : Cond.selects R_Mo my_Mo_device my_Mo_device ∈ vTB := vTB_in 1112 (by decide +kernel) rfl
theorem mw_Mo_device {R : Room} {s : State} {args : Array Value} {own : String} {index : Nat} (hts : ∀ w ∈ vTB, w.before args s = true) (hl : Cond.methodLink own index my_Mo_device ∈ vTB) (hR : mrm_Mo_device.frames + 1 ≤ R.frames ∧ 8 + (3 + 11) + mrm_Mo_device.locals ≤ R.locals) : CallW R s args own R_Mo index my_Mo_device mb_Mo_device 3 (some .int) (Cond.code my_Mo_device mb_Mo_device 3 (some .int) :: vTB) mrm_Mo_device 0 0 2 := cwV 2 hts (fw_gV vTB_good mK_Mo_device hl mI_Mo_device mS_Mo_device N_Mo) rfl rfl rfl (by decide +kernel) hR
theorem md_Mo_device_0 : decode mb_Mo_device 0 = .ok (.iload_n 1, 1) := by decide +kernel
theorem md_Mo_device_1 : decode mb_Mo_device 1 = .ok (.iconst 0, 1) := by decide +kernel
theorem md_Mo_device_2 : decode mb_Mo_device 2 = .ok (.iconst 1, 1) := by decide +kernel
theorem md_Mo_device_3 : decode mb_Mo_device 3 = .ok (.invokestatic 155, 3) := by decide +kernel
theorem md_Mo_device_6 : decode mb_Mo_device 6 = .ok (.ifCond .eq 13, 3) := by decide +kernel
theorem md_Mo_device_9 : decode mb_Mo_device 9 = .ok (.iload_n 2, 1) := by decide +kernel
theorem md_Mo_device_10 : decode mb_Mo_device 10 = .ok (.iconst 0, 1) := by decide +kernel
theorem md_Mo_device_11 : decode mb_Mo_device 11 = .ok (.bipush 8, 2) := by decide +kernel
theorem md_Mo_device_13 : decode mb_Mo_device 13 = .ok (.invokestatic 155, 3) := by decide +kernel
theorem md_Mo_device_16 : decode mb_Mo_device 16 = .ok (.ifCond .ne 5, 3) := by decide +kernel
theorem md_Mo_device_19 : decode mb_Mo_device 19 = .ok (.iconst (-1), 1) := by decide +kernel
theorem md_Mo_device_20 : decode mb_Mo_device 20 = .ok (.ireturn, 1) := by decide +kernel
theorem md_Mo_device_21 : decode mb_Mo_device 21 = .ok (.iload_n 2, 1) := by decide +kernel
theorem md_Mo_device_22 : decode mb_Mo_device 22 = .ok (.tableswitch 92 0 8 #[50, 57, 64, 71, 78, 92, 92, 92, 85], 50) := by decide +kernel
theorem md_Mo_device_72 : decode mb_Mo_device 72 = .ok (.aload_n 0, 1) := by decide +kernel
theorem md_Mo_device_73 : decode mb_Mo_device 73 = .ok (.getfield 89, 3) := by decide +kernel
theorem md_Mo_device_76 : decode mb_Mo_device 76 = .ok (.iload_n 1, 1) := by decide +kernel
theorem md_Mo_device_77 : decode mb_Mo_device 77 = .ok (.iaload, 1) := by decide +kernel
theorem md_Mo_device_78 : decode mb_Mo_device 78 = .ok (.ireturn, 1) := by decide +kernel
theorem md_Mo_device_79 : decode mb_Mo_device 79 = .ok (.aload_n 0, 1) := by decide +kernel
theorem md_Mo_device_80 : decode mb_Mo_device 80 = .ok (.getfield 92, 3) := by decide +kernel
theorem md_Mo_device_83 : decode mb_Mo_device 83 = .ok (.iload_n 1, 1) := by decide +kernel
theorem md_Mo_device_84 : decode mb_Mo_device 84 = .ok (.iaload, 1) := by decide +kernel
theorem md_Mo_device_85 : decode mb_Mo_device 85 = .ok (.ireturn, 1) := by decide +kernel
theorem md_Mo_device_86 : decode mb_Mo_device 86 = .ok (.aload_n 0, 1) := by decide +kernel
theorem md_Mo_device_87 : decode mb_Mo_device 87 = .ok (.getfield 98, 3) := by decide +kernel
theorem md_Mo_device_90 : decode mb_Mo_device 90 = .ok (.iload_n 1, 1) := by decide +kernel
theorem md_Mo_device_91 : decode mb_Mo_device 91 = .ok (.iaload, 1) := by decide +kernel
theorem md_Mo_device_92 : decode mb_Mo_device 92 = .ok (.ireturn, 1) := by decide +kernel
theorem md_Mo_device_93 : decode mb_Mo_device 93 = .ok (.aload_n 0, 1) := by decide +kernel
theorem md_Mo_device_94 : decode mb_Mo_device 94 = .ok (.getfield 116, 3) := by decide +kernel
theorem md_Mo_device_97 : decode mb_Mo_device 97 = .ok (.iload_n 1, 1) := by decide +kernel
theorem md_Mo_device_98 : decode mb_Mo_device 98 = .ok (.iaload, 1) := by decide +kernel
theorem md_Mo_device_99 : decode mb_Mo_device 99 = .ok (.ireturn, 1) := by decide +kernel
theorem md_Mo_device_100 : decode mb_Mo_device 100 = .ok (.aload_n 0, 1) := by decide +kernel
theorem md_Mo_device_101 : decode mb_Mo_device 101 = .ok (.getfield 113, 3) := by decide +kernel
theorem md_Mo_device_104 : decode mb_Mo_device 104 = .ok (.iload_n 1, 1) := by decide +kernel
theorem md_Mo_device_105 : decode mb_Mo_device 105 = .ok (.iaload, 1) := by decide +kernel
theorem md_Mo_device_106 : decode mb_Mo_device 106 = .ok (.ireturn, 1) := by decide +kernel
theorem md_Mo_device_107 : decode mb_Mo_device 107 = .ok (.aload_n 0, 1) := by decide +kernel
theorem md_Mo_device_108 : decode mb_Mo_device 108 = .ok (.getfield 101, 3) := by decide +kernel
theorem md_Mo_device_111 : decode mb_Mo_device 111 = .ok (.iload_n 1, 1) := by decide +kernel
theorem md_Mo_device_112 : decode mb_Mo_device 112 = .ok (.iaload, 1) := by decide +kernel
theorem md_Mo_device_113 : decode mb_Mo_device 113 = .ok (.ireturn, 1) := by decide +kernel
theorem md_Mo_device_114 : decode mb_Mo_device 114 = .ok (.aload_n 0, 1) := by decide +kernel
theorem md_Mo_device_115 : decode mb_Mo_device 115 = .ok (.getfield 137, 3) := by decide +kernel
theorem md_Mo_device_118 : decode mb_Mo_device 118 = .ok (.iconst 3, 1) := by decide +kernel
theorem md_Mo_device_119 : decode mb_Mo_device 119 = .ok (.iload_n 1, 1) := by decide +kernel
theorem md_Mo_device_120 : decode mb_Mo_device 120 = .ok (.imul, 1) := by decide +kernel
theorem md_Mo_device_121 : decode mb_Mo_device 121 = .ok (.iload_n 2, 1) := by decide +kernel
theorem md_Mo_device_122 : decode mb_Mo_device 122 = .ok (.iadd, 1) := by decide +kernel
theorem md_Mo_device_123 : decode mb_Mo_device 123 = .ok (.iconst 5, 1) := by decide +kernel
theorem md_Mo_device_124 : decode mb_Mo_device 124 = .ok (.isub, 1) := by decide +kernel
theorem md_Mo_device_125 : decode mb_Mo_device 125 = .ok (.iaload, 1) := by decide +kernel
theorem md_Mo_device_126 : decode mb_Mo_device 126 = .ok (.ireturn, 1) := by decide +kernel
abbrev mb_Mo_data : ByteArray := prog_11_method_47_code
def my_Mo_data : MethodName := ⟨R_Mo, "data", "(IIII)I"⟩
abbrev mrm_Mo_data : Room := { frames := 1, cells := 0, slots := 0, locals := 22 }
theorem mK_Mo_data : Cond.code my_Mo_data mb_Mo_data 5 (some .int) ∈ vTB := vTB_in 1117 (by decide +kernel) rfl
theorem mI_Mo_data : Cond.instanceMethod my_Mo_data ∈ vTB := vTB_in 1115 (by decide +kernel) rfl
theorem mS_Mo_data : Cond.selects R_Mo my_Mo_data my_Mo_data ∈ vTB := vTB_in 1116 (by decide +kernel) rfl
theorem mw_Mo_data {R : Room} {s : State} {args : Array Value} {own : String} {index : Nat} (hts : ∀ w ∈ vTB, w.before args s = true) (hl : Cond.methodLink own index my_Mo_data ∈ vTB) (hR : mrm_Mo_data.frames + 1 ≤ R.frames ∧ 8 + (5 + 11) + mrm_Mo_data.locals ≤ R.locals) : CallW R s args own R_Mo index my_Mo_data mb_Mo_data 5 (some .int) (Cond.code my_Mo_data mb_Mo_data 5 (some .int) :: vTB) mrm_Mo_data 0 0 4 := cwV 4 hts (fw_gV vTB_good mK_Mo_data hl mI_Mo_data mS_Mo_data N_Mo) rfl rfl rfl (by decide +kernel) hR
theorem md_Mo_data_0 : decode mb_Mo_data 0 = .ok (.iload_n 1, 1) := by decide +kernel
theorem md_Mo_data_1 : decode mb_Mo_data 1 = .ok (.iconst 0, 1) := by decide +kernel
theorem md_Mo_data_2 : decode mb_Mo_data 2 = .ok (.iconst 1, 1) := by decide +kernel
theorem md_Mo_data_3 : decode mb_Mo_data 3 = .ok (.invokestatic 155, 3) := by decide +kernel
theorem md_Mo_data_6 : decode mb_Mo_data 6 = .ok (.ifCond .eq 31, 3) := by decide +kernel
theorem md_Mo_data_9 : decode mb_Mo_data 9 = .ok (.iload_n 2, 1) := by decide +kernel
theorem md_Mo_data_10 : decode mb_Mo_data 10 = .ok (.iconst 0, 1) := by decide +kernel
theorem md_Mo_data_11 : decode mb_Mo_data 11 = .ok (.iconst 1, 1) := by decide +kernel
theorem md_Mo_data_12 : decode mb_Mo_data 12 = .ok (.invokestatic 155, 3) := by decide +kernel
theorem md_Mo_data_15 : decode mb_Mo_data 15 = .ok (.ifCond .eq 22, 3) := by decide +kernel
theorem md_Mo_data_18 : decode mb_Mo_data 18 = .ok (.iload_n 3, 1) := by decide +kernel
theorem md_Mo_data_19 : decode mb_Mo_data 19 = .ok (.iconst 0, 1) := by decide +kernel
theorem md_Mo_data_20 : decode mb_Mo_data 20 = .ok (.iconst 2, 1) := by decide +kernel
theorem md_Mo_data_21 : decode mb_Mo_data 21 = .ok (.invokestatic 155, 3) := by decide +kernel
theorem md_Mo_data_24 : decode mb_Mo_data 24 = .ok (.ifCond .eq 13, 3) := by decide +kernel
theorem md_Mo_data_27 : decode mb_Mo_data 27 = .ok (.iload 4, 2) := by decide +kernel
theorem md_Mo_data_29 : decode mb_Mo_data 29 = .ok (.iconst 0, 1) := by decide +kernel
theorem md_Mo_data_30 : decode mb_Mo_data 30 = .ok (.iconst 1, 1) := by decide +kernel
theorem md_Mo_data_31 : decode mb_Mo_data 31 = .ok (.invokestatic 155, 3) := by decide +kernel
theorem md_Mo_data_34 : decode mb_Mo_data 34 = .ok (.ifCond .ne 5, 3) := by decide +kernel
theorem md_Mo_data_37 : decode mb_Mo_data 37 = .ok (.iconst (-1), 1) := by decide +kernel
theorem md_Mo_data_38 : decode mb_Mo_data 38 = .ok (.ireturn, 1) := by decide +kernel
theorem md_Mo_data_39 : decode mb_Mo_data 39 = .ok (.iload_n 1, 1) := by decide +kernel
theorem md_Mo_data_40 : decode mb_Mo_data 40 = .ok (.ifCond .ne 22, 3) := by decide +kernel
theorem md_Mo_data_43 : decode mb_Mo_data 43 = .ok (.aload_n 0, 1) := by decide +kernel
theorem md_Mo_data_44 : decode mb_Mo_data 44 = .ok (.getfield 143, 3) := by decide +kernel
theorem md_Mo_data_47 : decode mb_Mo_data 47 = .ok (.bipush 6, 2) := by decide +kernel
theorem md_Mo_data_49 : decode mb_Mo_data 49 = .ok (.iload_n 2, 1) := by decide +kernel
theorem md_Mo_data_50 : decode mb_Mo_data 50 = .ok (.imul, 1) := by decide +kernel
theorem md_Mo_data_51 : decode mb_Mo_data 51 = .ok (.iconst 2, 1) := by decide +kernel
theorem md_Mo_data_52 : decode mb_Mo_data 52 = .ok (.iload_n 3, 1) := by decide +kernel
theorem md_Mo_data_53 : decode mb_Mo_data 53 = .ok (.imul, 1) := by decide +kernel
theorem md_Mo_data_54 : decode mb_Mo_data 54 = .ok (.iadd, 1) := by decide +kernel
theorem md_Mo_data_55 : decode mb_Mo_data 55 = .ok (.iload 4, 2) := by decide +kernel
theorem md_Mo_data_57 : decode mb_Mo_data 57 = .ok (.iadd, 1) := by decide +kernel
theorem md_Mo_data_58 : decode mb_Mo_data 58 = .ok (.iaload, 1) := by decide +kernel
theorem md_Mo_data_59 : decode mb_Mo_data 59 = .ok (.goto 19, 3) := by decide +kernel
theorem md_Mo_data_62 : decode mb_Mo_data 62 = .ok (.aload_n 0, 1) := by decide +kernel
theorem md_Mo_data_63 : decode mb_Mo_data 63 = .ok (.getfield 86, 3) := by decide +kernel
theorem md_Mo_data_66 : decode mb_Mo_data 66 = .ok (.bipush 6, 2) := by decide +kernel
theorem md_Mo_data_68 : decode mb_Mo_data 68 = .ok (.iload_n 2, 1) := by decide +kernel
theorem md_Mo_data_69 : decode mb_Mo_data 69 = .ok (.imul, 1) := by decide +kernel
theorem md_Mo_data_70 : decode mb_Mo_data 70 = .ok (.iconst 2, 1) := by decide +kernel
theorem md_Mo_data_71 : decode mb_Mo_data 71 = .ok (.iload_n 3, 1) := by decide +kernel
theorem md_Mo_data_72 : decode mb_Mo_data 72 = .ok (.imul, 1) := by decide +kernel
theorem md_Mo_data_73 : decode mb_Mo_data 73 = .ok (.iadd, 1) := by decide +kernel
theorem md_Mo_data_74 : decode mb_Mo_data 74 = .ok (.iload 4, 2) := by decide +kernel
theorem md_Mo_data_76 : decode mb_Mo_data 76 = .ok (.iadd, 1) := by decide +kernel
theorem md_Mo_data_77 : decode mb_Mo_data 77 = .ok (.iaload, 1) := by decide +kernel
theorem md_Mo_data_78 : decode mb_Mo_data 78 = .ok (.ireturn, 1) := by decide +kernel
abbrev mb_Mo_alarms : ByteArray := prog_11_method_48_code
def my_Mo_alarms : MethodName := ⟨R_Mo, "alarms", "(I)I"⟩
abbrev mrm_Mo_alarms : Room := { frames := 0, cells := 0, slots := 0, locals := 0 }
theorem mK_Mo_alarms : Cond.code my_Mo_alarms mb_Mo_alarms 2 (some .int) ∈ vTB := vTB_in 1121 (by decide +kernel) rfl
theorem mI_Mo_alarms : Cond.instanceMethod my_Mo_alarms ∈ vTB := vTB_in 1119 (by decide +kernel) rfl
theorem mS_Mo_alarms : Cond.selects R_Mo my_Mo_alarms my_Mo_alarms ∈ vTB := vTB_in 1120 (by decide +kernel) rfl
theorem mw_Mo_alarms {R : Room} {s : State} {args : Array Value} {own : String} {index : Nat} (hts : ∀ w ∈ vTB, w.before args s = true) (hl : Cond.methodLink own index my_Mo_alarms ∈ vTB) (hR : mrm_Mo_alarms.frames + 1 ≤ R.frames ∧ 8 + (2 + 11) + mrm_Mo_alarms.locals ≤ R.locals) : CallW R s args own R_Mo index my_Mo_alarms mb_Mo_alarms 2 (some .int) (Cond.code my_Mo_alarms mb_Mo_alarms 2 (some .int) :: vTB) mrm_Mo_alarms 0 0 1 := cwV 1 hts (fw_gV vTB_good mK_Mo_alarms hl mI_Mo_alarms mS_Mo_alarms N_Mo) rfl rfl rfl (by decide +kernel) hR
theorem md_Mo_alarms_0 : decode mb_Mo_alarms 0 = .ok (.iload_n 1, 1) := by decide +kernel
theorem md_Mo_alarms_1 : decode mb_Mo_alarms 1 = .ok (.ifCond .lt 26, 3) := by decide +kernel
theorem md_Mo_alarms_4 : decode mb_Mo_alarms 4 = .ok (.iload_n 1, 1) := by decide +kernel
theorem md_Mo_alarms_5 : decode mb_Mo_alarms 5 = .ok (.bipush 8, 2) := by decide +kernel
theorem md_Mo_alarms_7 : decode mb_Mo_alarms 7 = .ok (.if_icmp .ge 20, 3) := by decide +kernel
theorem md_Mo_alarms_10 : decode mb_Mo_alarms 10 = .ok (.iload_n 1, 1) := by decide +kernel
theorem md_Mo_alarms_11 : decode mb_Mo_alarms 11 = .ok (.aload_n 0, 1) := by decide +kernel
theorem md_Mo_alarms_12 : decode mb_Mo_alarms 12 = .ok (.getfield 232, 3) := by decide +kernel
theorem md_Mo_alarms_15 : decode mb_Mo_alarms 15 = .ok (.if_icmp .ge 12, 3) := by decide +kernel
theorem md_Mo_alarms_18 : decode mb_Mo_alarms 18 = .ok (.aload_n 0, 1) := by decide +kernel
theorem md_Mo_alarms_19 : decode mb_Mo_alarms 19 = .ok (.getfield 152, 3) := by decide +kernel
theorem md_Mo_alarms_22 : decode mb_Mo_alarms 22 = .ok (.iload_n 1, 1) := by decide +kernel
theorem md_Mo_alarms_23 : decode mb_Mo_alarms 23 = .ok (.iaload, 1) := by decide +kernel
theorem md_Mo_alarms_24 : decode mb_Mo_alarms 24 = .ok (.goto 5, 3) := by decide +kernel
theorem md_Mo_alarms_27 : decode mb_Mo_alarms 27 = .ok (.bipush (-2), 2) := by decide +kernel
theorem md_Mo_alarms_29 : decode mb_Mo_alarms 29 = .ok (.ireturn, 1) := by decide +kernel
abbrev mb_Mo_count : ByteArray := prog_11_method_49_code
def my_Mo_count : MethodName := ⟨R_Mo, "count", "(I)I"⟩
abbrev mrm_Mo_count : Room := { frames := 0, cells := 0, slots := 0, locals := 0 }
theorem mK_Mo_count : Cond.code my_Mo_count mb_Mo_count 2 (some .int) ∈ vTB := vTB_in 1125 (by decide +kernel) rfl
theorem mI_Mo_count : Cond.instanceMethod my_Mo_count ∈ vTB := vTB_in 1123 (by decide +kernel) rfl
theorem mS_Mo_count : Cond.selects R_Mo my_Mo_count my_Mo_count ∈ vTB := vTB_in 1124 (by decide +kernel) rfl
theorem mw_Mo_count {R : Room} {s : State} {args : Array Value} {own : String} {index : Nat} (hts : ∀ w ∈ vTB, w.before args s = true) (hl : Cond.methodLink own index my_Mo_count ∈ vTB) (hR : mrm_Mo_count.frames + 1 ≤ R.frames ∧ 8 + (2 + 11) + mrm_Mo_count.locals ≤ R.locals) : CallW R s args own R_Mo index my_Mo_count mb_Mo_count 2 (some .int) (Cond.code my_Mo_count mb_Mo_count 2 (some .int) :: vTB) mrm_Mo_count 0 0 1 := cwV 1 hts (fw_gV vTB_good mK_Mo_count hl mI_Mo_count mS_Mo_count N_Mo) rfl rfl rfl (by decide +kernel) hR
theorem md_Mo_count_0 : decode mb_Mo_count 0 = .ok (.iload_n 1, 1) := by decide +kernel
theorem md_Mo_count_1 : decode mb_Mo_count 1 = .ok (.tableswitch 87 0 7 #[47, 52, 57, 62, 67, 72, 77, 82], 47) := by decide +kernel
theorem md_Mo_count_48 : decode mb_Mo_count 48 = .ok (.aload_n 0, 1) := by decide +kernel
theorem md_Mo_count_49 : decode mb_Mo_count 49 = .ok (.getfield 266, 3) := by decide +kernel
theorem md_Mo_count_52 : decode mb_Mo_count 52 = .ok (.ireturn, 1) := by decide +kernel
theorem md_Mo_count_53 : decode mb_Mo_count 53 = .ok (.aload_n 0, 1) := by decide +kernel
theorem md_Mo_count_54 : decode mb_Mo_count 54 = .ok (.getfield 166, 3) := by decide +kernel
theorem md_Mo_count_57 : decode mb_Mo_count 57 = .ok (.ireturn, 1) := by decide +kernel
theorem md_Mo_count_58 : decode mb_Mo_count 58 = .ok (.aload_n 0, 1) := by decide +kernel
theorem md_Mo_count_59 : decode mb_Mo_count 59 = .ok (.getfield 173, 3) := by decide +kernel
theorem md_Mo_count_62 : decode mb_Mo_count 62 = .ok (.ireturn, 1) := by decide +kernel
theorem md_Mo_count_63 : decode mb_Mo_count 63 = .ok (.aload_n 0, 1) := by decide +kernel
theorem md_Mo_count_64 : decode mb_Mo_count 64 = .ok (.getfield 170, 3) := by decide +kernel
theorem md_Mo_count_67 : decode mb_Mo_count 67 = .ok (.ireturn, 1) := by decide +kernel
theorem md_Mo_count_68 : decode mb_Mo_count 68 = .ok (.aload_n 0, 1) := by decide +kernel
theorem md_Mo_count_69 : decode mb_Mo_count 69 = .ok (.getfield 186, 3) := by decide +kernel
theorem md_Mo_count_72 : decode mb_Mo_count 72 = .ok (.ireturn, 1) := by decide +kernel
theorem md_Mo_count_73 : decode mb_Mo_count 73 = .ok (.aload_n 0, 1) := by decide +kernel
theorem md_Mo_count_74 : decode mb_Mo_count 74 = .ok (.getfield 210, 3) := by decide +kernel
theorem md_Mo_count_77 : decode mb_Mo_count 77 = .ok (.ireturn, 1) := by decide +kernel
theorem md_Mo_count_78 : decode mb_Mo_count 78 = .ok (.aload_n 0, 1) := by decide +kernel
theorem md_Mo_count_79 : decode mb_Mo_count 79 = .ok (.getfield 232, 3) := by decide +kernel
theorem md_Mo_count_82 : decode mb_Mo_count 82 = .ok (.ireturn, 1) := by decide +kernel
theorem md_Mo_count_83 : decode mb_Mo_count 83 = .ok (.aload_n 0, 1) := by decide +kernel
theorem md_Mo_count_84 : decode mb_Mo_count 84 = .ok (.getfield 235, 3) := by decide +kernel
theorem md_Mo_count_87 : decode mb_Mo_count 87 = .ok (.ireturn, 1) := by decide +kernel
theorem md_Mo_count_88 : decode mb_Mo_count 88 = .ok (.iconst (-1), 1) := by decide +kernel
theorem md_Mo_count_89 : decode mb_Mo_count 89 = .ok (.ireturn, 1) := by decide +kernel
