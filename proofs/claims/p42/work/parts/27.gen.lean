theorem wm_6_87 : Cond.methodLink RX12 190 yX12_takes ∈ WG := wg_t6 (List.mem_of_getElem? (i := 87) rfl) rfl
theorem wm_6_90 : Cond.code yX12_takes cX12_takes 4 (some .int) ∈ WG := wg_t6 (List.mem_of_getElem? (i := 90) rfl) rfl
theorem wm_6_89 : Cond.instanceMethod yX12_takes ∈ WG := wg_t6 (List.mem_of_getElem? (i := 89) rfl) rfl
theorem wp_4_9 : Cond.selects RX12 yX12_takes yX12_takes ∈ WG := wg_p (q := (yX12_takes, 37)) (wg_p4 (List.mem_of_getElem? (i := 9) rfl)) rfl
theorem wm_6_103 : Cond.constant RX12 194 (268435456) ∈ WG := wg_t6 (List.mem_of_getElem? (i := 103) rfl) rfl
theorem wm_6_104 : Cond.methodLink RX12 195 yX12_readFlag ∈ WG := wg_t6 (List.mem_of_getElem? (i := 104) rfl) rfl
theorem wm_6_107 : Cond.code yX12_readFlag cX12_readFlag 4 (some .boolean) ∈ WG := wg_t6 (List.mem_of_getElem? (i := 107) rfl) rfl
theorem wm_6_106 : Cond.instanceMethod yX12_readFlag ∈ WG := wg_t6 (List.mem_of_getElem? (i := 106) rfl) rfl
theorem wp_4_13 : Cond.selects RX12 yX12_readFlag yX12_readFlag ∈ WG := wg_p (q := (yX12_readFlag, 37)) (wg_p4 (List.mem_of_getElem? (i := 13) rfl)) rfl
theorem hd_X12_takes : yX12_takes.cls ≠ "java/lang/invoke/MethodHandle" ∧ yX12_takes.cls ≠ "java/lang/invoke/VarHandle" ∧ (parseMethodDescriptor yX12_takes.desc).map (fun d => d.parameters.length) = some 2 := by decide +kernel
theorem hd_X12_readFlag : yX12_readFlag.cls ≠ "java/lang/invoke/MethodHandle" ∧ yX12_readFlag.cls ≠ "java/lang/invoke/VarHandle" ∧ (parseMethodDescriptor yX12_readFlag.desc).map (fun d => d.parameters.length) = some 1 := by decide +kernel
theorem dX12_readFlag_0 : decode cX12_readFlag 0 = .ok (.aload_n 0, 1) := sorry
theorem dX12_readFlag_1 : decode cX12_readFlag 1 = .ok (.iconst 3, 1) := sorry
theorem dX12_readFlag_2 : decode cX12_readFlag 2 = .ok (.invokevirtual 172, 3) := sorry
theorem dX12_readFlag_5 : decode cX12_readFlag 5 = .ok (.ifCond .eq 57, 3) := sorry
theorem dX12_readFlag_8 : decode cX12_readFlag 8 = .ok (.aload_n 0, 1) := sorry
theorem dX12_readFlag_9 : decode cX12_readFlag 9 = .ok (.iconst 0, 1) := sorry
theorem dX12_readFlag_10 : decode cX12_readFlag 10 = .ok (.sipush 999, 3) := sorry
theorem dX12_readFlag_13 : decode cX12_readFlag 13 = .ok (.invokevirtual 190, 3) := sorry
theorem dX12_readFlag_16 : decode cX12_readFlag 16 = .ok (.istore_n 2, 1) := sorry
theorem dX12_readFlag_17 : decode cX12_readFlag 17 = .ok (.aload_n 0, 1) := sorry
theorem dX12_readFlag_18 : decode cX12_readFlag 18 = .ok (.iconst 4, 1) := sorry
theorem dX12_readFlag_19 : decode cX12_readFlag 19 = .ok (.invokevirtual 172, 3) := sorry
theorem dX12_readFlag_22 : decode cX12_readFlag 22 = .ok (.ifCond .ne 8, 3) := sorry
theorem dX12_readFlag_25 : decode cX12_readFlag 25 = .ok (.aload_n 0, 1) := sorry
theorem dX12_readFlag_26 : decode cX12_readFlag 26 = .ok (.iconst 2, 1) := sorry
theorem dX12_readFlag_27 : decode cX12_readFlag 27 = .ok (.invokevirtual 141, 3) := sorry
theorem dX12_readFlag_30 : decode cX12_readFlag 30 = .ok (.aload_n 0, 1) := sorry
theorem dX12_readFlag_31 : decode cX12_readFlag 31 = .ok (.iload_n 2, 1) := sorry
theorem dX12_readFlag_32 : decode cX12_readFlag 32 = .ok (.sipush 999, 3) := sorry
theorem dX12_readFlag_35 : decode cX12_readFlag 35 = .ok (.invokevirtual 190, 3) := sorry
theorem dX12_readFlag_38 : decode cX12_readFlag 38 = .ok (.istore_n 3, 1) := sorry
theorem dX12_readFlag_39 : decode cX12_readFlag 39 = .ok (.aload_n 0, 1) := sorry
theorem dX12_readFlag_40 : decode cX12_readFlag 40 = .ok (.getfield 24, 3) := sorry
theorem dX12_readFlag_43 : decode cX12_readFlag 43 = .ok (.bipush 12, 2) := sorry
theorem dX12_readFlag_45 : decode cX12_readFlag 45 = .ok (.iload_n 1, 1) := sorry
theorem dX12_readFlag_46 : decode cX12_readFlag 46 = .ok (.iadd, 1) := sorry
theorem dX12_readFlag_47 : decode cX12_readFlag 47 = .ok (.iload_n 2, 1) := sorry
theorem dX12_readFlag_48 : decode cX12_readFlag 48 = .ok (.iastore, 1) := sorry
theorem dX12_readFlag_49 : decode cX12_readFlag 49 = .ok (.aload_n 0, 1) := sorry
theorem dX12_readFlag_50 : decode cX12_readFlag 50 = .ok (.getfield 24, 3) := sorry
theorem dX12_readFlag_53 : decode cX12_readFlag 53 = .ok (.bipush 22, 2) := sorry
theorem dX12_readFlag_55 : decode cX12_readFlag 55 = .ok (.iload_n 1, 1) := sorry
theorem dX12_readFlag_56 : decode cX12_readFlag 56 = .ok (.iadd, 1) := sorry
theorem dX12_readFlag_57 : decode cX12_readFlag 57 = .ok (.iload_n 3, 1) := sorry
theorem dX12_readFlag_58 : decode cX12_readFlag 58 = .ok (.iastore, 1) := sorry
theorem dX12_readFlag_59 : decode cX12_readFlag 59 = .ok (.goto 60, 3) := sorry
theorem dX12_readFlag_62 : decode cX12_readFlag 62 = .ok (.aload_n 0, 1) := sorry
theorem dX12_readFlag_63 : decode cX12_readFlag 63 = .ok (.iconst 5, 1) := sorry
theorem dX12_readFlag_64 : decode cX12_readFlag 64 = .ok (.invokevirtual 172, 3) := sorry
theorem dX12_readFlag_67 : decode cX12_readFlag 67 = .ok (.ifCond .eq 22, 3) := sorry
theorem dX12_readFlag_70 : decode cX12_readFlag 70 = .ok (.aload_n 0, 1) := sorry
theorem dX12_readFlag_71 : decode cX12_readFlag 71 = .ok (.getfield 24, 3) := sorry
theorem dX12_readFlag_74 : decode cX12_readFlag 74 = .ok (.bipush 32, 2) := sorry
theorem dX12_readFlag_76 : decode cX12_readFlag 76 = .ok (.iload_n 1, 1) := sorry
theorem dX12_readFlag_77 : decode cX12_readFlag 77 = .ok (.iadd, 1) := sorry
theorem dX12_readFlag_78 : decode cX12_readFlag 78 = .ok (.aload_n 0, 1) := sorry
theorem dX12_readFlag_79 : decode cX12_readFlag 79 = .ok (.iconst 0, 1) := sorry
theorem dX12_readFlag_80 : decode cX12_readFlag 80 = .ok (.bipush 10, 2) := sorry
theorem dX12_readFlag_82 : decode cX12_readFlag 82 = .ok (.invokevirtual 190, 3) := sorry
theorem dX12_readFlag_85 : decode cX12_readFlag 85 = .ok (.iastore, 1) := sorry
theorem dX12_readFlag_86 : decode cX12_readFlag 86 = .ok (.goto 33, 3) := sorry
theorem dX12_readFlag_89 : decode cX12_readFlag 89 = .ok (.aload_n 0, 1) := sorry
theorem dX12_readFlag_90 : decode cX12_readFlag 90 = .ok (.bipush 6, 2) := sorry
theorem dX12_readFlag_92 : decode cX12_readFlag 92 = .ok (.invokevirtual 172, 3) := sorry
theorem dX12_readFlag_95 : decode cX12_readFlag 95 = .ok (.ifCond .eq 22, 3) := sorry
theorem dX12_readFlag_98 : decode cX12_readFlag 98 = .ok (.aload_n 0, 1) := sorry
theorem dX12_readFlag_99 : decode cX12_readFlag 99 = .ok (.getfield 24, 3) := sorry
theorem dX12_readFlag_102 : decode cX12_readFlag 102 = .ok (.bipush 42, 2) := sorry
theorem dX12_readFlag_104 : decode cX12_readFlag 104 = .ok (.iload_n 1, 1) := sorry
theorem dX12_readFlag_105 : decode cX12_readFlag 105 = .ok (.iadd, 1) := sorry
theorem dX12_readFlag_106 : decode cX12_readFlag 106 = .ok (.aload_n 0, 1) := sorry
theorem dX12_readFlag_107 : decode cX12_readFlag 107 = .ok (.iconst 1, 1) := sorry
theorem dX12_readFlag_108 : decode cX12_readFlag 108 = .ok (.bipush 99, 2) := sorry
theorem dX12_readFlag_110 : decode cX12_readFlag 110 = .ok (.invokevirtual 190, 3) := sorry
theorem dX12_readFlag_113 : decode cX12_readFlag 113 = .ok (.iastore, 1) := sorry
theorem dX12_readFlag_114 : decode cX12_readFlag 114 = .ok (.goto 5, 3) := sorry
theorem dX12_readFlag_117 : decode cX12_readFlag 117 = .ok (.iconst 0, 1) := sorry
theorem dX12_readFlag_118 : decode cX12_readFlag 118 = .ok (.ireturn, 1) := sorry
theorem dX12_readFlag_119 : decode cX12_readFlag 119 = .ok (.aload_n 0, 1) := sorry
theorem dX12_readFlag_120 : decode cX12_readFlag 120 = .ok (.getfield 129, 3) := sorry
theorem dX12_readFlag_123 : decode cX12_readFlag 123 = .ok (.ifCond .ne 7, 3) := sorry
theorem dX12_readFlag_126 : decode cX12_readFlag 126 = .ok (.iconst 1, 1) := sorry
theorem dX12_readFlag_127 : decode cX12_readFlag 127 = .ok (.goto 4, 3) := sorry
theorem dX12_readFlag_130 : decode cX12_readFlag 130 = .ok (.iconst 0, 1) := sorry
theorem dX12_readFlag_131 : decode cX12_readFlag 131 = .ok (.ireturn, 1) := sorry
theorem dX12_readLaw_0 : decode cX12_readLaw 0 = .ok (.aload_n 0, 1) := sorry
theorem dX12_readLaw_1 : decode cX12_readLaw 1 = .ok (.invokevirtual 138, 3) := sorry
theorem dX12_readLaw_4 : decode cX12_readLaw 4 = .ok (.aload_n 0, 1) := sorry
theorem dX12_readLaw_5 : decode cX12_readLaw 5 = .ok (.bipush 31, 2) := sorry
theorem dX12_readLaw_7 : decode cX12_readLaw 7 = .ok (.invokevirtual 172, 3) := sorry
theorem dX12_readLaw_10 : decode cX12_readLaw 10 = .ok (.ifCond .ne 8, 3) := sorry
theorem dX12_readLaw_13 : decode cX12_readLaw 13 = .ok (.aload_n 0, 1) := sorry
theorem dX12_readLaw_14 : decode cX12_readLaw 14 = .ok (.iconst 2, 1) := sorry
theorem dX12_readLaw_15 : decode cX12_readLaw 15 = .ok (.invokevirtual 141, 3) := sorry
theorem dX12_readLaw_18 : decode cX12_readLaw 18 = .ok (.aload_n 0, 1) := sorry
theorem dX12_readLaw_19 : decode cX12_readLaw 19 = .ok (.getfield 24, 3) := sorry
theorem dX12_readLaw_22 : decode cX12_readLaw 22 = .ok (.sipush 405, 3) := sorry
theorem dX12_readLaw_25 : decode cX12_readLaw 25 = .ok (.iaload, 1) := sorry
theorem dX12_readLaw_26 : decode cX12_readLaw 26 = .ok (.istore_n 2, 1) := sorry
theorem dX12_readLaw_27 : decode cX12_readLaw 27 = .ok (.aload_n 0, 1) := sorry
theorem dX12_readLaw_28 : decode cX12_readLaw 28 = .ok (.iload_n 1, 1) := sorry
theorem dX12_readLaw_29 : decode cX12_readLaw 29 = .ok (.putfield 157, 3) := sorry
theorem dX12_readLaw_32 : decode cX12_readLaw 32 = .ok (.iload_n 1, 1) := sorry
theorem dX12_readLaw_33 : decode cX12_readLaw 33 = .ok (.iconst 2, 1) := sorry
theorem dX12_readLaw_34 : decode cX12_readLaw 34 = .ok (.if_icmp .ne 11, 3) := sorry
theorem dX12_readLaw_37 : decode cX12_readLaw 37 = .ok (.aload_n 0, 1) := sorry
theorem dX12_readLaw_38 : decode cX12_readLaw 38 = .ok (.iconst 0, 1) := sorry
theorem dX12_readLaw_39 : decode cX12_readLaw 39 = .ok (.invokevirtual 169, 3) := sorry
theorem dX12_readLaw_42 : decode cX12_readLaw 42 = .ok (.goto 8, 3) := sorry
theorem dX12_readLaw_45 : decode cX12_readLaw 45 = .ok (.aload_n 0, 1) := sorry
theorem dX12_readLaw_46 : decode cX12_readLaw 46 = .ok (.iconst 0, 1) := sorry
theorem dX12_readLaw_47 : decode cX12_readLaw 47 = .ok (.invokevirtual 184, 3) := sorry
theorem dX12_readLaw_50 : decode cX12_readLaw 50 = .ok (.aload_n 0, 1) := sorry
theorem dX12_readLaw_51 : decode cX12_readLaw 51 = .ok (.getfield 129, 3) := sorry
theorem dX12_readLaw_54 : decode cX12_readLaw 54 = .ok (.ifCond .eq 4, 3) := sorry
theorem dX12_readLaw_57 : decode cX12_readLaw 57 = .ok (.return_, 1) := sorry
theorem dX12_readLaw_58 : decode cX12_readLaw 58 = .ok (.aload_n 0, 1) := sorry
theorem dX12_readLaw_59 : decode cX12_readLaw 59 = .ok (.getfield 24, 3) := sorry
theorem dX12_readLaw_62 : decode cX12_readLaw 62 = .ok (.iconst 3, 1) := sorry
theorem dX12_readLaw_63 : decode cX12_readLaw 63 = .ok (.iload_n 1, 1) := sorry
theorem dX12_readLaw_64 : decode cX12_readLaw 64 = .ok (.iadd, 1) := sorry
theorem dX12_readLaw_65 : decode cX12_readLaw 65 = .ok (.iconst 1, 1) := sorry
theorem dX12_readLaw_66 : decode cX12_readLaw 66 = .ok (.iastore, 1) := sorry
theorem dX12_readLaw_67 : decode cX12_readLaw 67 = .ok (.aload_n 0, 1) := sorry
theorem dX12_readLaw_68 : decode cX12_readLaw 68 = .ok (.getfield 24, 3) := sorry
theorem dX12_readLaw_71 : decode cX12_readLaw 71 = .ok (.bipush 6, 2) := sorry
theorem dX12_readLaw_73 : decode cX12_readLaw 73 = .ok (.iload_n 1, 1) := sorry
theorem dX12_readLaw_74 : decode cX12_readLaw 74 = .ok (.iadd, 1) := sorry
theorem dX12_readLaw_75 : decode cX12_readLaw 75 = .ok (.iload_n 2, 1) := sorry
theorem dX12_readLaw_76 : decode cX12_readLaw 76 = .ok (.iastore, 1) := sorry
theorem dX12_readLaw_77 : decode cX12_readLaw 77 = .ok (.aload_n 0, 1) := sorry
theorem dX12_readLaw_78 : decode cX12_readLaw 78 = .ok (.getfield 24, 3) := sorry
theorem dX12_readLaw_81 : decode cX12_readLaw 81 = .ok (.bipush 9, 2) := sorry
theorem dX12_readLaw_83 : decode cX12_readLaw 83 = .ok (.iload_n 1, 1) := sorry
theorem dX12_readLaw_84 : decode cX12_readLaw 84 = .ok (.iadd, 1) := sorry
theorem dX12_readLaw_85 : decode cX12_readLaw 85 = .ok (.aload_n 0, 1) := sorry
theorem dX12_readLaw_86 : decode cX12_readLaw 86 = .ok (.getfield 24, 3) := sorry
theorem dX12_readLaw_89 : decode cX12_readLaw 89 = .ok (.sipush 405, 3) := sorry
theorem dX12_readLaw_92 : decode cX12_readLaw 92 = .ok (.iaload, 1) := sorry
theorem dX12_readLaw_93 : decode cX12_readLaw 93 = .ok (.iload_n 2, 1) := sorry
theorem dX12_readLaw_94 : decode cX12_readLaw 94 = .ok (.isub, 1) := sorry
theorem dX12_readLaw_95 : decode cX12_readLaw 95 = .ok (.iastore, 1) := sorry
theorem dX12_readLaw_96 : decode cX12_readLaw 96 = .ok (.return_, 1) := sorry
theorem dX12_readPerson_0 : decode cX12_readPerson 0 = .ok (.aload_n 0, 1) := sorry
theorem dX12_readPerson_1 : decode cX12_readPerson 1 = .ok (.getfield 24, 3) := sorry
theorem dX12_readPerson_4 : decode cX12_readPerson 4 = .ok (.iconst 2, 1) := sorry
theorem dX12_readPerson_5 : decode cX12_readPerson 5 = .ok (.iaload, 1) := sorry
theorem dX12_readPerson_6 : decode cX12_readPerson 6 = .ok (.istore_n 1, 1) := sorry
theorem dX12_readPerson_7 : decode cX12_readPerson 7 = .ok (.iload_n 1, 1) := sorry
theorem dX12_readPerson_8 : decode cX12_readPerson 8 = .ok (.bipush 10, 2) := sorry
theorem dX12_readPerson_10 : decode cX12_readPerson 10 = .ok (.if_icmp .ne 8, 3) := sorry
theorem dX12_readPerson_13 : decode cX12_readPerson 13 = .ok (.aload_n 0, 1) := sorry
theorem dX12_readPerson_14 : decode cX12_readPerson 14 = .ok (.iconst 4, 1) := sorry
theorem dX12_readPerson_15 : decode cX12_readPerson 15 = .ok (.invokevirtual 141, 3) := sorry
theorem dX12_readPerson_18 : decode cX12_readPerson 18 = .ok (.aload_n 0, 1) := sorry
theorem dX12_readPerson_19 : decode cX12_readPerson 19 = .ok (.getfield 129, 3) := sorry
theorem dX12_readPerson_22 : decode cX12_readPerson 22 = .ok (.ifCond .eq 4, 3) := sorry
theorem dX12_readPerson_25 : decode cX12_readPerson 25 = .ok (.return_, 1) := sorry
theorem dX12_readPerson_26 : decode cX12_readPerson 26 = .ok (.aload_n 0, 1) := sorry
theorem dX12_readPerson_27 : decode cX12_readPerson 27 = .ok (.invokevirtual 138, 3) := sorry
theorem dX12_readPerson_30 : decode cX12_readPerson 30 = .ok (.iconst 0, 1) := sorry
theorem dX12_readPerson_31 : decode cX12_readPerson 31 = .ok (.istore_n 2, 1) := sorry
theorem dX12_readPerson_32 : decode cX12_readPerson 32 = .ok (.iload_n 2, 1) := sorry
theorem dX12_readPerson_33 : decode cX12_readPerson 33 = .ok (.aload_n 0, 1) := sorry
theorem dX12_readPerson_34 : decode cX12_readPerson 34 = .ok (.getfield 24, 3) := sorry
theorem dX12_readPerson_37 : decode cX12_readPerson 37 = .ok (.iconst 1, 1) := sorry
theorem dX12_readPerson_38 : decode cX12_readPerson 38 = .ok (.iaload, 1) := sorry
theorem dX12_readPerson_39 : decode cX12_readPerson 39 = .ok (.if_icmp .ge 29, 3) := sorry
theorem dX12_readPerson_42 : decode cX12_readPerson 42 = .ok (.aload_n 0, 1) := sorry
theorem dX12_readPerson_43 : decode cX12_readPerson 43 = .ok (.getfield 24, 3) := sorry
theorem dX12_readPerson_46 : decode cX12_readPerson 46 = .ok (.bipush 54, 2) := sorry
theorem dX12_readPerson_48 : decode cX12_readPerson 48 = .ok (.iconst 3, 1) := sorry
theorem dX12_readPerson_49 : decode cX12_readPerson 49 = .ok (.iload_n 1, 1) := sorry
theorem dX12_readPerson_50 : decode cX12_readPerson 50 = .ok (.imul, 1) := sorry
theorem dX12_readPerson_51 : decode cX12_readPerson 51 = .ok (.iadd, 1) := sorry
theorem dX12_readPerson_52 : decode cX12_readPerson 52 = .ok (.iload_n 2, 1) := sorry
theorem dX12_readPerson_53 : decode cX12_readPerson 53 = .ok (.iadd, 1) := sorry
theorem dX12_readPerson_54 : decode cX12_readPerson 54 = .ok (.aload_n 0, 1) := sorry
theorem dX12_readPerson_55 : decode cX12_readPerson 55 = .ok (.iconst 0, 1) := sorry
theorem dX12_readPerson_56 : decode cX12_readPerson 56 = .ok (.bipush 9, 2) := sorry
theorem dX12_readPerson_58 : decode cX12_readPerson 58 = .ok (.invokevirtual 190, 3) := sorry
theorem dX12_readPerson_61 : decode cX12_readPerson 61 = .ok (.iastore, 1) := sorry
theorem dX12_readPerson_62 : decode cX12_readPerson 62 = .ok (.iinc 2 1, 3) := sorry
theorem dX12_readPerson_65 : decode cX12_readPerson 65 = .ok (.goto (-33), 3) := sorry
theorem dX12_readPerson_68 : decode cX12_readPerson 68 = .ok (.aload_n 0, 1) := sorry
theorem dX12_readPerson_69 : decode cX12_readPerson 69 = .ok (.getfield 24, 3) := sorry
theorem dX12_readPerson_72 : decode cX12_readPerson 72 = .ok (.bipush 12, 2) := sorry
theorem dX12_readPerson_74 : decode cX12_readPerson 74 = .ok (.iload_n 1, 1) := sorry
theorem dX12_readPerson_75 : decode cX12_readPerson 75 = .ok (.iadd, 1) := sorry
theorem dX12_readPerson_76 : decode cX12_readPerson 76 = .ok (.iconst 0, 1) := sorry
theorem dX12_readPerson_77 : decode cX12_readPerson 77 = .ok (.iastore, 1) := sorry
theorem dX12_readPerson_78 : decode cX12_readPerson 78 = .ok (.aload_n 0, 1) := sorry
theorem dX12_readPerson_79 : decode cX12_readPerson 79 = .ok (.getfield 24, 3) := sorry
theorem dX12_readPerson_82 : decode cX12_readPerson 82 = .ok (.bipush 22, 2) := sorry
theorem dX12_readPerson_84 : decode cX12_readPerson 84 = .ok (.iload_n 1, 1) := sorry
theorem dX12_readPerson_85 : decode cX12_readPerson 85 = .ok (.iadd, 1) := sorry
theorem dX12_readPerson_86 : decode cX12_readPerson 86 = .ok (.ldc 194, 2) := sorry
theorem dX12_readPerson_88 : decode cX12_readPerson 88 = .ok (.iastore, 1) := sorry
theorem dX12_readPerson_89 : decode cX12_readPerson 89 = .ok (.aload_n 0, 1) := sorry
theorem dX12_readPerson_90 : decode cX12_readPerson 90 = .ok (.getfield 24, 3) := sorry
theorem dX12_readPerson_93 : decode cX12_readPerson 93 = .ok (.bipush 32, 2) := sorry
theorem dX12_readPerson_95 : decode cX12_readPerson 95 = .ok (.iload_n 1, 1) := sorry
theorem dX12_readPerson_96 : decode cX12_readPerson 96 = .ok (.iadd, 1) := sorry
theorem dX12_readPerson_97 : decode cX12_readPerson 97 = .ok (.bipush 10, 2) := sorry
theorem dX12_readPerson_99 : decode cX12_readPerson 99 = .ok (.iastore, 1) := sorry
theorem dX12_readPerson_100 : decode cX12_readPerson 100 = .ok (.aload_n 0, 1) := sorry
theorem dX12_readPerson_101 : decode cX12_readPerson 101 = .ok (.getfield 24, 3) := sorry
theorem dX12_readPerson_104 : decode cX12_readPerson 104 = .ok (.bipush 42, 2) := sorry
theorem dX12_readPerson_106 : decode cX12_readPerson 106 = .ok (.iload_n 1, 1) := sorry
theorem dX12_readPerson_107 : decode cX12_readPerson 107 = .ok (.iadd, 1) := sorry
theorem dX12_readPerson_108 : decode cX12_readPerson 108 = .ok (.iconst 1, 1) := sorry
theorem dX12_readPerson_109 : decode cX12_readPerson 109 = .ok (.iastore, 1) := sorry
theorem dX12_readPerson_110 : decode cX12_readPerson 110 = .ok (.aload_n 0, 1) := sorry
theorem dX12_readPerson_111 : decode cX12_readPerson 111 = .ok (.getfield 129, 3) := sorry
theorem dX12_readPerson_114 : decode cX12_readPerson 114 = .ok (.ifCond .ne 14, 3) := sorry
theorem dX12_readPerson_117 : decode cX12_readPerson 117 = .ok (.aload_n 0, 1) := sorry
theorem dX12_readPerson_118 : decode cX12_readPerson 118 = .ok (.iload_n 1, 1) := sorry
theorem dX12_readPerson_119 : decode cX12_readPerson 119 = .ok (.invokevirtual 195, 3) := sorry
theorem dX12_readPerson_122 : decode cX12_readPerson 122 = .ok (.ifCond .eq 6, 3) := sorry
theorem dX12_readPerson_125 : decode cX12_readPerson 125 = .ok (.goto (-15), 3) := sorry
theorem dX12_readPerson_128 : decode cX12_readPerson 128 = .ok (.aload_n 0, 1) := sorry
theorem dX12_readPerson_129 : decode cX12_readPerson 129 = .ok (.getfield 129, 3) := sorry
theorem dX12_readPerson_132 : decode cX12_readPerson 132 = .ok (.ifCond .ne 13, 3) := sorry
theorem dX12_readPerson_135 : decode cX12_readPerson 135 = .ok (.aload_n 0, 1) := sorry
theorem dX12_readPerson_136 : decode cX12_readPerson 136 = .ok (.getfield 24, 3) := sorry
theorem dX12_readPerson_139 : decode cX12_readPerson 139 = .ok (.iconst 2, 1) := sorry
theorem dX12_readPerson_140 : decode cX12_readPerson 140 = .ok (.dup2, 1) := sorry
theorem dX12_readPerson_141 : decode cX12_readPerson 141 = .ok (.iaload, 1) := sorry
theorem dX12_readPerson_142 : decode cX12_readPerson 142 = .ok (.iconst 1, 1) := sorry
theorem dX12_readPerson_143 : decode cX12_readPerson 143 = .ok (.iadd, 1) := sorry
theorem dX12_readPerson_144 : decode cX12_readPerson 144 = .ok (.iastore, 1) := sorry
theorem dX12_readPerson_145 : decode cX12_readPerson 145 = .ok (.return_, 1) := sorry
set_option maxHeartbeats 4000000 in
set_option maxRecDepth 100000 in
theorem gX12_readLaw_a33b21e (l : Launch) (D : va_G) (cy : Nat → ClassId) (h0 : Nat) (h1 : Nat) (h2 : Nat) (p0 : Int32) (p1 : Int32) (w0 : Value) (w1 : Value) (p2 : Int32) (p3 : Int32) (p4 : Int32) (p5 : Int32) (p6 : Int32) (p7 : Int32) (p8 : Int32) (p9 : Int32) (p10 : Int32) (p11 : Int32) (p12 : Int32) (w2 : Value) (w3 : Value) (w4 : Value) (w5 : Value) (w6 : Value) (p13 : Int32) (p14 : Int32) (w7 : Value) (w8 : Value) (w9 : Value) (p15 : Int32) (p16 : Int32) (w10 : Value) (w11 : Value) (w12 : Value) (w13 : Value) (w14 : Value) (p17 : Int32) (w15 : Value) (w16 : Value) (w17 : Value) (f0 : Nat → Int32) (f1 : Nat → Int32) (p18 : Int32) (p19 : Int32) (p20 : Int32) (p21 : Int32) (hp0 : 0 ≤ (p0).toInt ∧ (p0).toInt ≤ 2) (hp1 : 0 ≤ (p1).toInt ∧ (p1).toInt ≤ 0) (hp2 : 0 ≤ (p2).toInt ∧ (p2).toInt ≤ 900) (hp3 : 0 ≤ (p3).toInt ∧ (p3).toInt ≤ 900) (hp4 : 0 ≤ (p4).toInt ∧ (p4).toInt ≤ 900) (hp5 : 0 ≤ (p5).toInt ∧ (p5).toInt ≤ 900) (hp6 : (-2147483648) ≤ (p6).toInt ∧ (p6).toInt ≤ 2147483647) (hp7 : 0 ≤ (p7).toInt ∧ (p7).toInt ≤ 999) (hp8 : (-2147483648) ≤ (p8).toInt ∧ (p8).toInt ≤ 2147483647) (hp9 : (-2147483648) ≤ (p9).toInt ∧ (p9).toInt ≤ 2147483647) (hp10 : (-2147483648) ≤ (p10).toInt ∧ (p10).toInt ≤ 2147483647) (hp11 : (-2147483648) ≤ (p11).toInt ∧ (p11).toInt ≤ 2147483647) (hp12 : (-2147483648) ≤ (p12).toInt ∧ (p12).toInt ≤ 2147483647) (hp13 : (-2147483648) ≤ (p13).toInt ∧ (p13).toInt ≤ 2147483647) (hp14 : (-2147483648) ≤ (p14).toInt ∧ (p14).toInt ≤ 2147483647) (hp15 : (-2147483648) ≤ (p15).toInt ∧ (p15).toInt ≤ 2147483647) (hp16 : (-2147483648) ≤ (p16).toInt ∧ (p16).toInt ≤ 2147483647) (hp17 : (-2147483648) ≤ (p17).toInt ∧ (p17).toInt ≤ 2147483647) (hp18 : 0 ≤ (p18).toInt ∧ (p18).toInt ≤ 901) (hp19 : (-2147483648) ≤ (p19).toInt ∧ (p19).toInt ≤ 2147483647) (hp20 : 0 ≤ (p20).toInt ∧ (p20).toInt ≤ 10) (hp21 : 0 ≤ (p21).toInt ∧ (p21).toInt ≤ 900) (htf1_0 : f1 0 = p18) (htf1_1 : f1 1 = p19) (htf1_2 : f1 2 = p20) (htf1_405 : f1 405 = p21) (hpre0 : 0 ≤ (p3 : Int32).toInt ∧ (p3 : Int32).toInt ≤ (p4 : Int32).toInt ∧ (p4 : Int32).toInt ≤ (p5 : Int32).toInt) (hpre1 : (p6 : Int32).toInt = 26 ∨ (p3 : Int32).toInt < (p4 : Int32).toInt) (hpre2 : (p8 : Int32).toInt ≠ 0 ∨ (p21 : Int32).toInt ≤ (p3 : Int32).toInt) (hpre3 : HF (p8 : Int32).toInt f1 ((p21 : Int32).toInt).toNat) (hpre4 : (p6 : Int32).toInt ≠ 26) (hpre5 : (p6 : Int32).toInt = 7 + (p0 : Int32).toInt ∧ (p8 : Int32).toInt = 0 ∧ 0 ≤ (p0 : Int32).toInt ∧ (p0 : Int32).toInt ≤ 2) (sz : Nat) : MV l yX12_readLaw cX12_readLaw 3 { frames := 31, cells := 0, slots := 0, locals := 758 } [.ref h0, .int p0] D cy (wk_8d528f753 cy h0 p1 w0 w1 h1 h2 p2 p3 p4 p5 p6 p7 p8 p9 p10 p11 p12 w2 w3 w4 w5 w6 p13 p14 w7 w8 w9 p15 p16 w10 w11 w12 w13 w14 p17 w15 w16 w17 h1 f0 h2 f1) sz (fun u => (0 ≤ (u.2.1 0 0).toInt ∧ (u.2.1 0 0).toInt ≤ 900) ∧ (0 ≤ (u.2.1 1 0).toInt ∧ (u.2.1 1 0).toInt ≤ 900) ∧ ((-2147483648) ≤ (u.2.1 2 0).toInt ∧ (u.2.1 2 0).toInt ≤ 2147483647) ∧ (0 ≤ (u.2.1 3 0).toInt ∧ (u.2.1 3 0).toInt ≤ 999) ∧ ((-2147483648) ≤ (u.2.1 4 0).toInt ∧ (u.2.1 4 0).toInt ≤ 2147483647) ∧ ((-2147483648) ≤ (u.2.1 5 0).toInt ∧ (u.2.1 5 0).toInt ≤ 2147483647) ∧ (0 ≤ (u.2.1 6 0).toInt ∧ (u.2.1 6 0).toInt ≤ 2) ∧ (0 ≤ (u.2.1 8 0).toInt ∧ (u.2.1 8 0).toInt ≤ 900) ∧ (u.2.1 7) 0 = p18 ∧ (u.2.1 7) 1 = p19 ∧ (u.2.1 7) 2 = p20 ∧ (u.2.1 7) 405 = (u.2.1 8 0) ∧ (0 ≤ ((u.2.1 0 0) : Int32).toInt ∧ ((u.2.1 0 0) : Int32).toInt ≤ ((u.2.1 1 0) : Int32).toInt ∧ ((u.2.1 1 0) : Int32).toInt ≤ (p5 : Int32).toInt) ∧ (((u.2.1 2 0) : Int32).toInt = 26 ∨ ((u.2.1 0 0) : Int32).toInt < ((u.2.1 1 0) : Int32).toInt) ∧ ((p3 : Int32).toInt ≤ ((u.2.1 0 0) : Int32).toInt) ∧ (((u.2.1 4 0) : Int32).toInt ≠ 0 ∨ (p8 : Int32).toInt = 0) ∧ (((u.2.1 4 0) : Int32).toInt ≠ 0 ∨ ((u.2.1 8 0) : Int32).toInt ≤ ((u.2.1 0 0) : Int32).toInt) ∧ (HF ((u.2.1 4 0) : Int32).toInt (u.2.1 7) (((u.2.1 8 0) : Int32).toInt).toNat) ∧ (SIMR f0 (p5 : Int32).toInt (lawS (nmR (p0 : Int32).toInt)) (p3 : Int32).toInt (p4 : Int32).toInt (p6 : Int32).toInt (p7 : Int32).toInt (p8 : Int32).toInt (p9 : Int32).toInt ((u.2.1 0 0) : Int32).toInt ((u.2.1 1 0) : Int32).toInt ((u.2.1 2 0) : Int32).toInt ((u.2.1 3 0) : Int32).toInt ((u.2.1 4 0) : Int32).toInt ((u.2.1 5 0) : Int32).toInt) ∧ True) (fun u => (wk_8d528f753 cy h0 p1 w0 w1 h1 h2 p2 (u.2.1 0 0) (u.2.1 1 0) p5 (u.2.1 2 0) (u.2.1 3 0) (u.2.1 4 0) (u.2.1 5 0) p10 p11 (u.2.1 6 0) w2 w3 w4 w5 w6 p13 p14 w7 w8 w9 p15 p16 w10 w11 w12 w13 w14 p17 w15 w16 w17 h1 f0 h2 (u.2.1 7))) 0 0 := sorry
set_option maxHeartbeats 4000000 in
set_option maxRecDepth 100000 in
theorem gX12_readFlag_8ad17ec (l : Launch) (D : va_G) (cy : Nat → ClassId) (h0 : Nat) (h1 : Nat) (h2 : Nat) (p0 : Int32) (p1 : Int32) (w0 : Value) (w1 : Value) (p2 : Int32) (p3 : Int32) (p4 : Int32) (p5 : Int32) (p6 : Int32) (p7 : Int32) (p8 : Int32) (p9 : Int32) (p10 : Int32) (p11 : Int32) (p12 : Int32) (w2 : Value) (w3 : Value) (w4 : Value) (w5 : Value) (w6 : Value) (p13 : Int32) (p14 : Int32) (w7 : Value) (w8 : Value) (w9 : Value) (p15 : Int32) (p16 : Int32) (w10 : Value) (w11 : Value) (w12 : Value) (w13 : Value) (w14 : Value) (p17 : Int32) (w15 : Value) (w16 : Value) (w17 : Value) (f0 : Nat → Int32) (f1 : Nat → Int32) (p18 : Int32) (p19 : Int32) (p20 : Int32) (hp0 : 0 ≤ (p0).toInt ∧ (p0).toInt ≤ 10) (hp1 : 0 ≤ (p1).toInt ∧ (p1).toInt ≤ 0) (hp2 : 0 ≤ (p2).toInt ∧ (p2).toInt ≤ 900) (hp3 : 0 ≤ (p3).toInt ∧ (p3).toInt ≤ 900) (hp4 : 0 ≤ (p4).toInt ∧ (p4).toInt ≤ 900) (hp5 : 0 ≤ (p5).toInt ∧ (p5).toInt ≤ 900) (hp6 : (-2147483648) ≤ (p6).toInt ∧ (p6).toInt ≤ 2147483647) (hp7 : 0 ≤ (p7).toInt ∧ (p7).toInt ≤ 999) (hp8 : (-2147483648) ≤ (p8).toInt ∧ (p8).toInt ≤ 2147483647) (hp9 : (-2147483648) ≤ (p9).toInt ∧ (p9).toInt ≤ 2147483647) (hp10 : (-2147483648) ≤ (p10).toInt ∧ (p10).toInt ≤ 2147483647) (hp11 : (-2147483648) ≤ (p11).toInt ∧ (p11).toInt ≤ 2147483647) (hp12 : (-2147483648) ≤ (p12).toInt ∧ (p12).toInt ≤ 2147483647) (hp13 : (-2147483648) ≤ (p13).toInt ∧ (p13).toInt ≤ 2147483647) (hp14 : (-2147483648) ≤ (p14).toInt ∧ (p14).toInt ≤ 2147483647) (hp15 : (-2147483648) ≤ (p15).toInt ∧ (p15).toInt ≤ 2147483647) (hp16 : (-2147483648) ≤ (p16).toInt ∧ (p16).toInt ≤ 2147483647) (hp17 : (-2147483648) ≤ (p17).toInt ∧ (p17).toInt ≤ 2147483647) (hp18 : 0 ≤ (p18).toInt ∧ (p18).toInt ≤ 901) (hp19 : (-2147483648) ≤ (p19).toInt ∧ (p19).toInt ≤ 2147483647) (hp20 : 0 ≤ (p20).toInt ∧ (p20).toInt ≤ 900) (htf1_0 : f1 0 = p18) (htf1_1 : f1 1 = p19) (htf1_2 : f1 2 = p0) (htf1_405 : f1 405 = p20) (hpre0 : 0 ≤ (p3 : Int32).toInt ∧ (p3 : Int32).toInt ≤ (p4 : Int32).toInt ∧ (p4 : Int32).toInt ≤ (p5 : Int32).toInt) (hpre1 : (p6 : Int32).toInt = 26 ∨ (p3 : Int32).toInt < (p4 : Int32).toInt) (hpre2 : HF (p8 : Int32).toInt f1 ((p20 : Int32).toInt).toNat) (sz : Nat) : MI l yX12_readFlag cX12_readFlag 4 .boolean { frames := 7, cells := 0, slots := 0, locals := 152 } [.ref h0, .int p0] D cy (wk_8d528f753 cy h0 p1 w0 w1 h1 h2 p2 p3 p4 p5 p6 p7 p8 p9 p10 p11 p12 w2 w3 w4 w5 w6 p13 p14 w7 w8 w9 p15 p16 w10 w11 w12 w13 w14 p17 w15 w16 w17 h1 f0 h2 f1) sz (fun r u => (0 ≤ r.toInt ∧ r.toInt ≤ 1) ∧ (0 ≤ (u.2.1 0 0).toInt ∧ (u.2.1 0 0).toInt ≤ 900) ∧ (0 ≤ (u.2.1 1 0).toInt ∧ (u.2.1 1 0).toInt ≤ 900) ∧ ((-2147483648) ≤ (u.2.1 2 0).toInt ∧ (u.2.1 2 0).toInt ≤ 2147483647) ∧ (0 ≤ (u.2.1 3 0).toInt ∧ (u.2.1 3 0).toInt ≤ 999) ∧ ((-2147483648) ≤ (u.2.1 5 0).toInt ∧ (u.2.1 5 0).toInt ≤ 2147483647) ∧ ((-2147483648) ≤ (u.2.1 6 0).toInt ∧ (u.2.1 6 0).toInt ≤ 2147483647) ∧ (u.2.1 4) 0 = p18 ∧ (u.2.1 4) 1 = p19 ∧ (u.2.1 4) 2 = p0 ∧ (u.2.1 4) 405 = p20 ∧ (0 ≤ ((u.2.1 0 0) : Int32).toInt ∧ ((u.2.1 0 0) : Int32).toInt ≤ ((u.2.1 1 0) : Int32).toInt ∧ ((u.2.1 1 0) : Int32).toInt ≤ (p5 : Int32).toInt) ∧ (((u.2.1 2 0) : Int32).toInt = 26 ∨ ((u.2.1 0 0) : Int32).toInt < ((u.2.1 1 0) : Int32).toInt) ∧ ((p3 : Int32).toInt ≤ ((u.2.1 0 0) : Int32).toInt) ∧ (((u.2.1 5 0) : Int32).toInt ≠ 0 ∨ (p8 : Int32).toInt = 0) ∧ (HF ((u.2.1 5 0) : Int32).toInt (u.2.1 4) ((p20 : Int32).toInt).toNat) ∧ ((r : Int32).toInt = 0 ∨ (p3 : Int32).toInt + 1 ≤ ((u.2.1 0 0) : Int32).toInt) ∧ (FLGR f0 (p5 : Int32).toInt (r : Int32).toInt (p3 : Int32).toInt (p4 : Int32).toInt (p6 : Int32).toInt (p7 : Int32).toInt (p8 : Int32).toInt (p9 : Int32).toInt ((u.2.1 0 0) : Int32).toInt ((u.2.1 1 0) : Int32).toInt ((u.2.1 2 0) : Int32).toInt ((u.2.1 3 0) : Int32).toInt ((u.2.1 5 0) : Int32).toInt ((u.2.1 6 0) : Int32).toInt) ∧ True) (fun u => (wk_8d528f753 cy h0 p1 w0 w1 h1 h2 p2 (u.2.1 0 0) (u.2.1 1 0) p5 (u.2.1 2 0) (u.2.1 3 0) (u.2.1 5 0) (u.2.1 6 0) p10 p11 p12 w2 w3 w4 w5 w6 p13 p14 w7 w8 w9 p15 p16 w10 w11 w12 w13 w14 p17 w15 w16 w17 h1 f0 h2 (u.2.1 4))) 0 0 := sorry
set_option maxHeartbeats 4000000 in
set_option maxRecDepth 100000 in
theorem gX12_readPerson_f8da6b9 (l : Launch) (D : va_G) (cy : Nat → ClassId) (h0 : Nat) (h1 : Nat) (h2 : Nat) (p0 : Int32) (w0 : Value) (w1 : Value) (p1 : Int32) (p2 : Int32) (p3 : Int32) (p4 : Int32) (p5 : Int32) (p6 : Int32) (p7 : Int32) (p8 : Int32) (p9 : Int32) (p10 : Int32) (p11 : Int32) (w2 : Value) (w3 : Value) (w4 : Value) (w5 : Value) (w6 : Value) (p12 : Int32) (p13 : Int32) (w7 : Value) (w8 : Value) (w9 : Value) (p14 : Int32) (p15 : Int32) (w10 : Value) (w11 : Value) (w12 : Value) (w13 : Value) (w14 : Value) (p16 : Int32) (w15 : Value) (w16 : Value) (w17 : Value) (f0 : Nat → Int32) (f1 : Nat → Int32) (p17 : Int32) (p18 : Int32) (p19 : Int32) (p20 : Int32) (hp0 : 0 ≤ (p0).toInt ∧ (p0).toInt ≤ 0) (hp1 : 0 ≤ (p1).toInt ∧ (p1).toInt ≤ 900) (hp2 : 0 ≤ (p2).toInt ∧ (p2).toInt ≤ 900) (hp3 : 0 ≤ (p3).toInt ∧ (p3).toInt ≤ 900) (hp4 : 0 ≤ (p4).toInt ∧ (p4).toInt ≤ 900) (hp5 : (-2147483648) ≤ (p5).toInt ∧ (p5).toInt ≤ 2147483647) (hp6 : 0 ≤ (p6).toInt ∧ (p6).toInt ≤ 999) (hp7 : (-2147483648) ≤ (p7).toInt ∧ (p7).toInt ≤ 2147483647) (hp8 : (-2147483648) ≤ (p8).toInt ∧ (p8).toInt ≤ 2147483647) (hp9 : (-2147483648) ≤ (p9).toInt ∧ (p9).toInt ≤ 2147483647) (hp10 : (-2147483648) ≤ (p10).toInt ∧ (p10).toInt ≤ 2147483647) (hp11 : (-2147483648) ≤ (p11).toInt ∧ (p11).toInt ≤ 2147483647) (hp12 : (-2147483648) ≤ (p12).toInt ∧ (p12).toInt ≤ 2147483647) (hp13 : (-2147483648) ≤ (p13).toInt ∧ (p13).toInt ≤ 2147483647) (hp14 : (-2147483648) ≤ (p14).toInt ∧ (p14).toInt ≤ 2147483647) (hp15 : (-2147483648) ≤ (p15).toInt ∧ (p15).toInt ≤ 2147483647) (hp16 : (-2147483648) ≤ (p16).toInt ∧ (p16).toInt ≤ 2147483647) (hp17 : 0 ≤ (p17).toInt ∧ (p17).toInt ≤ 901) (hp18 : (-2147483648) ≤ (p18).toInt ∧ (p18).toInt ≤ 2147483647) (hp19 : 0 ≤ (p19).toInt ∧ (p19).toInt ≤ 10) (hp20 : 0 ≤ (p20).toInt ∧ (p20).toInt ≤ 900) (htf1_0 : f1 0 = p17) (htf1_1 : f1 1 = p18) (htf1_2 : f1 2 = p19) (htf1_405 : f1 405 = p20) (hpre0 : 0 ≤ (p2 : Int32).toInt ∧ (p2 : Int32).toInt ≤ (p3 : Int32).toInt ∧ (p3 : Int32).toInt ≤ (p4 : Int32).toInt) (hpre1 : (p5 : Int32).toInt = 26 ∨ (p2 : Int32).toInt < (p3 : Int32).toInt) (hpre2 : HF (p7 : Int32).toInt f1 ((p20 : Int32).toInt).toNat) (hpre3 : (p5 : Int32).toInt = 2) (hpre4 : 0 ≤ (p18 : Int32).toInt ∧ (p18 : Int32).toInt ≤ 3) (hpre5 : (p7 : Int32).toInt = 0) (sz : Nat) : MV l yX12_readPerson cX12_readPerson 3 { frames := 8, cells := 0, slots := 0, locals := 175 } [.ref h0] D cy (wk_8d528f753 cy h0 p0 w0 w1 h1 h2 p1 p2 p3 p4 p5 p6 p7 p8 p9 p10 p11 w2 w3 w4 w5 w6 p12 p13 w7 w8 w9 p14 p15 w10 w11 w12 w13 w14 p16 w15 w16 w17 h1 f0 h2 f1) sz (fun u => (0 ≤ (u.2.1 1 0).toInt ∧ (u.2.1 1 0).toInt ≤ 900) ∧ (0 ≤ (u.2.1 2 0).toInt ∧ (u.2.1 2 0).toInt ≤ 900) ∧ ((-2147483648) ≤ (u.2.1 3 0).toInt ∧ (u.2.1 3 0).toInt ≤ 2147483647) ∧ (0 ≤ (u.2.1 4 0).toInt ∧ (u.2.1 4 0).toInt ≤ 999) ∧ ((-2147483648) ≤ (u.2.1 5 0).toInt ∧ (u.2.1 5 0).toInt ≤ 2147483647) ∧ ((-2147483648) ≤ (u.2.1 6 0).toInt ∧ (u.2.1 6 0).toInt ≤ 2147483647) ∧ (0 ≤ (u.2.1 7 0).toInt ∧ (u.2.1 7 0).toInt ≤ 10) ∧ (u.2.1 0) 0 = p17 ∧ (u.2.1 0) 1 = p18 ∧ (u.2.1 0) 2 = (u.2.1 7 0) ∧ (u.2.1 0) 405 = p20 ∧ (0 ≤ ((u.2.1 1 0) : Int32).toInt ∧ ((u.2.1 1 0) : Int32).toInt ≤ ((u.2.1 2 0) : Int32).toInt ∧ ((u.2.1 2 0) : Int32).toInt ≤ (p4 : Int32).toInt) ∧ (((u.2.1 3 0) : Int32).toInt = 26 ∨ ((u.2.1 1 0) : Int32).toInt < ((u.2.1 2 0) : Int32).toInt) ∧ ((p2 : Int32).toInt ≤ ((u.2.1 1 0) : Int32).toInt) ∧ (((u.2.1 5 0) : Int32).toInt ≠ 0 ∨ (p7 : Int32).toInt = 0) ∧ (HF ((u.2.1 5 0) : Int32).toInt (u.2.1 0) ((p20 : Int32).toInt).toNat) ∧ (SIMR f0 (p4 : Int32).toInt (persS (p18 : Int32).toInt (p19 : Int32).toInt) (p2 : Int32).toInt (p3 : Int32).toInt (p5 : Int32).toInt (p6 : Int32).toInt (p7 : Int32).toInt (p8 : Int32).toInt ((u.2.1 1 0) : Int32).toInt ((u.2.1 2 0) : Int32).toInt ((u.2.1 3 0) : Int32).toInt ((u.2.1 4 0) : Int32).toInt ((u.2.1 5 0) : Int32).toInt ((u.2.1 6 0) : Int32).toInt) ∧ (((u.2.1 5 0) : Int32).toInt ≠ 0 ∨ ((u.2.1 7 0) : Int32).toInt = (p19 : Int32).toInt + 1) ∧ True) (fun u => (wk_8d528f753 cy h0 p0 w0 w1 h1 h2 p1 (u.2.1 1 0) (u.2.1 2 0) p4 (u.2.1 3 0) (u.2.1 4 0) (u.2.1 5 0) (u.2.1 6 0) p9 p10 p11 w2 w3 w4 w5 w6 p12 p13 w7 w8 w9 p14 p15 w10 w11 w12 w13 w14 p16 w15 w16 w17 h1 f0 h2 (u.2.1 0))) 0 0 := sorry