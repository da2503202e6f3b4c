theorem dX9_init_0 : decode cX9_init 0 = .ok (.aload_n 0, 1) := by decide +kernel
theorem dX9_init_1 : decode cX9_init 1 = .ok (.invokespecial 1, 3) := by decide +kernel
theorem dX9_init_4 : decode cX9_init 4 = .ok (.aload_n 0, 1) := by decide +kernel
theorem dX9_init_5 : decode cX9_init 5 = .ok (.new 7, 3) := by decide +kernel
theorem dX9_init_8 : decode cX9_init 8 = .ok (.dup, 1) := by decide +kernel
theorem dX9_init_9 : decode cX9_init 9 = .ok (.invokespecial 9, 3) := by decide +kernel
theorem dX9_init_12 : decode cX9_init 12 = .ok (.putfield 10, 3) := by decide +kernel
theorem dX9_init_15 : decode cX9_init 15 = .ok (.aload_n 0, 1) := by decide +kernel
theorem dX9_init_16 : decode cX9_init 16 = .ok (.new 7, 3) := by decide +kernel
theorem dX9_init_19 : decode cX9_init 19 = .ok (.dup, 1) := by decide +kernel
theorem dX9_init_20 : decode cX9_init 20 = .ok (.invokespecial 9, 3) := by decide +kernel
theorem dX9_init_23 : decode cX9_init 23 = .ok (.putfield 16, 3) := by decide +kernel
theorem dX9_init_26 : decode cX9_init 26 = .ok (.aload_n 0, 1) := by decide +kernel
theorem dX9_init_27 : decode cX9_init 27 = .ok (.new 7, 3) := by decide +kernel
theorem dX9_init_30 : decode cX9_init 30 = .ok (.dup, 1) := by decide +kernel
theorem dX9_init_31 : decode cX9_init 31 = .ok (.invokespecial 9, 3) := by decide +kernel
theorem dX9_init_34 : decode cX9_init 34 = .ok (.putfield 19, 3) := by decide +kernel
theorem dX9_init_37 : decode cX9_init 37 = .ok (.aload_n 0, 1) := by decide +kernel
theorem dX9_init_38 : decode cX9_init 38 = .ok (.new 22, 3) := by decide +kernel
theorem dX9_init_41 : decode cX9_init 41 = .ok (.dup, 1) := by decide +kernel
theorem dX9_init_42 : decode cX9_init 42 = .ok (.invokespecial 24, 3) := by decide +kernel
theorem dX9_init_45 : decode cX9_init 45 = .ok (.putfield 25, 3) := by decide +kernel
theorem dX9_init_48 : decode cX9_init 48 = .ok (.aload_n 0, 1) := by decide +kernel
theorem dX9_init_49 : decode cX9_init 49 = .ok (.new 29, 3) := by decide +kernel
theorem dX9_init_52 : decode cX9_init 52 = .ok (.dup, 1) := by decide +kernel
theorem dX9_init_53 : decode cX9_init 53 = .ok (.invokespecial 31, 3) := by decide +kernel
theorem dX9_init_56 : decode cX9_init 56 = .ok (.putfield 32, 3) := by decide +kernel
theorem dX9_init_59 : decode cX9_init 59 = .ok (.aload_n 0, 1) := by decide +kernel
theorem dX9_init_60 : decode cX9_init 60 = .ok (.bipush 96, 2) := by decide +kernel
theorem dX9_init_62 : decode cX9_init 62 = .ok (.newarray .byte, 2) := by decide +kernel
theorem dX9_init_64 : decode cX9_init 64 = .ok (.putfield 36, 3) := by decide +kernel
theorem dX9_init_67 : decode cX9_init 67 = .ok (.aload_n 0, 1) := by decide +kernel
theorem dX9_init_68 : decode cX9_init 68 = .ok (.iconst 4, 1) := by decide +kernel
theorem dX9_init_69 : decode cX9_init 69 = .ok (.anewarray 40, 3) := by decide +kernel
theorem dX9_init_72 : decode cX9_init 72 = .ok (.putfield 42, 3) := by decide +kernel
theorem dX9_init_75 : decode cX9_init 75 = .ok (.aload_n 0, 1) := by decide +kernel
theorem dX9_init_76 : decode cX9_init 76 = .ok (.iconst 5, 1) := by decide +kernel
theorem dX9_init_77 : decode cX9_init 77 = .ok (.anewarray 46, 3) := by decide +kernel
theorem dX9_init_80 : decode cX9_init 80 = .ok (.putfield 48, 3) := by decide +kernel
theorem dX9_init_83 : decode cX9_init 83 = .ok (.aload_n 0, 1) := by decide +kernel
theorem dX9_init_84 : decode cX9_init 84 = .ok (.bipush 60, 2) := by decide +kernel
theorem dX9_init_86 : decode cX9_init 86 = .ok (.newarray .int, 2) := by decide +kernel
theorem dX9_init_88 : decode cX9_init 88 = .ok (.putfield 52, 3) := by decide +kernel
theorem dX9_init_91 : decode cX9_init 91 = .ok (.aload_n 0, 1) := by decide +kernel
theorem dX9_init_92 : decode cX9_init 92 = .ok (.bipush 8, 2) := by decide +kernel
theorem dX9_init_94 : decode cX9_init 94 = .ok (.newarray .int, 2) := by decide +kernel
theorem dX9_init_96 : decode cX9_init 96 = .ok (.putfield 56, 3) := by decide +kernel
theorem dX9_init_99 : decode cX9_init 99 = .ok (.iconst 0, 1) := by decide +kernel
theorem dX9_init_100 : decode cX9_init 100 = .ok (.istore_n 1, 1) := by decide +kernel
theorem dX9_init_101 : decode cX9_init 101 = .ok (.iload_n 1, 1) := by decide +kernel
theorem dX9_init_102 : decode cX9_init 102 = .ok (.iconst 4, 1) := by decide +kernel
theorem dX9_init_103 : decode cX9_init 103 = .ok (.if_icmp .ge 22, 3) := by decide +kernel
theorem dX9_init_106 : decode cX9_init 106 = .ok (.aload_n 0, 1) := by decide +kernel
theorem dX9_init_107 : decode cX9_init 107 = .ok (.getfield 42, 3) := by decide +kernel
theorem dX9_init_110 : decode cX9_init 110 = .ok (.iload_n 1, 1) := by decide +kernel
theorem dX9_init_111 : decode cX9_init 111 = .ok (.new 40, 3) := by decide +kernel
theorem dX9_init_114 : decode cX9_init 114 = .ok (.dup, 1) := by decide +kernel
theorem dX9_init_115 : decode cX9_init 115 = .ok (.invokespecial 59, 3) := by decide +kernel
theorem dX9_init_118 : decode cX9_init 118 = .ok (.aastore, 1) := by decide +kernel
theorem dX9_init_119 : decode cX9_init 119 = .ok (.iinc 1 1, 3) := by decide +kernel
theorem dX9_init_122 : decode cX9_init 122 = .ok (.goto (-21), 3) := by decide +kernel
theorem dX9_init_125 : decode cX9_init 125 = .ok (.iconst 0, 1) := by decide +kernel
theorem dX9_init_126 : decode cX9_init 126 = .ok (.istore_n 1, 1) := by decide +kernel
theorem dX9_init_127 : decode cX9_init 127 = .ok (.iload_n 1, 1) := by decide +kernel
theorem dX9_init_128 : decode cX9_init 128 = .ok (.iconst 5, 1) := by decide +kernel
theorem dX9_init_129 : decode cX9_init 129 = .ok (.if_icmp .ge 22, 3) := by decide +kernel
theorem dX9_init_132 : decode cX9_init 132 = .ok (.aload_n 0, 1) := by decide +kernel
theorem dX9_init_133 : decode cX9_init 133 = .ok (.getfield 48, 3) := by decide +kernel
theorem dX9_init_136 : decode cX9_init 136 = .ok (.iload_n 1, 1) := by decide +kernel
theorem dX9_init_137 : decode cX9_init 137 = .ok (.new 46, 3) := by decide +kernel
theorem dX9_init_140 : decode cX9_init 140 = .ok (.dup, 1) := by decide +kernel
theorem dX9_init_141 : decode cX9_init 141 = .ok (.invokespecial 60, 3) := by decide +kernel
theorem dX9_init_144 : decode cX9_init 144 = .ok (.aastore, 1) := by decide +kernel
theorem dX9_init_145 : decode cX9_init 145 = .ok (.iinc 1 1, 3) := by decide +kernel
theorem dX9_init_148 : decode cX9_init 148 = .ok (.goto (-21), 3) := by decide +kernel
theorem dX9_init_151 : decode cX9_init 151 = .ok (.return_, 1) := by decide +kernel
theorem dX9_one_0 : decode cX9_one 0 = .ok (.iload_n 1, 1) := by decide +kernel
theorem dX9_one_1 : decode cX9_one 1 = .ok (.invokestatic 61, 3) := by decide +kernel
theorem dX9_one_4 : decode cX9_one 4 = .ok (.ifCond .eq 33, 3) := by decide +kernel
theorem dX9_one_7 : decode cX9_one 7 = .ok (.iload_n 2, 1) := by decide +kernel
theorem dX9_one_8 : decode cX9_one 8 = .ok (.invokestatic 65, 3) := by decide +kernel
theorem dX9_one_11 : decode cX9_one 11 = .ok (.ifCond .eq 26, 3) := by decide +kernel
theorem dX9_one_14 : decode cX9_one 14 = .ok (.iload_n 3, 1) := by decide +kernel
theorem dX9_one_15 : decode cX9_one 15 = .ok (.invokestatic 68, 3) := by decide +kernel
theorem dX9_one_18 : decode cX9_one 18 = .ok (.ifCond .eq 19, 3) := by decide +kernel
theorem dX9_one_21 : decode cX9_one 21 = .ok (.iload 4, 2) := by decide +kernel
theorem dX9_one_23 : decode cX9_one 23 = .ok (.invokestatic 68, 3) := by decide +kernel
theorem dX9_one_26 : decode cX9_one 26 = .ok (.ifCond .eq 11, 3) := by decide +kernel
theorem dX9_one_29 : decode cX9_one 29 = .ok (.iload 5, 2) := by decide +kernel
theorem dX9_one_31 : decode cX9_one 31 = .ok (.invokestatic 68, 3) := by decide +kernel
theorem dX9_one_34 : decode cX9_one 34 = .ok (.ifCond .ne 6, 3) := by decide +kernel
theorem dX9_one_37 : decode cX9_one 37 = .ok (.ldc 71, 2) := by decide +kernel
theorem dX9_one_39 : decode cX9_one 39 = .ok (.ireturn, 1) := by decide +kernel
theorem dX9_one_40 : decode cX9_one 40 = .ok (.aload_n 0, 1) := by decide +kernel
theorem dX9_one_41 : decode cX9_one 41 = .ok (.getfield 10, 3) := by decide +kernel
theorem dX9_one_44 : decode cX9_one 44 = .ok (.getfield 72, 3) := by decide +kernel
theorem dX9_one_47 : decode cX9_one 47 = .ok (.bipush 8, 2) := by decide +kernel
theorem dX9_one_49 : decode cX9_one 49 = .ok (.if_icmp .lt 6, 3) := by decide +kernel
theorem dX9_one_52 : decode cX9_one 52 = .ok (.ldc 76, 2) := by decide +kernel
theorem dX9_one_54 : decode cX9_one 54 = .ok (.ireturn, 1) := by decide +kernel
theorem dX9_one_55 : decode cX9_one 55 = .ok (.aload_n 0, 1) := by decide +kernel
theorem dX9_one_56 : decode cX9_one 56 = .ok (.getfield 10, 3) := by decide +kernel
theorem dX9_one_59 : decode cX9_one 59 = .ok (.getfield 77, 3) := by decide +kernel
theorem dX9_one_62 : decode cX9_one 62 = .ok (.aload_n 0, 1) := by decide +kernel
theorem dX9_one_63 : decode cX9_one 63 = .ok (.getfield 10, 3) := by decide +kernel
theorem dX9_one_66 : decode cX9_one 66 = .ok (.getfield 72, 3) := by decide +kernel
theorem dX9_one_69 : decode cX9_one 69 = .ok (.aaload, 1) := by decide +kernel
theorem dX9_one_70 : decode cX9_one 70 = .ok (.iload_n 1, 1) := by decide +kernel
theorem dX9_one_71 : decode cX9_one 71 = .ok (.iload_n 2, 1) := by decide +kernel
theorem dX9_one_72 : decode cX9_one 72 = .ok (.iload_n 3, 1) := by decide +kernel
theorem dX9_one_73 : decode cX9_one 73 = .ok (.iload 4, 2) := by decide +kernel
theorem dX9_one_75 : decode cX9_one 75 = .ok (.iload 5, 2) := by decide +kernel
theorem dX9_one_77 : decode cX9_one 77 = .ok (.invokevirtual 81, 3) := by decide +kernel
theorem dX9_one_80 : decode cX9_one 80 = .ok (.aload_n 0, 1) := by decide +kernel
theorem dX9_one_81 : decode cX9_one 81 = .ok (.getfield 10, 3) := by decide +kernel
theorem dX9_one_84 : decode cX9_one 84 = .ok (.dup, 1) := by decide +kernel
theorem dX9_one_85 : decode cX9_one 85 = .ok (.getfield 72, 3) := by decide +kernel
theorem dX9_one_88 : decode cX9_one 88 = .ok (.dup_x1, 1) := by decide +kernel
theorem dX9_one_89 : decode cX9_one 89 = .ok (.iconst 1, 1) := by decide +kernel
theorem dX9_one_90 : decode cX9_one 90 = .ok (.iadd, 1) := by decide +kernel
theorem dX9_one_91 : decode cX9_one 91 = .ok (.putfield 72, 3) := by decide +kernel
theorem dX9_one_94 : decode cX9_one 94 = .ok (.ireturn, 1) := by decide +kernel
theorem dX9_told_0 : decode cX9_told 0 = .ok (.aload_n 0, 1) := by decide +kernel
theorem dX9_told_1 : decode cX9_told 1 = .ok (.iload_n 1, 1) := by decide +kernel
theorem dX9_told_2 : decode cX9_told 2 = .ok (.invokevirtual 87, 3) := by decide +kernel
theorem dX9_told_5 : decode cX9_told 5 = .ok (.ifCond .ne 6, 3) := by decide +kernel
theorem dX9_told_8 : decode cX9_told 8 = .ok (.ldc 71, 2) := by decide +kernel
theorem dX9_told_10 : decode cX9_told 10 = .ok (.ireturn, 1) := by decide +kernel
theorem dX9_told_11 : decode cX9_told 11 = .ok (.aload_n 0, 1) := by decide +kernel
theorem dX9_told_12 : decode cX9_told 12 = .ok (.getfield 10, 3) := by decide +kernel
theorem dX9_told_15 : decode cX9_told 15 = .ok (.getfield 77, 3) := by decide +kernel
theorem dX9_told_18 : decode cX9_told 18 = .ok (.iload_n 1, 1) := by decide +kernel
theorem dX9_told_19 : decode cX9_told 19 = .ok (.aaload, 1) := by decide +kernel
theorem dX9_told_20 : decode cX9_told 20 = .ok (.astore_n 3, 1) := by decide +kernel
theorem dX9_told_21 : decode cX9_told 21 = .ok (.iload_n 2, 1) := by decide +kernel
theorem dX9_told_22 : decode cX9_told 22 = .ok (.tableswitch 82 0 8 #[50, 55, 60, 60, 60, 69, 69, 69, 77], 50) := by decide +kernel
theorem dX9_told_72 : decode cX9_told 72 = .ok (.aload_n 3, 1) := by decide +kernel
theorem dX9_told_73 : decode cX9_told 73 = .ok (.getfield 90, 3) := by decide +kernel
theorem dX9_told_76 : decode cX9_told 76 = .ok (.ireturn, 1) := by decide +kernel
theorem dX9_told_77 : decode cX9_told 77 = .ok (.aload_n 3, 1) := by decide +kernel
theorem dX9_told_78 : decode cX9_told 78 = .ok (.getfield 93, 3) := by decide +kernel
theorem dX9_told_81 : decode cX9_told 81 = .ok (.ireturn, 1) := by decide +kernel
theorem dX9_told_82 : decode cX9_told 82 = .ok (.aload_n 3, 1) := by decide +kernel
theorem dX9_told_83 : decode cX9_told 83 = .ok (.getfield 96, 3) := by decide +kernel
theorem dX9_told_86 : decode cX9_told 86 = .ok (.iload_n 2, 1) := by decide +kernel
theorem dX9_told_87 : decode cX9_told 87 = .ok (.iconst 2, 1) := by decide +kernel
theorem dX9_told_88 : decode cX9_told 88 = .ok (.isub, 1) := by decide +kernel
theorem dX9_told_89 : decode cX9_told 89 = .ok (.iaload, 1) := by decide +kernel
theorem dX9_told_90 : decode cX9_told 90 = .ok (.ireturn, 1) := by decide +kernel
theorem dX9_told_91 : decode cX9_told 91 = .ok (.aload_n 3, 1) := by decide +kernel
theorem dX9_told_92 : decode cX9_told 92 = .ok (.iload_n 2, 1) := by decide +kernel
theorem dX9_told_93 : decode cX9_told 93 = .ok (.iconst 5, 1) := by decide +kernel
theorem dX9_told_94 : decode cX9_told 94 = .ok (.isub, 1) := by decide +kernel
theorem dX9_told_95 : decode cX9_told 95 = .ok (.invokevirtual 99, 3) := by decide +kernel
theorem dX9_told_98 : decode cX9_told 98 = .ok (.ireturn, 1) := by decide +kernel
theorem dX9_told_99 : decode cX9_told 99 = .ok (.aload_n 3, 1) := by decide +kernel
theorem dX9_told_100 : decode cX9_told 100 = .ok (.invokevirtual 103, 3) := by decide +kernel
theorem dX9_told_103 : decode cX9_told 103 = .ok (.ireturn, 1) := by decide +kernel
theorem dX9_told_104 : decode cX9_told 104 = .ok (.ldc 71, 2) := by decide +kernel
theorem dX9_told_106 : decode cX9_told 106 = .ok (.ireturn, 1) := by decide +kernel
theorem dX9_as_0 : decode cX9_as 0 = .ok (.aload_n 0, 1) := by decide +kernel
theorem dX9_as_1 : decode cX9_as 1 = .ok (.iload_n 1, 1) := by decide +kernel
theorem dX9_as_2 : decode cX9_as 2 = .ok (.invokevirtual 87, 3) := by decide +kernel
theorem dX9_as_5 : decode cX9_as 5 = .ok (.ifCond .eq 10, 3) := by decide +kernel
theorem dX9_as_8 : decode cX9_as 8 = .ok (.iload_n 2, 1) := by decide +kernel
theorem dX9_as_9 : decode cX9_as 9 = .ok (.invokestatic 61, 3) := by decide +kernel
theorem dX9_as_12 : decode cX9_as 12 = .ok (.ifCond .ne 6, 3) := by decide +kernel
theorem dX9_as_15 : decode cX9_as 15 = .ok (.ldc 71, 2) := by decide +kernel
theorem dX9_as_17 : decode cX9_as 17 = .ok (.ireturn, 1) := by decide +kernel
theorem dX9_as_18 : decode cX9_as 18 = .ok (.aload_n 0, 1) := by decide +kernel
theorem dX9_as_19 : decode cX9_as 19 = .ok (.getfield 10, 3) := by decide +kernel
theorem dX9_as_22 : decode cX9_as 22 = .ok (.getfield 77, 3) := by decide +kernel
theorem dX9_as_25 : decode cX9_as 25 = .ok (.iload_n 1, 1) := by decide +kernel
theorem dX9_as_26 : decode cX9_as 26 = .ok (.aaload, 1) := by decide +kernel
theorem dX9_as_27 : decode cX9_as 27 = .ok (.astore_n 3, 1) := by decide +kernel
theorem dX9_as_28 : decode cX9_as 28 = .ok (.aload_n 3, 1) := by decide +kernel
theorem dX9_as_29 : decode cX9_as 29 = .ok (.getfield 90, 3) := by decide +kernel
theorem dX9_as_32 : decode cX9_as 32 = .ok (.iload_n 2, 1) := by decide +kernel
theorem dX9_as_33 : decode cX9_as 33 = .ok (.invokestatic 107, 3) := by decide +kernel
theorem dX9_as_36 : decode cX9_as 36 = .ok (.ifCond .eq 10, 3) := by decide +kernel
theorem dX9_as_39 : decode cX9_as 39 = .ok (.aload_n 3, 1) := by decide +kernel
theorem dX9_as_40 : decode cX9_as 40 = .ok (.getfield 93, 3) := by decide +kernel
theorem dX9_as_43 : decode cX9_as 43 = .ok (.goto 5, 3) := by decide +kernel
theorem dX9_as_46 : decode cX9_as 46 = .ok (.ldc 113, 2) := by decide +kernel
theorem dX9_as_48 : decode cX9_as 48 = .ok (.ireturn, 1) := by decide +kernel
theorem dX9_turns_0 : decode cX9_turns 0 = .ok (.aload_n 0, 1) := by decide +kernel
theorem dX9_turns_1 : decode cX9_turns 1 = .ok (.iload_n 1, 1) := by decide +kernel
theorem dX9_turns_2 : decode cX9_turns 2 = .ok (.invokevirtual 87, 3) := by decide +kernel
theorem dX9_turns_5 : decode cX9_turns 5 = .ok (.ifCond .eq 10, 3) := by decide +kernel
theorem dX9_turns_8 : decode cX9_turns 8 = .ok (.iload_n 2, 1) := by decide +kernel
theorem dX9_turns_9 : decode cX9_turns 9 = .ok (.invokestatic 61, 3) := by decide +kernel
theorem dX9_turns_12 : decode cX9_turns 12 = .ok (.ifCond .ne 6, 3) := by decide +kernel
theorem dX9_turns_15 : decode cX9_turns 15 = .ok (.ldc 71, 2) := by decide +kernel
theorem dX9_turns_17 : decode cX9_turns 17 = .ok (.ireturn, 1) := by decide +kernel
theorem dX9_turns_18 : decode cX9_turns 18 = .ok (.aload_n 0, 1) := by decide +kernel
theorem dX9_turns_19 : decode cX9_turns 19 = .ok (.getfield 10, 3) := by decide +kernel
theorem dX9_turns_22 : decode cX9_turns 22 = .ok (.getfield 77, 3) := by decide +kernel
theorem dX9_turns_25 : decode cX9_turns 25 = .ok (.iload_n 1, 1) := by decide +kernel
theorem dX9_turns_26 : decode cX9_turns 26 = .ok (.aaload, 1) := by decide +kernel
theorem dX9_turns_27 : decode cX9_turns 27 = .ok (.getfield 90, 3) := by decide +kernel
theorem dX9_turns_30 : decode cX9_turns 30 = .ok (.istore_n 3, 1) := by decide +kernel
theorem dX9_turns_31 : decode cX9_turns 31 = .ok (.aload_n 0, 1) := by decide +kernel
theorem dX9_turns_32 : decode cX9_turns 32 = .ok (.getfield 10, 3) := by decide +kernel
theorem dX9_turns_35 : decode cX9_turns 35 = .ok (.getfield 77, 3) := by decide +kernel
theorem dX9_turns_38 : decode cX9_turns 38 = .ok (.iload_n 1, 1) := by decide +kernel
theorem dX9_turns_39 : decode cX9_turns 39 = .ok (.aaload, 1) := by decide +kernel
theorem dX9_turns_40 : decode cX9_turns 40 = .ok (.iload_n 2, 1) := by decide +kernel
theorem dX9_turns_41 : decode cX9_turns 41 = .ok (.putfield 90, 3) := by decide +kernel
theorem dX9_turns_44 : decode cX9_turns 44 = .ok (.iload_n 3, 1) := by decide +kernel
theorem dX9_turns_45 : decode cX9_turns 45 = .ok (.ireturn, 1) := by decide +kernel
theorem dX9_set_0 : decode cX9_set 0 = .ok (.aload_n 0, 1) := by decide +kernel
theorem dX9_set_1 : decode cX9_set 1 = .ok (.iload_n 1, 1) := by decide +kernel
theorem dX9_set_2 : decode cX9_set 2 = .ok (.invokevirtual 87, 3) := by decide +kernel
theorem dX9_set_5 : decode cX9_set 5 = .ok (.ifCond .eq 13, 3) := by decide +kernel
theorem dX9_set_8 : decode cX9_set 8 = .ok (.iload_n 2, 1) := by decide +kernel
theorem dX9_set_9 : decode cX9_set 9 = .ok (.iconst 1, 1) := by decide +kernel
theorem dX9_set_10 : decode cX9_set 10 = .ok (.if_icmp .lt 8, 3) := by decide +kernel
theorem dX9_set_13 : decode cX9_set 13 = .ok (.iload_n 2, 1) := by decide +kernel
theorem dX9_set_14 : decode cX9_set 14 = .ok (.iconst 4, 1) := by decide +kernel
theorem dX9_set_15 : decode cX9_set 15 = .ok (.if_icmp .le 6, 3) := by decide +kernel
theorem dX9_set_18 : decode cX9_set 18 = .ok (.ldc 71, 2) := by decide +kernel
theorem dX9_set_20 : decode cX9_set 20 = .ok (.ireturn, 1) := by decide +kernel
theorem dX9_set_21 : decode cX9_set 21 = .ok (.aload_n 0, 1) := by decide +kernel
theorem dX9_set_22 : decode cX9_set 22 = .ok (.getfield 10, 3) := by decide +kernel
theorem dX9_set_25 : decode cX9_set 25 = .ok (.getfield 77, 3) := by decide +kernel
theorem dX9_set_28 : decode cX9_set 28 = .ok (.iload_n 1, 1) := by decide +kernel
theorem dX9_set_29 : decode cX9_set 29 = .ok (.aaload, 1) := by decide +kernel
theorem dX9_set_30 : decode cX9_set 30 = .ok (.astore 4, 2) := by decide +kernel
theorem dX9_set_32 : decode cX9_set 32 = .ok (.iload_n 2, 1) := by decide +kernel
theorem dX9_set_33 : decode cX9_set 33 = .ok (.iconst 1, 1) := by decide +kernel
theorem dX9_set_34 : decode cX9_set 34 = .ok (.if_icmp .ne 29, 3) := by decide +kernel
theorem dX9_set_37 : decode cX9_set 37 = .ok (.iload_n 3, 1) := by decide +kernel
theorem dX9_set_38 : decode cX9_set 38 = .ok (.invokestatic 65, 3) := by decide +kernel
theorem dX9_set_41 : decode cX9_set 41 = .ok (.ifCond .ne 6, 3) := by decide +kernel
theorem dX9_set_44 : decode cX9_set 44 = .ok (.ldc 71, 2) := by decide +kernel
theorem dX9_set_46 : decode cX9_set 46 = .ok (.ireturn, 1) := by decide +kernel
theorem dX9_set_47 : decode cX9_set 47 = .ok (.aload 4, 2) := by decide +kernel
theorem dX9_set_49 : decode cX9_set 49 = .ok (.getfield 93, 3) := by decide +kernel
theorem dX9_set_52 : decode cX9_set 52 = .ok (.istore 5, 2) := by decide +kernel
theorem dX9_set_54 : decode cX9_set 54 = .ok (.aload 4, 2) := by decide +kernel
theorem dX9_set_56 : decode cX9_set 56 = .ok (.iload_n 3, 1) := by decide +kernel
theorem dX9_set_57 : decode cX9_set 57 = .ok (.putfield 93, 3) := by decide +kernel
theorem dX9_set_60 : decode cX9_set 60 = .ok (.iload 5, 2) := by decide +kernel
theorem dX9_set_62 : decode cX9_set 62 = .ok (.ireturn, 1) := by decide +kernel
theorem dX9_set_63 : decode cX9_set 63 = .ok (.iload_n 3, 1) := by decide +kernel
theorem dX9_set_64 : decode cX9_set 64 = .ok (.invokestatic 68, 3) := by decide +kernel
theorem dX9_set_67 : decode cX9_set 67 = .ok (.ifCond .ne 6, 3) := by decide +kernel
theorem dX9_set_70 : decode cX9_set 70 = .ok (.ldc 71, 2) := by decide +kernel
theorem dX9_set_72 : decode cX9_set 72 = .ok (.ireturn, 1) := by decide +kernel
theorem dX9_set_73 : decode cX9_set 73 = .ok (.aload 4, 2) := by decide +kernel
theorem dX9_set_75 : decode cX9_set 75 = .ok (.getfield 96, 3) := by decide +kernel
theorem dX9_set_78 : decode cX9_set 78 = .ok (.iload_n 2, 1) := by decide +kernel
theorem dX9_set_79 : decode cX9_set 79 = .ok (.iconst 2, 1) := by decide +kernel
theorem dX9_set_80 : decode cX9_set 80 = .ok (.isub, 1) := by decide +kernel
theorem dX9_set_81 : decode cX9_set 81 = .ok (.iaload, 1) := by decide +kernel
theorem dX9_set_82 : decode cX9_set 82 = .ok (.istore 5, 2) := by decide +kernel
theorem dX9_set_84 : decode cX9_set 84 = .ok (.aload 4, 2) := by decide +kernel
theorem dX9_set_86 : decode cX9_set 86 = .ok (.getfield 96, 3) := by decide +kernel
theorem dX9_set_89 : decode cX9_set 89 = .ok (.iload_n 2, 1) := by decide +kernel
theorem dX9_set_90 : decode cX9_set 90 = .ok (.iconst 2, 1) := by decide +kernel
theorem dX9_set_91 : decode cX9_set 91 = .ok (.isub, 1) := by decide +kernel
theorem dX9_set_92 : decode cX9_set 92 = .ok (.iload_n 3, 1) := by decide +kernel
theorem dX9_set_93 : decode cX9_set 93 = .ok (.iastore, 1) := by decide +kernel
theorem dX9_set_94 : decode cX9_set 94 = .ok (.iload 5, 2) := by decide +kernel
theorem dX9_set_96 : decode cX9_set 96 = .ok (.ireturn, 1) := by decide +kernel
theorem dX9_lock_0 : decode cX9_lock 0 = .ok (.iload_n 1, 1) := by decide +kernel
theorem dX9_lock_1 : decode cX9_lock 1 = .ok (.invokestatic 65, 3) := by decide +kernel
theorem dX9_lock_4 : decode cX9_lock 4 = .ok (.ifCond .eq 25, 3) := by decide +kernel
theorem dX9_lock_7 : decode cX9_lock 7 = .ok (.iload_n 2, 1) := by decide +kernel
theorem dX9_lock_8 : decode cX9_lock 8 = .ok (.invokestatic 65, 3) := by decide +kernel
theorem dX9_lock_11 : decode cX9_lock 11 = .ok (.ifCond .eq 18, 3) := by decide +kernel
theorem dX9_lock_14 : decode cX9_lock 14 = .ok (.iload_n 3, 1) := by decide +kernel
theorem dX9_lock_15 : decode cX9_lock 15 = .ok (.invokestatic 114, 3) := by decide +kernel
theorem dX9_lock_18 : decode cX9_lock 18 = .ok (.ifCond .eq 11, 3) := by decide +kernel
theorem dX9_lock_21 : decode cX9_lock 21 = .ok (.iload 4, 2) := by decide +kernel
theorem dX9_lock_23 : decode cX9_lock 23 = .ok (.invokestatic 117, 3) := by decide +kernel
theorem dX9_lock_26 : decode cX9_lock 26 = .ok (.ifCond .ne 6, 3) := by decide +kernel
theorem dX9_lock_29 : decode cX9_lock 29 = .ok (.ldc 71, 2) := by decide +kernel
theorem dX9_lock_31 : decode cX9_lock 31 = .ok (.ireturn, 1) := by decide +kernel
theorem dX9_lock_32 : decode cX9_lock 32 = .ok (.aload_n 0, 1) := by decide +kernel
theorem dX9_lock_33 : decode cX9_lock 33 = .ok (.getfield 10, 3) := by decide +kernel
theorem dX9_lock_36 : decode cX9_lock 36 = .ok (.getfield 120, 3) := by decide +kernel
theorem dX9_lock_39 : decode cX9_lock 39 = .ok (.bipush 10, 2) := by decide +kernel
theorem dX9_lock_41 : decode cX9_lock 41 = .ok (.if_icmp .lt 6, 3) := by decide +kernel
theorem dX9_lock_44 : decode cX9_lock 44 = .ok (.ldc 76, 2) := by decide +kernel
theorem dX9_lock_46 : decode cX9_lock 46 = .ok (.ireturn, 1) := by decide +kernel
theorem dX9_lock_47 : decode cX9_lock 47 = .ok (.aload_n 0, 1) := by decide +kernel
theorem dX9_lock_48 : decode cX9_lock 48 = .ok (.getfield 10, 3) := by decide +kernel
theorem dX9_lock_51 : decode cX9_lock 51 = .ok (.getfield 123, 3) := by decide +kernel
theorem dX9_lock_54 : decode cX9_lock 54 = .ok (.aload_n 0, 1) := by decide +kernel
theorem dX9_lock_55 : decode cX9_lock 55 = .ok (.getfield 10, 3) := by decide +kernel
theorem dX9_lock_58 : decode cX9_lock 58 = .ok (.getfield 120, 3) := by decide +kernel
theorem dX9_lock_61 : decode cX9_lock 61 = .ok (.aaload, 1) := by decide +kernel
theorem dX9_lock_62 : decode cX9_lock 62 = .ok (.iload_n 1, 1) := by decide +kernel
theorem dX9_lock_63 : decode cX9_lock 63 = .ok (.iload_n 2, 1) := by decide +kernel
theorem dX9_lock_64 : decode cX9_lock 64 = .ok (.iload_n 3, 1) := by decide +kernel
theorem dX9_lock_65 : decode cX9_lock 65 = .ok (.iload 4, 2) := by decide +kernel
theorem dX9_lock_67 : decode cX9_lock 67 = .ok (.invokevirtual 127, 3) := by decide +kernel
theorem dX9_lock_70 : decode cX9_lock 70 = .ok (.aload_n 0, 1) := by decide +kernel
theorem dX9_lock_71 : decode cX9_lock 71 = .ok (.getfield 10, 3) := by decide +kernel
theorem dX9_lock_74 : decode cX9_lock 74 = .ok (.dup, 1) := by decide +kernel
theorem dX9_lock_75 : decode cX9_lock 75 = .ok (.getfield 120, 3) := by decide +kernel
theorem dX9_lock_78 : decode cX9_lock 78 = .ok (.dup_x1, 1) := by decide +kernel
theorem dX9_lock_79 : decode cX9_lock 79 = .ok (.iconst 1, 1) := by decide +kernel
theorem dX9_lock_80 : decode cX9_lock 80 = .ok (.iadd, 1) := by decide +kernel
theorem dX9_lock_81 : decode cX9_lock 81 = .ok (.putfield 120, 3) := by decide +kernel
theorem dX9_lock_84 : decode cX9_lock 84 = .ok (.ireturn, 1) := by decide +kernel
theorem dX9_about_0 : decode cX9_about 0 = .ok (.aload_n 0, 1) := by decide +kernel
theorem dX9_about_1 : decode cX9_about 1 = .ok (.iload_n 1, 1) := by decide +kernel
theorem dX9_about_2 : decode cX9_about 2 = .ok (.invokevirtual 132, 3) := by decide +kernel
theorem dX9_about_5 : decode cX9_about 5 = .ok (.ifCond .ne 6, 3) := by decide +kernel
theorem dX9_about_8 : decode cX9_about 8 = .ok (.ldc 71, 2) := by decide +kernel
theorem dX9_about_10 : decode cX9_about 10 = .ok (.ireturn, 1) := by decide +kernel
theorem dX9_about_11 : decode cX9_about 11 = .ok (.aload_n 0, 1) := by decide +kernel
theorem dX9_about_12 : decode cX9_about 12 = .ok (.getfield 10, 3) := by decide +kernel
theorem dX9_about_15 : decode cX9_about 15 = .ok (.getfield 123, 3) := by decide +kernel
theorem dX9_about_18 : decode cX9_about 18 = .ok (.iload_n 1, 1) := by decide +kernel
theorem dX9_about_19 : decode cX9_about 19 = .ok (.aaload, 1) := by decide +kernel
theorem dX9_about_20 : decode cX9_about 20 = .ok (.astore_n 3, 1) := by decide +kernel
theorem dX9_about_21 : decode cX9_about 21 = .ok (.iload_n 2, 1) := by decide +kernel
theorem dX9_about_22 : decode cX9_about 22 = .ok (.tableswitch 80 0 5 #[38, 43, 48, 53, 58, 71], 38) := by decide +kernel
theorem dX9_about_60 : decode cX9_about 60 = .ok (.aload_n 3, 1) := by decide +kernel
theorem dX9_about_61 : decode cX9_about 61 = .ok (.getfield 135, 3) := by decide +kernel
theorem dX9_about_64 : decode cX9_about 64 = .ok (.ireturn, 1) := by decide +kernel
theorem dX9_about_65 : decode cX9_about 65 = .ok (.aload_n 3, 1) := by decide +kernel
theorem dX9_about_66 : decode cX9_about 66 = .ok (.getfield 138, 3) := by decide +kernel
theorem dX9_about_69 : decode cX9_about 69 = .ok (.ireturn, 1) := by decide +kernel
theorem dX9_about_70 : decode cX9_about 70 = .ok (.aload_n 3, 1) := by decide +kernel
theorem dX9_about_71 : decode cX9_about 71 = .ok (.getfield 141, 3) := by decide +kernel
theorem dX9_about_74 : decode cX9_about 74 = .ok (.ireturn, 1) := by decide +kernel
theorem dX9_about_75 : decode cX9_about 75 = .ok (.aload_n 3, 1) := by decide +kernel
theorem dX9_about_76 : decode cX9_about 76 = .ok (.getfield 144, 3) := by decide +kernel
theorem dX9_about_79 : decode cX9_about 79 = .ok (.ireturn, 1) := by decide +kernel
theorem dX9_about_80 : decode cX9_about 80 = .ok (.aload_n 3, 1) := by decide +kernel
theorem dX9_about_81 : decode cX9_about 81 = .ok (.getfield 147, 3) := by decide +kernel
theorem dX9_about_84 : decode cX9_about 84 = .ok (.ifCond .eq 7, 3) := by decide +kernel
theorem dX9_about_87 : decode cX9_about 87 = .ok (.iconst 1, 1) := by decide +kernel
theorem dX9_about_88 : decode cX9_about 88 = .ok (.goto 4, 3) := by decide +kernel
theorem dX9_about_91 : decode cX9_about 91 = .ok (.iconst 0, 1) := by decide +kernel
theorem dX9_about_92 : decode cX9_about 92 = .ok (.ireturn, 1) := by decide +kernel
theorem dX9_about_93 : decode cX9_about 93 = .ok (.aload_n 0, 1) := by decide +kernel
theorem dX9_about_94 : decode cX9_about 94 = .ok (.getfield 10, 3) := by decide +kernel
theorem dX9_about_97 : decode cX9_about 97 = .ok (.aload_n 3, 1) := by decide +kernel
theorem dX9_about_98 : decode cX9_about 98 = .ok (.invokevirtual 151, 3) := by decide +kernel
theorem dX9_about_101 : decode cX9_about 101 = .ok (.ireturn, 1) := by decide +kernel
theorem dX9_about_102 : decode cX9_about 102 = .ok (.ldc 71, 2) := by decide +kernel
theorem dX9_about_104 : decode cX9_about 104 = .ok (.ireturn, 1) := by decide +kernel
theorem dX9_sets_0 : decode cX9_sets 0 = .ok (.aload_n 0, 1) := by decide +kernel
theorem dX9_sets_1 : decode cX9_sets 1 = .ok (.iload_n 1, 1) := by decide +kernel
theorem dX9_sets_2 : decode cX9_sets 2 = .ok (.invokevirtual 132, 3) := by decide +kernel
theorem dX9_sets_5 : decode cX9_sets 5 = .ok (.ifCond .eq 11, 3) := by decide +kernel
theorem dX9_sets_8 : decode cX9_sets 8 = .ok (.iload_n 2, 1) := by decide +kernel
theorem dX9_sets_9 : decode cX9_sets 9 = .ok (.iload_n 3, 1) := by decide +kernel
theorem dX9_sets_10 : decode cX9_sets 10 = .ok (.invokestatic 155, 3) := by decide +kernel
theorem dX9_sets_13 : decode cX9_sets 13 = .ok (.ifCond .ne 6, 3) := by decide +kernel
theorem dX9_sets_16 : decode cX9_sets 16 = .ok (.ldc 71, 2) := by decide +kernel
theorem dX9_sets_18 : decode cX9_sets 18 = .ok (.ireturn, 1) := by decide +kernel
theorem dX9_sets_19 : decode cX9_sets 19 = .ok (.aload_n 0, 1) := by decide +kernel
theorem dX9_sets_20 : decode cX9_sets 20 = .ok (.getfield 10, 3) := by decide +kernel
theorem dX9_sets_23 : decode cX9_sets 23 = .ok (.getfield 123, 3) := by decide +kernel
theorem dX9_sets_26 : decode cX9_sets 26 = .ok (.iload_n 1, 1) := by decide +kernel
theorem dX9_sets_27 : decode cX9_sets 27 = .ok (.aaload, 1) := by decide +kernel
theorem dX9_sets_28 : decode cX9_sets 28 = .ok (.astore 4, 2) := by decide +kernel
theorem dX9_sets_30 : decode cX9_sets 30 = .ok (.iload_n 2, 1) := by decide +kernel
theorem dX9_sets_31 : decode cX9_sets 31 = .ok (.tableswitch 73 0 2 #[25, 41, 57], 25) := by decide +kernel
theorem dX9_sets_56 : decode cX9_sets 56 = .ok (.aload 4, 2) := by decide +kernel
theorem dX9_sets_58 : decode cX9_sets 58 = .ok (.getfield 135, 3) := by decide +kernel
theorem dX9_sets_61 : decode cX9_sets 61 = .ok (.istore 5, 2) := by decide +kernel
theorem dX9_sets_63 : decode cX9_sets 63 = .ok (.aload 4, 2) := by decide +kernel
theorem dX9_sets_65 : decode cX9_sets 65 = .ok (.iload_n 3, 1) := by decide +kernel
theorem dX9_sets_66 : decode cX9_sets 66 = .ok (.putfield 135, 3) := by decide +kernel
theorem dX9_sets_69 : decode cX9_sets 69 = .ok (.iload 5, 2) := by decide +kernel
theorem dX9_sets_71 : decode cX9_sets 71 = .ok (.ireturn, 1) := by decide +kernel
theorem dX9_sets_72 : decode cX9_sets 72 = .ok (.aload 4, 2) := by decide +kernel
theorem dX9_sets_74 : decode cX9_sets 74 = .ok (.getfield 138, 3) := by decide +kernel
theorem dX9_sets_77 : decode cX9_sets 77 = .ok (.istore 5, 2) := by decide +kernel
theorem dX9_sets_79 : decode cX9_sets 79 = .ok (.aload 4, 2) := by decide +kernel
theorem dX9_sets_81 : decode cX9_sets 81 = .ok (.iload_n 3, 1) := by decide +kernel
theorem dX9_sets_82 : decode cX9_sets 82 = .ok (.putfield 138, 3) := by decide +kernel
theorem dX9_sets_85 : decode cX9_sets 85 = .ok (.iload 5, 2) := by decide +kernel
theorem dX9_sets_87 : decode cX9_sets 87 = .ok (.ireturn, 1) := by decide +kernel
theorem dX9_sets_88 : decode cX9_sets 88 = .ok (.aload 4, 2) := by decide +kernel
theorem dX9_sets_90 : decode cX9_sets 90 = .ok (.getfield 141, 3) := by decide +kernel
theorem dX9_sets_93 : decode cX9_sets 93 = .ok (.istore 5, 2) := by decide +kernel
theorem dX9_sets_95 : decode cX9_sets 95 = .ok (.aload 4, 2) := by decide +kernel
theorem dX9_sets_97 : decode cX9_sets 97 = .ok (.iload_n 3, 1) := by decide +kernel
theorem dX9_sets_98 : decode cX9_sets 98 = .ok (.putfield 141, 3) := by decide +kernel
theorem dX9_sets_101 : decode cX9_sets 101 = .ok (.iload 5, 2) := by decide +kernel
theorem dX9_sets_103 : decode cX9_sets 103 = .ok (.ireturn, 1) := by decide +kernel
theorem dX9_sets_104 : decode cX9_sets 104 = .ok (.aload 4, 2) := by decide +kernel
theorem dX9_sets_106 : decode cX9_sets 106 = .ok (.getfield 144, 3) := by decide +kernel
theorem dX9_sets_109 : decode cX9_sets 109 = .ok (.istore 5, 2) := by decide +kernel
theorem dX9_sets_111 : decode cX9_sets 111 = .ok (.aload 4, 2) := by decide +kernel
theorem dX9_sets_113 : decode cX9_sets 113 = .ok (.iload_n 3, 1) := by decide +kernel
theorem dX9_sets_114 : decode cX9_sets 114 = .ok (.putfield 144, 3) := by decide +kernel
theorem dX9_sets_117 : decode cX9_sets 117 = .ok (.iload 5, 2) := by decide +kernel
theorem dX9_sets_119 : decode cX9_sets 119 = .ok (.ireturn, 1) := by decide +kernel
theorem dX9_mends_0 : decode cX9_mends 0 = .ok (.aload_n 0, 1) := by decide +kernel
theorem dX9_mends_1 : decode cX9_mends 1 = .ok (.iload_n 1, 1) := by decide +kernel
theorem dX9_mends_2 : decode cX9_mends 2 = .ok (.invokevirtual 132, 3) := by decide +kernel
theorem dX9_mends_5 : decode cX9_mends 5 = .ok (.ifCond .ne 6, 3) := by decide +kernel
theorem dX9_mends_8 : decode cX9_mends 8 = .ok (.ldc 71, 2) := by decide +kernel
theorem dX9_mends_10 : decode cX9_mends 10 = .ok (.ireturn, 1) := by decide +kernel
theorem dX9_mends_11 : decode cX9_mends 11 = .ok (.aload_n 0, 1) := by decide +kernel
theorem dX9_mends_12 : decode cX9_mends 12 = .ok (.getfield 10, 3) := by decide +kernel
theorem dX9_mends_15 : decode cX9_mends 15 = .ok (.getfield 123, 3) := by decide +kernel
theorem dX9_mends_18 : decode cX9_mends 18 = .ok (.iload_n 1, 1) := by decide +kernel
theorem dX9_mends_19 : decode cX9_mends 19 = .ok (.aaload, 1) := by decide +kernel
theorem dX9_mends_20 : decode cX9_mends 20 = .ok (.getfield 147, 3) := by decide +kernel
theorem dX9_mends_23 : decode cX9_mends 23 = .ok (.ifCond .ne 6, 3) := by decide +kernel
theorem dX9_mends_26 : decode cX9_mends 26 = .ok (.ldc 158, 2) := by decide +kernel
theorem dX9_mends_28 : decode cX9_mends 28 = .ok (.ireturn, 1) := by decide +kernel
theorem dX9_mends_29 : decode cX9_mends 29 = .ok (.aload_n 0, 1) := by decide +kernel
theorem dX9_mends_30 : decode cX9_mends 30 = .ok (.getfield 10, 3) := by decide +kernel
theorem dX9_mends_33 : decode cX9_mends 33 = .ok (.getfield 123, 3) := by decide +kernel
theorem dX9_mends_36 : decode cX9_mends 36 = .ok (.iload_n 1, 1) := by decide +kernel
theorem dX9_mends_37 : decode cX9_mends 37 = .ok (.aaload, 1) := by decide +kernel
theorem dX9_mends_38 : decode cX9_mends 38 = .ok (.iconst 0, 1) := by decide +kernel
theorem dX9_mends_39 : decode cX9_mends 39 = .ok (.putfield 147, 3) := by decide +kernel
theorem dX9_mends_42 : decode cX9_mends 42 = .ok (.iconst 1, 1) := by decide +kernel
theorem dX9_mends_43 : decode cX9_mends 43 = .ok (.ireturn, 1) := by decide +kernel
theorem dX9_rule_0 : decode cX9_rule 0 = .ok (.iload_n 1, 1) := by decide +kernel
theorem dX9_rule_1 : decode cX9_rule 1 = .ok (.ifCond .lt 18, 3) := by decide +kernel
theorem dX9_rule_4 : decode cX9_rule 4 = .ok (.iload_n 1, 1) := by decide +kernel
theorem dX9_rule_5 : decode cX9_rule 5 = .ok (.iconst 1, 1) := by decide +kernel
theorem dX9_rule_6 : decode cX9_rule 6 = .ok (.if_icmp .gt 13, 3) := by decide +kernel
theorem dX9_rule_9 : decode cX9_rule 9 = .ok (.iload_n 2, 1) := by decide +kernel
theorem dX9_rule_10 : decode cX9_rule 10 = .ok (.ifCond .lt 9, 3) := by decide +kernel
theorem dX9_rule_13 : decode cX9_rule 13 = .ok (.iload_n 2, 1) := by decide +kernel
theorem dX9_rule_14 : decode cX9_rule 14 = .ok (.bipush 100, 2) := by decide +kernel
theorem dX9_rule_16 : decode cX9_rule 16 = .ok (.if_icmp .le 6, 3) := by decide +kernel
theorem dX9_rule_19 : decode cX9_rule 19 = .ok (.ldc 71, 2) := by decide +kernel
theorem dX9_rule_21 : decode cX9_rule 21 = .ok (.ireturn, 1) := by decide +kernel
theorem dX9_rule_22 : decode cX9_rule 22 = .ok (.iload_n 1, 1) := by decide +kernel
theorem dX9_rule_23 : decode cX9_rule 23 = .ok (.ifCond .ne 13, 3) := by decide +kernel
theorem dX9_rule_26 : decode cX9_rule 26 = .ok (.aload_n 0, 1) := by decide +kernel
theorem dX9_rule_27 : decode cX9_rule 27 = .ok (.getfield 10, 3) := by decide +kernel
theorem dX9_rule_30 : decode cX9_rule 30 = .ok (.getfield 159, 3) := by decide +kernel
theorem dX9_rule_33 : decode cX9_rule 33 = .ok (.goto 10, 3) := by decide +kernel
theorem dX9_rule_36 : decode cX9_rule 36 = .ok (.aload_n 0, 1) := by decide +kernel
theorem dX9_rule_37 : decode cX9_rule 37 = .ok (.getfield 10, 3) := by decide +kernel
theorem dX9_rule_40 : decode cX9_rule 40 = .ok (.getfield 162, 3) := by decide +kernel
theorem dX9_rule_43 : decode cX9_rule 43 = .ok (.istore_n 3, 1) := by decide +kernel
theorem dX9_rule_44 : decode cX9_rule 44 = .ok (.iload_n 1, 1) := by decide +kernel
theorem dX9_rule_45 : decode cX9_rule 45 = .ok (.ifCond .ne 14, 3) := by decide +kernel
theorem dX9_rule_48 : decode cX9_rule 48 = .ok (.aload_n 0, 1) := by decide +kernel
theorem dX9_rule_49 : decode cX9_rule 49 = .ok (.getfield 10, 3) := by decide +kernel
theorem dX9_rule_52 : decode cX9_rule 52 = .ok (.iload_n 2, 1) := by decide +kernel
theorem dX9_rule_53 : decode cX9_rule 53 = .ok (.putfield 159, 3) := by decide +kernel
theorem dX9_rule_56 : decode cX9_rule 56 = .ok (.goto 11, 3) := by decide +kernel
theorem dX9_rule_59 : decode cX9_rule 59 = .ok (.aload_n 0, 1) := by decide +kernel
theorem dX9_rule_60 : decode cX9_rule 60 = .ok (.getfield 10, 3) := by decide +kernel
theorem dX9_rule_63 : decode cX9_rule 63 = .ok (.iload_n 2, 1) := by decide +kernel
theorem dX9_rule_64 : decode cX9_rule 64 = .ok (.putfield 162, 3) := by decide +kernel
theorem dX9_rule_67 : decode cX9_rule 67 = .ok (.iload_n 3, 1) := by decide +kernel
theorem dX9_rule_68 : decode cX9_rule 68 = .ok (.ireturn, 1) := by decide +kernel
theorem dX9_at_0 : decode cX9_at 0 = .ok (.iload_n 1, 1) := by decide +kernel
theorem dX9_at_1 : decode cX9_at 1 = .ok (.invokestatic 65, 3) := by decide +kernel
theorem dX9_at_4 : decode cX9_at 4 = .ok (.ifCond .ne 6, 3) := by decide +kernel
theorem dX9_at_7 : decode cX9_at 7 = .ok (.ldc 71, 2) := by decide +kernel
theorem dX9_at_9 : decode cX9_at 9 = .ok (.ireturn, 1) := by decide +kernel
theorem dX9_at_10 : decode cX9_at 10 = .ok (.iconst 0, 1) := by decide +kernel
theorem dX9_at_11 : decode cX9_at 11 = .ok (.istore_n 2, 1) := by decide +kernel
theorem dX9_at_12 : decode cX9_at 12 = .ok (.iconst 0, 1) := by decide +kernel
theorem dX9_at_13 : decode cX9_at 13 = .ok (.istore_n 3, 1) := by decide +kernel
theorem dX9_at_14 : decode cX9_at 14 = .ok (.iload_n 3, 1) := by decide +kernel
theorem dX9_at_15 : decode cX9_at 15 = .ok (.aload_n 0, 1) := by decide +kernel
theorem dX9_at_16 : decode cX9_at 16 = .ok (.getfield 10, 3) := by decide +kernel
theorem dX9_at_19 : decode cX9_at 19 = .ok (.getfield 72, 3) := by decide +kernel
theorem dX9_at_22 : decode cX9_at 22 = .ok (.if_icmp .ge 31, 3) := by decide +kernel
theorem dX9_at_25 : decode cX9_at 25 = .ok (.aload_n 0, 1) := by decide +kernel
theorem dX9_at_26 : decode cX9_at 26 = .ok (.getfield 10, 3) := by decide +kernel
theorem dX9_at_29 : decode cX9_at 29 = .ok (.getfield 77, 3) := by decide +kernel
theorem dX9_at_32 : decode cX9_at 32 = .ok (.iload_n 3, 1) := by decide +kernel
theorem dX9_at_33 : decode cX9_at 33 = .ok (.aaload, 1) := by decide +kernel
theorem dX9_at_34 : decode cX9_at 34 = .ok (.getfield 93, 3) := by decide +kernel
theorem dX9_at_37 : decode cX9_at 37 = .ok (.iload_n 1, 1) := by decide +kernel
theorem dX9_at_38 : decode cX9_at 38 = .ok (.if_icmp .ne 9, 3) := by decide +kernel
theorem dX9_at_41 : decode cX9_at 41 = .ok (.iload_n 2, 1) := by decide +kernel
theorem dX9_at_42 : decode cX9_at 42 = .ok (.iconst 1, 1) := by decide +kernel
theorem dX9_at_43 : decode cX9_at 43 = .ok (.iload_n 3, 1) := by decide +kernel
theorem dX9_at_44 : decode cX9_at 44 = .ok (.ishl, 1) := by decide +kernel
theorem dX9_at_45 : decode cX9_at 45 = .ok (.ior, 1) := by decide +kernel
theorem dX9_at_46 : decode cX9_at 46 = .ok (.istore_n 2, 1) := by decide +kernel
theorem dX9_at_47 : decode cX9_at 47 = .ok (.iinc 3 1, 3) := by decide +kernel
theorem dX9_at_50 : decode cX9_at 50 = .ok (.goto (-36), 3) := by decide +kernel
theorem dX9_at_53 : decode cX9_at 53 = .ok (.iload_n 2, 1) := by decide +kernel
theorem dX9_at_54 : decode cX9_at 54 = .ok (.ireturn, 1) := by decide +kernel
theorem dX9_deal_0 : decode cX9_deal 0 = .ok (.iload_n 1, 1) := by decide +kernel
theorem dX9_deal_1 : decode cX9_deal 1 = .ok (.iconst 1, 1) := by decide +kernel
theorem dX9_deal_2 : decode cX9_deal 2 = .ok (.if_icmp .lt 9, 3) := by decide +kernel
theorem dX9_deal_5 : decode cX9_deal 5 = .ok (.iload_n 1, 1) := by decide +kernel
theorem dX9_deal_6 : decode cX9_deal 6 = .ok (.bipush 8, 2) := by decide +kernel
theorem dX9_deal_8 : decode cX9_deal 8 = .ok (.if_icmp .le 6, 3) := by decide +kernel
theorem dX9_deal_11 : decode cX9_deal 11 = .ok (.ldc 71, 2) := by decide +kernel
theorem dX9_deal_13 : decode cX9_deal 13 = .ok (.ireturn, 1) := by decide +kernel
theorem dX9_deal_14 : decode cX9_deal 14 = .ok (.iload_n 1, 1) := by decide +kernel
theorem dX9_deal_15 : decode cX9_deal 15 = .ok (.bipush 8, 2) := by decide +kernel
theorem dX9_deal_17 : decode cX9_deal 17 = .ok (.aload_n 0, 1) := by decide +kernel
theorem dX9_deal_18 : decode cX9_deal 18 = .ok (.getfield 10, 3) := by decide +kernel
theorem dX9_deal_21 : decode cX9_deal 21 = .ok (.getfield 72, 3) := by decide +kernel
theorem dX9_deal_24 : decode cX9_deal 24 = .ok (.isub, 1) := by decide +kernel
theorem dX9_deal_25 : decode cX9_deal 25 = .ok (.invokestatic 165, 3) := by decide +kernel
theorem dX9_deal_28 : decode cX9_deal 28 = .ok (.istore_n 2, 1) := by decide +kernel
theorem dX9_deal_29 : decode cX9_deal 29 = .ok (.iconst 0, 1) := by decide +kernel
theorem dX9_deal_30 : decode cX9_deal 30 = .ok (.istore_n 3, 1) := by decide +kernel
theorem dX9_deal_31 : decode cX9_deal 31 = .ok (.iload_n 3, 1) := by decide +kernel
theorem dX9_deal_32 : decode cX9_deal 32 = .ok (.iload_n 2, 1) := by decide +kernel
theorem dX9_deal_33 : decode cX9_deal 33 = .ok (.if_icmp .ge 16, 3) := by decide +kernel
theorem dX9_deal_36 : decode cX9_deal 36 = .ok (.aload_n 0, 1) := by decide +kernel
theorem dX9_deal_37 : decode cX9_deal 37 = .ok (.getfield 10, 3) := by decide +kernel
theorem dX9_deal_40 : decode cX9_deal 40 = .ok (.invokevirtual 171, 3) := by decide +kernel
theorem dX9_deal_43 : decode cX9_deal 43 = .ok (.iinc 3 1, 3) := by decide +kernel
theorem dX9_deal_46 : decode cX9_deal 46 = .ok (.goto (-15), 3) := by decide +kernel
theorem dX9_deal_49 : decode cX9_deal 49 = .ok (.iload_n 2, 1) := by decide +kernel
theorem dX9_deal_50 : decode cX9_deal 50 = .ok (.ireturn, 1) := by decide +kernel
theorem dX9_seed_0 : decode cX9_seed 0 = .ok (.aload_n 0, 1) := by decide +kernel
theorem dX9_seed_1 : decode cX9_seed 1 = .ok (.getfield 10, 3) := by decide +kernel
theorem dX9_seed_4 : decode cX9_seed 4 = .ok (.getfield 174, 3) := by decide +kernel
theorem dX9_seed_7 : decode cX9_seed 7 = .ok (.istore_n 2, 1) := by decide +kernel
theorem dX9_seed_8 : decode cX9_seed 8 = .ok (.aload_n 0, 1) := by decide +kernel
theorem dX9_seed_9 : decode cX9_seed 9 = .ok (.getfield 10, 3) := by decide +kernel
theorem dX9_seed_12 : decode cX9_seed 12 = .ok (.iload_n 1, 1) := by decide +kernel
theorem dX9_seed_13 : decode cX9_seed 13 = .ok (.putfield 174, 3) := by decide +kernel
theorem dX9_seed_16 : decode cX9_seed 16 = .ok (.iload_n 2, 1) := by decide +kernel
theorem dX9_seed_17 : decode cX9_seed 17 = .ok (.ireturn, 1) := by decide +kernel
theorem dX9_passes_0 : decode cX9_passes 0 = .ok (.aload_n 0, 1) := by decide +kernel
theorem dX9_passes_1 : decode cX9_passes 1 = .ok (.iload_n 1, 1) := by decide +kernel
theorem dX9_passes_2 : decode cX9_passes 2 = .ok (.invokevirtual 87, 3) := by decide +kernel
theorem dX9_passes_5 : decode cX9_passes 5 = .ok (.ifCond .eq 11, 3) := by decide +kernel
theorem dX9_passes_8 : decode cX9_passes 8 = .ok (.aload_n 0, 1) := by decide +kernel
theorem dX9_passes_9 : decode cX9_passes 9 = .ok (.iload_n 2, 1) := by decide +kernel
theorem dX9_passes_10 : decode cX9_passes 10 = .ok (.invokevirtual 132, 3) := by decide +kernel
theorem dX9_passes_13 : decode cX9_passes 13 = .ok (.ifCond .ne 6, 3) := by decide +kernel
theorem dX9_passes_16 : decode cX9_passes 16 = .ok (.ldc 71, 2) := by decide +kernel
theorem dX9_passes_18 : decode cX9_passes 18 = .ok (.ireturn, 1) := by decide +kernel
theorem dX9_passes_19 : decode cX9_passes 19 = .ok (.aload_n 0, 1) := by decide +kernel
theorem dX9_passes_20 : decode cX9_passes 20 = .ok (.getfield 10, 3) := by decide +kernel
theorem dX9_passes_23 : decode cX9_passes 23 = .ok (.getfield 77, 3) := by decide +kernel
theorem dX9_passes_26 : decode cX9_passes 26 = .ok (.iload_n 1, 1) := by decide +kernel
theorem dX9_passes_27 : decode cX9_passes 27 = .ok (.aaload, 1) := by decide +kernel
theorem dX9_passes_28 : decode cX9_passes 28 = .ok (.astore_n 3, 1) := by decide +kernel
theorem dX9_passes_29 : decode cX9_passes 29 = .ok (.aload_n 0, 1) := by decide +kernel
theorem dX9_passes_30 : decode cX9_passes 30 = .ok (.getfield 10, 3) := by decide +kernel
theorem dX9_passes_33 : decode cX9_passes 33 = .ok (.getfield 123, 3) := by decide +kernel
theorem dX9_passes_36 : decode cX9_passes 36 = .ok (.iload_n 2, 1) := by decide +kernel
theorem dX9_passes_37 : decode cX9_passes 37 = .ok (.aaload, 1) := by decide +kernel
theorem dX9_passes_38 : decode cX9_passes 38 = .ok (.astore 4, 2) := by decide +kernel
theorem dX9_passes_40 : decode cX9_passes 40 = .ok (.aload_n 3, 1) := by decide +kernel
theorem dX9_passes_41 : decode cX9_passes 41 = .ok (.getfield 93, 3) := by decide +kernel
theorem dX9_passes_44 : decode cX9_passes 44 = .ok (.aload 4, 2) := by decide +kernel
theorem dX9_passes_46 : decode cX9_passes 46 = .ok (.getfield 135, 3) := by decide +kernel
theorem dX9_passes_49 : decode cX9_passes 49 = .ok (.if_icmp .ne 12, 3) := by decide +kernel
theorem dX9_passes_52 : decode cX9_passes 52 = .ok (.aload 4, 2) := by decide +kernel
theorem dX9_passes_54 : decode cX9_passes 54 = .ok (.aload_n 3, 1) := by decide +kernel
theorem dX9_passes_55 : decode cX9_passes 55 = .ok (.invokevirtual 177, 3) := by decide +kernel
theorem dX9_passes_58 : decode cX9_passes 58 = .ok (.ifCond .ne 6, 3) := by decide +kernel
theorem dX9_passes_61 : decode cX9_passes 61 = .ok (.ldc 158, 2) := by decide +kernel
theorem dX9_passes_63 : decode cX9_passes 63 = .ok (.ireturn, 1) := by decide +kernel
theorem dX9_passes_64 : decode cX9_passes 64 = .ok (.aload_n 0, 1) := by decide +kernel
theorem dX9_passes_65 : decode cX9_passes 65 = .ok (.getfield 10, 3) := by decide +kernel
theorem dX9_passes_68 : decode cX9_passes 68 = .ok (.aload_n 3, 1) := by decide +kernel
theorem dX9_passes_69 : decode cX9_passes 69 = .ok (.aload 4, 2) := by decide +kernel
theorem dX9_passes_71 : decode cX9_passes 71 = .ok (.invokevirtual 181, 3) := by decide +kernel
theorem dX9_passes_74 : decode cX9_passes 74 = .ok (.aload_n 3, 1) := by decide +kernel
theorem dX9_passes_75 : decode cX9_passes 75 = .ok (.getfield 93, 3) := by decide +kernel
theorem dX9_passes_78 : decode cX9_passes 78 = .ok (.ireturn, 1) := by decide +kernel
theorem dX9_days_0 : decode cX9_days 0 = .ok (.iload_n 1, 1) := by decide +kernel
theorem dX9_days_1 : decode cX9_days 1 = .ok (.iconst 1, 1) := by decide +kernel
theorem dX9_days_2 : decode cX9_days 2 = .ok (.if_icmp .lt 9, 3) := by decide +kernel
theorem dX9_days_5 : decode cX9_days 5 = .ok (.iload_n 1, 1) := by decide +kernel
theorem dX9_days_6 : decode cX9_days 6 = .ok (.bipush 100, 2) := by decide +kernel
theorem dX9_days_8 : decode cX9_days 8 = .ok (.if_icmp .le 6, 3) := by decide +kernel
theorem dX9_days_11 : decode cX9_days 11 = .ok (.ldc 71, 2) := by decide +kernel
theorem dX9_days_13 : decode cX9_days 13 = .ok (.ireturn, 1) := by decide +kernel
theorem dX9_days_14 : decode cX9_days 14 = .ok (.aload_n 0, 1) := by decide +kernel
theorem dX9_days_15 : decode cX9_days 15 = .ok (.getfield 10, 3) := by decide +kernel
theorem dX9_days_18 : decode cX9_days 18 = .ok (.getfield 185, 3) := by decide +kernel
theorem dX9_days_21 : decode cX9_days 21 = .ok (.istore_n 2, 1) := by decide +kernel
theorem dX9_days_22 : decode cX9_days 22 = .ok (.iload_n 1, 1) := by decide +kernel
theorem dX9_days_23 : decode cX9_days 23 = .ok (.sipush 9999, 3) := by decide +kernel
theorem dX9_days_26 : decode cX9_days 26 = .ok (.aload_n 0, 1) := by decide +kernel
theorem dX9_days_27 : decode cX9_days 27 = .ok (.getfield 10, 3) := by decide +kernel
theorem dX9_days_30 : decode cX9_days 30 = .ok (.getfield 188, 3) := by decide +kernel
theorem dX9_days_33 : decode cX9_days 33 = .ok (.isub, 1) := by decide +kernel
theorem dX9_days_34 : decode cX9_days 34 = .ok (.invokestatic 165, 3) := by decide +kernel
theorem dX9_days_37 : decode cX9_days 37 = .ok (.istore_n 3, 1) := by decide +kernel
theorem dX9_days_38 : decode cX9_days 38 = .ok (.iconst 0, 1) := by decide +kernel
theorem dX9_days_39 : decode cX9_days 39 = .ok (.istore 4, 2) := by decide +kernel
theorem dX9_days_41 : decode cX9_days 41 = .ok (.iload 4, 2) := by decide +kernel
theorem dX9_days_43 : decode cX9_days 43 = .ok (.iload_n 3, 1) := by decide +kernel
theorem dX9_days_44 : decode cX9_days 44 = .ok (.if_icmp .ge 16, 3) := by decide +kernel
theorem dX9_days_47 : decode cX9_days 47 = .ok (.aload_n 0, 1) := by decide +kernel
theorem dX9_days_48 : decode cX9_days 48 = .ok (.getfield 10, 3) := by decide +kernel
theorem dX9_days_51 : decode cX9_days 51 = .ok (.invokevirtual 191, 3) := by decide +kernel
theorem dX9_days_54 : decode cX9_days 54 = .ok (.iinc 4 1, 3) := by decide +kernel
theorem dX9_days_57 : decode cX9_days 57 = .ok (.goto (-16), 3) := by decide +kernel
theorem dX9_days_60 : decode cX9_days 60 = .ok (.aload_n 0, 1) := by decide +kernel
theorem dX9_days_61 : decode cX9_days 61 = .ok (.getfield 10, 3) := by decide +kernel
theorem dX9_days_64 : decode cX9_days 64 = .ok (.getfield 185, 3) := by decide +kernel
theorem dX9_days_67 : decode cX9_days 67 = .ok (.iload_n 2, 1) := by decide +kernel
theorem dX9_days_68 : decode cX9_days 68 = .ok (.isub, 1) := by decide +kernel
theorem dX9_days_69 : decode cX9_days 69 = .ok (.ireturn, 1) := by decide +kernel
theorem dX9_town_0 : decode cX9_town 0 = .ok (.iload_n 1, 1) := by decide +kernel
theorem dX9_town_1 : decode cX9_town 1 = .ok (.tableswitch 75 0 4 #[35, 43, 51, 59, 67], 35) := by decide +kernel
theorem dX9_town_36 : decode cX9_town 36 = .ok (.aload_n 0, 1) := by decide +kernel
theorem dX9_town_37 : decode cX9_town 37 = .ok (.getfield 10, 3) := by decide +kernel
theorem dX9_town_40 : decode cX9_town 40 = .ok (.getfield 185, 3) := by decide +kernel
theorem dX9_town_43 : decode cX9_town 43 = .ok (.ireturn, 1) := by decide +kernel
theorem dX9_town_44 : decode cX9_town 44 = .ok (.aload_n 0, 1) := by decide +kernel
theorem dX9_town_45 : decode cX9_town 45 = .ok (.getfield 10, 3) := by decide +kernel
theorem dX9_town_48 : decode cX9_town 48 = .ok (.getfield 194, 3) := by decide +kernel
theorem dX9_town_51 : decode cX9_town 51 = .ok (.ireturn, 1) := by decide +kernel
theorem dX9_town_52 : decode cX9_town 52 = .ok (.aload_n 0, 1) := by decide +kernel
theorem dX9_town_53 : decode cX9_town 53 = .ok (.getfield 10, 3) := by decide +kernel
theorem dX9_town_56 : decode cX9_town 56 = .ok (.getfield 197, 3) := by decide +kernel
theorem dX9_town_59 : decode cX9_town 59 = .ok (.ireturn, 1) := by decide +kernel
theorem dX9_town_60 : decode cX9_town 60 = .ok (.aload_n 0, 1) := by decide +kernel
theorem dX9_town_61 : decode cX9_town 61 = .ok (.getfield 10, 3) := by decide +kernel
theorem dX9_town_64 : decode cX9_town 64 = .ok (.invokevirtual 200, 3) := by decide +kernel
theorem dX9_town_67 : decode cX9_town 67 = .ok (.ireturn, 1) := by decide +kernel
theorem dX9_town_68 : decode cX9_town 68 = .ok (.aload_n 0, 1) := by decide +kernel
theorem dX9_town_69 : decode cX9_town 69 = .ok (.getfield 10, 3) := by decide +kernel
theorem dX9_town_72 : decode cX9_town 72 = .ok (.invokevirtual 203, 3) := by decide +kernel
theorem dX9_town_75 : decode cX9_town 75 = .ok (.ireturn, 1) := by decide +kernel
theorem dX9_town_76 : decode cX9_town 76 = .ok (.ldc 71, 2) := by decide +kernel
theorem dX9_town_78 : decode cX9_town 78 = .ok (.ireturn, 1) := by decide +kernel
theorem dX9_reach_0 : decode cX9_reach 0 = .ok (.aload_n 0, 1) := by decide +kernel
theorem dX9_reach_1 : decode cX9_reach 1 = .ok (.iload_n 1, 1) := by decide +kernel
theorem dX9_reach_2 : decode cX9_reach 2 = .ok (.invokevirtual 87, 3) := by decide +kernel
theorem dX9_reach_5 : decode cX9_reach 5 = .ok (.ifCond .ne 6, 3) := by decide +kernel
theorem dX9_reach_8 : decode cX9_reach 8 = .ok (.ldc 71, 2) := by decide +kernel
theorem dX9_reach_10 : decode cX9_reach 10 = .ok (.ireturn, 1) := by decide +kernel
theorem dX9_reach_11 : decode cX9_reach 11 = .ok (.aload_n 0, 1) := by decide +kernel
theorem dX9_reach_12 : decode cX9_reach 12 = .ok (.getfield 25, 3) := by decide +kernel
theorem dX9_reach_15 : decode cX9_reach 15 = .ok (.aload_n 0, 1) := by decide +kernel
theorem dX9_reach_16 : decode cX9_reach 16 = .ok (.getfield 10, 3) := by decide +kernel
theorem dX9_reach_19 : decode cX9_reach 19 = .ok (.aload_n 0, 1) := by decide +kernel
theorem dX9_reach_20 : decode cX9_reach 20 = .ok (.getfield 10, 3) := by decide +kernel
theorem dX9_reach_23 : decode cX9_reach 23 = .ok (.getfield 77, 3) := by decide +kernel
theorem dX9_reach_26 : decode cX9_reach 26 = .ok (.iload_n 1, 1) := by decide +kernel
theorem dX9_reach_27 : decode cX9_reach 27 = .ok (.aaload, 1) := by decide +kernel
theorem dX9_reach_28 : decode cX9_reach 28 = .ok (.iconst 0, 1) := by decide +kernel
theorem dX9_reach_29 : decode cX9_reach 29 = .ok (.invokevirtual 206, 3) := by decide +kernel
theorem dX9_reach_32 : decode cX9_reach 32 = .ok (.aload_n 0, 1) := by decide +kernel
theorem dX9_reach_33 : decode cX9_reach 33 = .ok (.getfield 25, 3) := by decide +kernel
theorem dX9_reach_36 : decode cX9_reach 36 = .ok (.invokevirtual 210, 3) := by decide +kernel
theorem dX9_reach_39 : decode cX9_reach 39 = .ok (.ireturn, 1) := by decide +kernel
theorem dX9_way_0 : decode cX9_way 0 = .ok (.aload_n 0, 1) := by decide +kernel
theorem dX9_way_1 : decode cX9_way 1 = .ok (.iload_n 1, 1) := by decide +kernel
theorem dX9_way_2 : decode cX9_way 2 = .ok (.invokevirtual 87, 3) := by decide +kernel
theorem dX9_way_5 : decode cX9_way 5 = .ok (.ifCond .eq 10, 3) := by decide +kernel
theorem dX9_way_8 : decode cX9_way 8 = .ok (.iload_n 2, 1) := by decide +kernel
theorem dX9_way_9 : decode cX9_way 9 = .ok (.invokestatic 65, 3) := by decide +kernel
theorem dX9_way_12 : decode cX9_way 12 = .ok (.ifCond .ne 6, 3) := by decide +kernel
theorem dX9_way_15 : decode cX9_way 15 = .ok (.ldc 71, 2) := by decide +kernel
theorem dX9_way_17 : decode cX9_way 17 = .ok (.ireturn, 1) := by decide +kernel
theorem dX9_way_18 : decode cX9_way 18 = .ok (.aload_n 0, 1) := by decide +kernel
theorem dX9_way_19 : decode cX9_way 19 = .ok (.getfield 25, 3) := by decide +kernel
theorem dX9_way_22 : decode cX9_way 22 = .ok (.aload_n 0, 1) := by decide +kernel
theorem dX9_way_23 : decode cX9_way 23 = .ok (.getfield 10, 3) := by decide +kernel
theorem dX9_way_26 : decode cX9_way 26 = .ok (.aload_n 0, 1) := by decide +kernel
theorem dX9_way_27 : decode cX9_way 27 = .ok (.getfield 10, 3) := by decide +kernel
theorem dX9_way_30 : decode cX9_way 30 = .ok (.getfield 77, 3) := by decide +kernel
theorem dX9_way_33 : decode cX9_way 33 = .ok (.iload_n 1, 1) := by decide +kernel
theorem dX9_way_34 : decode cX9_way 34 = .ok (.aaload, 1) := by decide +kernel
theorem dX9_way_35 : decode cX9_way 35 = .ok (.iconst 0, 1) := by decide +kernel
theorem dX9_way_36 : decode cX9_way 36 = .ok (.invokevirtual 206, 3) := by decide +kernel
theorem dX9_way_39 : decode cX9_way 39 = .ok (.aload_n 0, 1) := by decide +kernel
theorem dX9_way_40 : decode cX9_way 40 = .ok (.getfield 25, 3) := by decide +kernel
theorem dX9_way_43 : decode cX9_way 43 = .ok (.getfield 213, 3) := by decide +kernel
theorem dX9_way_46 : decode cX9_way 46 = .ok (.iload_n 2, 1) := by decide +kernel
theorem dX9_way_47 : decode cX9_way 47 = .ok (.iaload, 1) := by decide +kernel
theorem dX9_way_48 : decode cX9_way 48 = .ok (.ireturn, 1) := by decide +kernel
theorem dX9_pardoned_0 : decode cX9_pardoned 0 = .ok (.aload_n 0, 1) := by decide +kernel
theorem dX9_pardoned_1 : decode cX9_pardoned 1 = .ok (.iload_n 1, 1) := by decide +kernel
theorem dX9_pardoned_2 : decode cX9_pardoned 2 = .ok (.invokevirtual 87, 3) := by decide +kernel
theorem dX9_pardoned_5 : decode cX9_pardoned 5 = .ok (.ifCond .ne 6, 3) := by decide +kernel
theorem dX9_pardoned_8 : decode cX9_pardoned 8 = .ok (.ldc 71, 2) := by decide +kernel
theorem dX9_pardoned_10 : decode cX9_pardoned 10 = .ok (.ireturn, 1) := by decide +kernel
theorem dX9_pardoned_11 : decode cX9_pardoned 11 = .ok (.aload_n 0, 1) := by decide +kernel
theorem dX9_pardoned_12 : decode cX9_pardoned 12 = .ok (.getfield 25, 3) := by decide +kernel
theorem dX9_pardoned_15 : decode cX9_pardoned 15 = .ok (.aload_n 0, 1) := by decide +kernel
theorem dX9_pardoned_16 : decode cX9_pardoned 16 = .ok (.getfield 10, 3) := by decide +kernel
theorem dX9_pardoned_19 : decode cX9_pardoned 19 = .ok (.aload_n 0, 1) := by decide +kernel
theorem dX9_pardoned_20 : decode cX9_pardoned 20 = .ok (.getfield 10, 3) := by decide +kernel
theorem dX9_pardoned_23 : decode cX9_pardoned 23 = .ok (.getfield 77, 3) := by decide +kernel
theorem dX9_pardoned_26 : decode cX9_pardoned 26 = .ok (.iload_n 1, 1) := by decide +kernel
theorem dX9_pardoned_27 : decode cX9_pardoned 27 = .ok (.aaload, 1) := by decide +kernel
theorem dX9_pardoned_28 : decode cX9_pardoned 28 = .ok (.iconst 1, 1) := by decide +kernel
theorem dX9_pardoned_29 : decode cX9_pardoned 29 = .ok (.invokevirtual 206, 3) := by decide +kernel
theorem dX9_pardoned_32 : decode cX9_pardoned 32 = .ok (.aload_n 0, 1) := by decide +kernel
theorem dX9_pardoned_33 : decode cX9_pardoned 33 = .ok (.getfield 25, 3) := by decide +kernel
theorem dX9_pardoned_36 : decode cX9_pardoned 36 = .ok (.invokevirtual 210, 3) := by decide +kernel
theorem dX9_pardoned_39 : decode cX9_pardoned 39 = .ok (.ireturn, 1) := by decide +kernel
theorem dX9_just_0 : decode cX9_just 0 = .ok (.aload_n 0, 1) := by decide +kernel
theorem dX9_just_1 : decode cX9_just 1 = .ok (.iload_n 1, 1) := by decide +kernel
theorem dX9_just_2 : decode cX9_just 2 = .ok (.invokevirtual 132, 3) := by decide +kernel
theorem dX9_just_5 : decode cX9_just 5 = .ok (.ifCond .eq 20, 3) := by decide +kernel
theorem dX9_just_8 : decode cX9_just 8 = .ok (.iload_n 2, 1) := by decide +kernel
theorem dX9_just_9 : decode cX9_just 9 = .ok (.ifCond .lt 16, 3) := by decide +kernel
theorem dX9_just_12 : decode cX9_just 12 = .ok (.iload_n 2, 1) := by decide +kernel
theorem dX9_just_13 : decode cX9_just 13 = .ok (.iconst 1, 1) := by decide +kernel
theorem dX9_just_14 : decode cX9_just 14 = .ok (.aload_n 0, 1) := by decide +kernel
theorem dX9_just_15 : decode cX9_just 15 = .ok (.getfield 10, 3) := by decide +kernel
theorem dX9_just_18 : decode cX9_just 18 = .ok (.getfield 72, 3) := by decide +kernel
theorem dX9_just_21 : decode cX9_just 21 = .ok (.ishl, 1) := by decide +kernel
theorem dX9_just_22 : decode cX9_just 22 = .ok (.if_icmp .lt 6, 3) := by decide +kernel
theorem dX9_just_25 : decode cX9_just 25 = .ok (.ldc 71, 2) := by decide +kernel
theorem dX9_just_27 : decode cX9_just 27 = .ok (.ireturn, 1) := by decide +kernel
theorem dX9_just_28 : decode cX9_just 28 = .ok (.aload_n 0, 1) := by decide +kernel
theorem dX9_just_29 : decode cX9_just 29 = .ok (.getfield 10, 3) := by decide +kernel
theorem dX9_just_32 : decode cX9_just 32 = .ok (.getfield 123, 3) := by decide +kernel
theorem dX9_just_35 : decode cX9_just 35 = .ok (.iload_n 1, 1) := by decide +kernel
theorem dX9_just_36 : decode cX9_just 36 = .ok (.aaload, 1) := by decide +kernel
theorem dX9_just_37 : decode cX9_just 37 = .ok (.getfield 141, 3) := by decide +kernel
theorem dX9_just_40 : decode cX9_just 40 = .ok (.istore_n 3, 1) := by decide +kernel
theorem dX9_just_41 : decode cX9_just 41 = .ok (.iconst 0, 1) := by decide +kernel
theorem dX9_just_42 : decode cX9_just 42 = .ok (.istore 4, 2) := by decide +kernel
theorem dX9_just_44 : decode cX9_just 44 = .ok (.iload 4, 2) := by decide +kernel
theorem dX9_just_46 : decode cX9_just 46 = .ok (.bipush 99, 2) := by decide +kernel
theorem dX9_just_48 : decode cX9_just 48 = .ok (.if_icmp .gt 26, 3) := by decide +kernel
theorem dX9_just_51 : decode cX9_just 51 = .ok (.aload_n 0, 1) := by decide +kernel
theorem dX9_just_52 : decode cX9_just 52 = .ok (.getfield 10, 3) := by decide +kernel
theorem dX9_just_55 : decode cX9_just 55 = .ok (.iload_n 3, 1) := by decide +kernel
theorem dX9_just_56 : decode cX9_just 56 = .ok (.iload 4, 2) := by decide +kernel
theorem dX9_just_58 : decode cX9_just 58 = .ok (.invokevirtual 216, 3) := by decide +kernel
theorem dX9_just_61 : decode cX9_just 61 = .ok (.iload_n 2, 1) := by decide +kernel
theorem dX9_just_62 : decode cX9_just 62 = .ok (.if_icmp .ne 6, 3) := by decide +kernel
theorem dX9_just_65 : decode cX9_just 65 = .ok (.iload 4, 2) := by decide +kernel
theorem dX9_just_67 : decode cX9_just 67 = .ok (.ireturn, 1) := by decide +kernel
theorem dX9_just_68 : decode cX9_just 68 = .ok (.iinc 4 1, 3) := by decide +kernel
theorem dX9_just_71 : decode cX9_just 71 = .ok (.goto (-27), 3) := by decide +kernel
theorem dX9_just_74 : decode cX9_just 74 = .ok (.ldc 219, 2) := by decide +kernel
theorem dX9_just_76 : decode cX9_just 76 = .ok (.ireturn, 1) := by decide +kernel
theorem dX9_sorry_0 : decode cX9_sorry 0 = .ok (.aload_n 0, 1) := by decide +kernel
theorem dX9_sorry_1 : decode cX9_sorry 1 = .ok (.iload_n 1, 1) := by decide +kernel
theorem dX9_sorry_2 : decode cX9_sorry 2 = .ok (.invokevirtual 87, 3) := by decide +kernel
theorem dX9_sorry_5 : decode cX9_sorry 5 = .ok (.ifCond .eq 11, 3) := by decide +kernel
theorem dX9_sorry_8 : decode cX9_sorry 8 = .ok (.aload_n 0, 1) := by decide +kernel
theorem dX9_sorry_9 : decode cX9_sorry 9 = .ok (.iload_n 2, 1) := by decide +kernel
theorem dX9_sorry_10 : decode cX9_sorry 10 = .ok (.invokevirtual 132, 3) := by decide +kernel
theorem dX9_sorry_13 : decode cX9_sorry 13 = .ok (.ifCond .ne 6, 3) := by decide +kernel
theorem dX9_sorry_16 : decode cX9_sorry 16 = .ok (.ldc 71, 2) := by decide +kernel
theorem dX9_sorry_18 : decode cX9_sorry 18 = .ok (.ireturn, 1) := by decide +kernel
theorem dX9_sorry_19 : decode cX9_sorry 19 = .ok (.aload_n 0, 1) := by decide +kernel
theorem dX9_sorry_20 : decode cX9_sorry 20 = .ok (.getfield 10, 3) := by decide +kernel
theorem dX9_sorry_23 : decode cX9_sorry 23 = .ok (.getfield 77, 3) := by decide +kernel
theorem dX9_sorry_26 : decode cX9_sorry 26 = .ok (.iload_n 1, 1) := by decide +kernel
theorem dX9_sorry_27 : decode cX9_sorry 27 = .ok (.aaload, 1) := by decide +kernel
theorem dX9_sorry_28 : decode cX9_sorry 28 = .ok (.astore_n 3, 1) := by decide +kernel
theorem dX9_sorry_29 : decode cX9_sorry 29 = .ok (.aload_n 0, 1) := by decide +kernel
theorem dX9_sorry_30 : decode cX9_sorry 30 = .ok (.getfield 10, 3) := by decide +kernel
theorem dX9_sorry_33 : decode cX9_sorry 33 = .ok (.getfield 123, 3) := by decide +kernel
theorem dX9_sorry_36 : decode cX9_sorry 36 = .ok (.iload_n 2, 1) := by decide +kernel
theorem dX9_sorry_37 : decode cX9_sorry 37 = .ok (.aaload, 1) := by decide +kernel
theorem dX9_sorry_38 : decode cX9_sorry 38 = .ok (.astore 4, 2) := by decide +kernel
theorem dX9_sorry_40 : decode cX9_sorry 40 = .ok (.aload_n 3, 1) := by decide +kernel
theorem dX9_sorry_41 : decode cX9_sorry 41 = .ok (.getfield 96, 3) := by decide +kernel
theorem dX9_sorry_44 : decode cX9_sorry 44 = .ok (.aload 4, 2) := by decide +kernel
theorem dX9_sorry_46 : decode cX9_sorry 46 = .ok (.getfield 141, 3) := by decide +kernel
theorem dX9_sorry_49 : decode cX9_sorry 49 = .ok (.iaload, 1) := by decide +kernel
theorem dX9_sorry_50 : decode cX9_sorry 50 = .ok (.istore 5, 2) := by decide +kernel
theorem dX9_sorry_52 : decode cX9_sorry 52 = .ok (.iconst 0, 1) := by decide +kernel
theorem dX9_sorry_53 : decode cX9_sorry 53 = .ok (.istore 6, 2) := by decide +kernel
theorem dX9_sorry_55 : decode cX9_sorry 55 = .ok (.iload 5, 2) := by decide +kernel
theorem dX9_sorry_57 : decode cX9_sorry 57 = .ok (.iload 6, 2) := by decide +kernel
theorem dX9_sorry_59 : decode cX9_sorry 59 = .ok (.iadd, 1) := by decide +kernel
theorem dX9_sorry_60 : decode cX9_sorry 60 = .ok (.bipush 99, 2) := by decide +kernel
theorem dX9_sorry_62 : decode cX9_sorry 62 = .ok (.if_icmp .gt 32, 3) := by decide +kernel
theorem dX9_sorry_65 : decode cX9_sorry 65 = .ok (.aload_n 3, 1) := by decide +kernel
theorem dX9_sorry_66 : decode cX9_sorry 66 = .ok (.getfield 90, 3) := by decide +kernel
theorem dX9_sorry_69 : decode cX9_sorry 69 = .ok (.iload 5, 2) := by decide +kernel
theorem dX9_sorry_71 : decode cX9_sorry 71 = .ok (.iload 6, 2) := by decide +kernel
theorem dX9_sorry_73 : decode cX9_sorry 73 = .ok (.iadd, 1) := by decide +kernel
theorem dX9_sorry_74 : decode cX9_sorry 74 = .ok (.invokestatic 220, 3) := by decide +kernel
theorem dX9_sorry_77 : decode cX9_sorry 77 = .ok (.aload 4, 2) := by decide +kernel
theorem dX9_sorry_79 : decode cX9_sorry 79 = .ok (.getfield 144, 3) := by decide +kernel
theorem dX9_sorry_82 : decode cX9_sorry 82 = .ok (.if_icmp .lt 6, 3) := by decide +kernel
theorem dX9_sorry_85 : decode cX9_sorry 85 = .ok (.iload 6, 2) := by decide +kernel
theorem dX9_sorry_87 : decode cX9_sorry 87 = .ok (.ireturn, 1) := by decide +kernel
theorem dX9_sorry_88 : decode cX9_sorry 88 = .ok (.iinc 6 1, 3) := by decide +kernel
theorem dX9_sorry_91 : decode cX9_sorry 91 = .ok (.goto (-36), 3) := by decide +kernel
theorem dX9_sorry_94 : decode cX9_sorry 94 = .ok (.ldc 219, 2) := by decide +kernel
theorem dX9_sorry_96 : decode cX9_sorry 96 = .ok (.ireturn, 1) := by decide +kernel
theorem dX9_behind_0 : decode cX9_behind 0 = .ok (.iload_n 1, 1) := by decide +kernel
theorem dX9_behind_1 : decode cX9_behind 1 = .ok (.ifCond .lt 26, 3) := by decide +kernel
theorem dX9_behind_4 : decode cX9_behind 4 = .ok (.iload_n 1, 1) := by decide +kernel
theorem dX9_behind_5 : decode cX9_behind 5 = .ok (.bipush 100, 2) := by decide +kernel
theorem dX9_behind_7 : decode cX9_behind 7 = .ok (.if_icmp .gt 20, 3) := by decide +kernel
theorem dX9_behind_10 : decode cX9_behind 10 = .ok (.iload_n 2, 1) := by decide +kernel
theorem dX9_behind_11 : decode cX9_behind 11 = .ok (.ifCond .lt 16, 3) := by decide +kernel
theorem dX9_behind_14 : decode cX9_behind 14 = .ok (.iload_n 2, 1) := by decide +kernel
theorem dX9_behind_15 : decode cX9_behind 15 = .ok (.iconst 3, 1) := by decide +kernel
theorem dX9_behind_16 : decode cX9_behind 16 = .ok (.aload_n 0, 1) := by decide +kernel
theorem dX9_behind_17 : decode cX9_behind 17 = .ok (.getfield 10, 3) := by decide +kernel
theorem dX9_behind_20 : decode cX9_behind 20 = .ok (.getfield 72, 3) := by decide +kernel
theorem dX9_behind_23 : decode cX9_behind 23 = .ok (.iadd, 1) := by decide +kernel
theorem dX9_behind_24 : decode cX9_behind 24 = .ok (.if_icmp .lt 6, 3) := by decide +kernel
theorem dX9_behind_27 : decode cX9_behind 27 = .ok (.ldc 71, 2) := by decide +kernel
theorem dX9_behind_29 : decode cX9_behind 29 = .ok (.ireturn, 1) := by decide +kernel
theorem dX9_behind_30 : decode cX9_behind 30 = .ok (.aload_n 0, 1) := by decide +kernel
theorem dX9_behind_31 : decode cX9_behind 31 = .ok (.getfield 19, 3) := by decide +kernel
theorem dX9_behind_34 : decode cX9_behind 34 = .ok (.aload_n 0, 1) := by decide +kernel
theorem dX9_behind_35 : decode cX9_behind 35 = .ok (.getfield 10, 3) := by decide +kernel
theorem dX9_behind_38 : decode cX9_behind 38 = .ok (.invokevirtual 223, 3) := by decide +kernel
theorem dX9_behind_41 : decode cX9_behind 41 = .ok (.iconst 0, 1) := by decide +kernel
theorem dX9_behind_42 : decode cX9_behind 42 = .ok (.istore_n 3, 1) := by decide +kernel
theorem dX9_behind_43 : decode cX9_behind 43 = .ok (.iload_n 3, 1) := by decide +kernel
theorem dX9_behind_44 : decode cX9_behind 44 = .ok (.iload_n 1, 1) := by decide +kernel
theorem dX9_behind_45 : decode cX9_behind 45 = .ok (.if_icmp .ge 16, 3) := by decide +kernel
theorem dX9_behind_48 : decode cX9_behind 48 = .ok (.aload_n 0, 1) := by decide +kernel
theorem dX9_behind_49 : decode cX9_behind 49 = .ok (.getfield 19, 3) := by decide +kernel
theorem dX9_behind_52 : decode cX9_behind 52 = .ok (.invokevirtual 191, 3) := by decide +kernel
theorem dX9_behind_55 : decode cX9_behind 55 = .ok (.iinc 3 1, 3) := by decide +kernel
theorem dX9_behind_58 : decode cX9_behind 58 = .ok (.goto (-15), 3) := by decide +kernel
theorem dX9_behind_61 : decode cX9_behind 61 = .ok (.iload_n 2, 1) := by decide +kernel
theorem dX9_behind_62 : decode cX9_behind 62 = .ok (.tableswitch 50 0 2 #[26, 34, 42], 26) := by decide +kernel
theorem dX9_behind_88 : decode cX9_behind 88 = .ok (.aload_n 0, 1) := by decide +kernel
theorem dX9_behind_89 : decode cX9_behind 89 = .ok (.getfield 19, 3) := by decide +kernel
theorem dX9_behind_92 : decode cX9_behind 92 = .ok (.getfield 185, 3) := by decide +kernel
theorem dX9_behind_95 : decode cX9_behind 95 = .ok (.ireturn, 1) := by decide +kernel
theorem dX9_behind_96 : decode cX9_behind 96 = .ok (.aload_n 0, 1) := by decide +kernel
theorem dX9_behind_97 : decode cX9_behind 97 = .ok (.getfield 19, 3) := by decide +kernel
theorem dX9_behind_100 : decode cX9_behind 100 = .ok (.getfield 194, 3) := by decide +kernel
theorem dX9_behind_103 : decode cX9_behind 103 = .ok (.ireturn, 1) := by decide +kernel
theorem dX9_behind_104 : decode cX9_behind 104 = .ok (.aload_n 0, 1) := by decide +kernel
theorem dX9_behind_105 : decode cX9_behind 105 = .ok (.getfield 19, 3) := by decide +kernel
theorem dX9_behind_108 : decode cX9_behind 108 = .ok (.getfield 197, 3) := by decide +kernel
theorem dX9_behind_111 : decode cX9_behind 111 = .ok (.ireturn, 1) := by decide +kernel
theorem dX9_behind_112 : decode cX9_behind 112 = .ok (.aload_n 0, 1) := by decide +kernel
theorem dX9_behind_113 : decode cX9_behind 113 = .ok (.getfield 19, 3) := by decide +kernel
theorem dX9_behind_116 : decode cX9_behind 116 = .ok (.getfield 77, 3) := by decide +kernel
theorem dX9_behind_119 : decode cX9_behind 119 = .ok (.iload_n 2, 1) := by decide +kernel
theorem dX9_behind_120 : decode cX9_behind 120 = .ok (.iconst 3, 1) := by decide +kernel
theorem dX9_behind_121 : decode cX9_behind 121 = .ok (.isub, 1) := by decide +kernel
theorem dX9_behind_122 : decode cX9_behind 122 = .ok (.aaload, 1) := by decide +kernel
theorem dX9_behind_123 : decode cX9_behind 123 = .ok (.getfield 93, 3) := by decide +kernel
theorem dX9_behind_126 : decode cX9_behind 126 = .ok (.ireturn, 1) := by decide +kernel
theorem dX9_enters_0 : decode cX9_enters 0 = .ok (.aload_n 0, 1) := by decide +kernel
theorem dX9_enters_1 : decode cX9_enters 1 = .ok (.iload_n 1, 1) := by decide +kernel
theorem dX9_enters_2 : decode cX9_enters 2 = .ok (.invokevirtual 87, 3) := by decide +kernel
theorem dX9_enters_5 : decode cX9_enters 5 = .ok (.ifCond .eq 10, 3) := by decide +kernel
theorem dX9_enters_8 : decode cX9_enters 8 = .ok (.iload_n 2, 1) := by decide +kernel
theorem dX9_enters_9 : decode cX9_enters 9 = .ok (.invokestatic 65, 3) := by decide +kernel
theorem dX9_enters_12 : decode cX9_enters 12 = .ok (.ifCond .ne 6, 3) := by decide +kernel
theorem dX9_enters_15 : decode cX9_enters 15 = .ok (.ldc 71, 2) := by decide +kernel
theorem dX9_enters_17 : decode cX9_enters 17 = .ok (.ireturn, 1) := by decide +kernel
theorem dX9_enters_18 : decode cX9_enters 18 = .ok (.aload_n 0, 1) := by decide +kernel
theorem dX9_enters_19 : decode cX9_enters 19 = .ok (.getfield 19, 3) := by decide +kernel
theorem dX9_enters_22 : decode cX9_enters 22 = .ok (.aload_n 0, 1) := by decide +kernel
theorem dX9_enters_23 : decode cX9_enters 23 = .ok (.getfield 10, 3) := by decide +kernel
theorem dX9_enters_26 : decode cX9_enters 26 = .ok (.invokevirtual 223, 3) := by decide +kernel
theorem dX9_enters_29 : decode cX9_enters 29 = .ok (.iconst 0, 1) := by decide +kernel
theorem dX9_enters_30 : decode cX9_enters 30 = .ok (.istore_n 3, 1) := by decide +kernel
theorem dX9_enters_31 : decode cX9_enters 31 = .ok (.iload_n 3, 1) := by decide +kernel
theorem dX9_enters_32 : decode cX9_enters 32 = .ok (.sipush 200, 3) := by decide +kernel
theorem dX9_enters_35 : decode cX9_enters 35 = .ok (.if_icmp .gt 34, 3) := by decide +kernel
theorem dX9_enters_38 : decode cX9_enters 38 = .ok (.aload_n 0, 1) := by decide +kernel
theorem dX9_enters_39 : decode cX9_enters 39 = .ok (.getfield 19, 3) := by decide +kernel
theorem dX9_enters_42 : decode cX9_enters 42 = .ok (.getfield 77, 3) := by decide +kernel
theorem dX9_enters_45 : decode cX9_enters 45 = .ok (.iload_n 1, 1) := by decide +kernel
theorem dX9_enters_46 : decode cX9_enters 46 = .ok (.aaload, 1) := by decide +kernel
theorem dX9_enters_47 : decode cX9_enters 47 = .ok (.getfield 93, 3) := by decide +kernel
theorem dX9_enters_50 : decode cX9_enters 50 = .ok (.iload_n 2, 1) := by decide +kernel
theorem dX9_enters_51 : decode cX9_enters 51 = .ok (.if_icmp .ne 5, 3) := by decide +kernel
theorem dX9_enters_54 : decode cX9_enters 54 = .ok (.iload_n 3, 1) := by decide +kernel
theorem dX9_enters_55 : decode cX9_enters 55 = .ok (.ireturn, 1) := by decide +kernel
theorem dX9_enters_56 : decode cX9_enters 56 = .ok (.aload_n 0, 1) := by decide +kernel
theorem dX9_enters_57 : decode cX9_enters 57 = .ok (.getfield 19, 3) := by decide +kernel
theorem dX9_enters_60 : decode cX9_enters 60 = .ok (.invokevirtual 191, 3) := by decide +kernel
theorem dX9_enters_63 : decode cX9_enters 63 = .ok (.iinc 3 1, 3) := by decide +kernel
theorem dX9_enters_66 : decode cX9_enters 66 = .ok (.goto (-35), 3) := by decide +kernel
theorem dX9_enters_69 : decode cX9_enters 69 = .ok (.ldc 219, 2) := by decide +kernel
theorem dX9_enters_71 : decode cX9_enters 71 = .ok (.ireturn, 1) := by decide +kernel
theorem dX9_freed_0 : decode cX9_freed 0 = .ok (.iload_n 1, 1) := by decide +kernel
theorem dX9_freed_1 : decode cX9_freed 1 = .ok (.iconst 1, 1) := by decide +kernel
theorem dX9_freed_2 : decode cX9_freed 2 = .ok (.if_icmp .lt 18, 3) := by decide +kernel
theorem dX9_freed_5 : decode cX9_freed 5 = .ok (.iload_n 1, 1) := by decide +kernel
theorem dX9_freed_6 : decode cX9_freed 6 = .ok (.bipush 60, 2) := by decide +kernel
theorem dX9_freed_8 : decode cX9_freed 8 = .ok (.if_icmp .gt 12, 3) := by decide +kernel
theorem dX9_freed_11 : decode cX9_freed 11 = .ok (.iload_n 2, 1) := by decide +kernel
theorem dX9_freed_12 : decode cX9_freed 12 = .ok (.ifCond .lt 8, 3) := by decide +kernel
theorem dX9_freed_15 : decode cX9_freed 15 = .ok (.iload_n 2, 1) := by decide +kernel
theorem dX9_freed_16 : decode cX9_freed 16 = .ok (.iconst 1, 1) := by decide +kernel
theorem dX9_freed_17 : decode cX9_freed 17 = .ok (.if_icmp .le 6, 3) := by decide +kernel
theorem dX9_freed_20 : decode cX9_freed 20 = .ok (.ldc 71, 2) := by decide +kernel
theorem dX9_freed_22 : decode cX9_freed 22 = .ok (.ireturn, 1) := by decide +kernel
theorem dX9_freed_23 : decode cX9_freed 23 = .ok (.aload_n 0, 1) := by decide +kernel
theorem dX9_freed_24 : decode cX9_freed 24 = .ok (.getfield 10, 3) := by decide +kernel
theorem dX9_freed_27 : decode cX9_freed 27 = .ok (.getfield 120, 3) := by decide +kernel
theorem dX9_freed_30 : decode cX9_freed 30 = .ok (.ifCond .ne 6, 3) := by decide +kernel
theorem dX9_freed_33 : decode cX9_freed 33 = .ok (.ldc 219, 2) := by decide +kernel
theorem dX9_freed_35 : decode cX9_freed 35 = .ok (.ireturn, 1) := by decide +kernel
theorem dX9_freed_36 : decode cX9_freed 36 = .ok (.iconst 0, 1) := by decide +kernel
theorem dX9_freed_37 : decode cX9_freed 37 = .ok (.istore_n 3, 1) := by decide +kernel
theorem dX9_freed_38 : decode cX9_freed 38 = .ok (.iconst (-1), 1) := by decide +kernel
theorem dX9_freed_39 : decode cX9_freed 39 = .ok (.istore 4, 2) := by decide +kernel
theorem dX9_freed_41 : decode cX9_freed 41 = .ok (.iconst 0, 1) := by decide +kernel
theorem dX9_freed_42 : decode cX9_freed 42 = .ok (.istore 5, 2) := by decide +kernel
theorem dX9_freed_44 : decode cX9_freed 44 = .ok (.iload 5, 2) := by decide +kernel
theorem dX9_freed_46 : decode cX9_freed 46 = .ok (.aload_n 0, 1) := by decide +kernel
theorem dX9_freed_47 : decode cX9_freed 47 = .ok (.getfield 10, 3) := by decide +kernel
theorem dX9_freed_50 : decode cX9_freed 50 = .ok (.getfield 120, 3) := by decide +kernel
theorem dX9_freed_53 : decode cX9_freed 53 = .ok (.if_icmp .ge 55, 3) := by decide +kernel
theorem dX9_freed_56 : decode cX9_freed 56 = .ok (.aload_n 0, 1) := by decide +kernel
theorem dX9_freed_57 : decode cX9_freed 57 = .ok (.getfield 19, 3) := by decide +kernel
theorem dX9_freed_60 : decode cX9_freed 60 = .ok (.aload_n 0, 1) := by decide +kernel
theorem dX9_freed_61 : decode cX9_freed 61 = .ok (.getfield 10, 3) := by decide +kernel
theorem dX9_freed_64 : decode cX9_freed 64 = .ok (.invokevirtual 223, 3) := by decide +kernel
theorem dX9_freed_67 : decode cX9_freed 67 = .ok (.aload_n 0, 1) := by decide +kernel
theorem dX9_freed_68 : decode cX9_freed 68 = .ok (.getfield 19, 3) := by decide +kernel
theorem dX9_freed_71 : decode cX9_freed 71 = .ok (.getfield 123, 3) := by decide +kernel
theorem dX9_freed_74 : decode cX9_freed 74 = .ok (.iload 5, 2) := by decide +kernel
theorem dX9_freed_76 : decode cX9_freed 76 = .ok (.aaload, 1) := by decide +kernel
theorem dX9_freed_77 : decode cX9_freed 77 = .ok (.iconst 0, 1) := by decide +kernel
theorem dX9_freed_78 : decode cX9_freed 78 = .ok (.putfield 144, 3) := by decide +kernel
theorem dX9_freed_81 : decode cX9_freed 81 = .ok (.aload_n 0, 1) := by decide +kernel
theorem dX9_freed_82 : decode cX9_freed 82 = .ok (.iload_n 1, 1) := by decide +kernel
theorem dX9_freed_83 : decode cX9_freed 83 = .ok (.invokevirtual 227, 3) := by decide +kernel
theorem dX9_freed_86 : decode cX9_freed 86 = .ok (.istore 6, 2) := by decide +kernel
theorem dX9_freed_88 : decode cX9_freed 88 = .ok (.iload 6, 2) := by decide +kernel
theorem dX9_freed_90 : decode cX9_freed 90 = .ok (.iload 4, 2) := by decide +kernel
theorem dX9_freed_92 : decode cX9_freed 92 = .ok (.if_icmp .le 10, 3) := by decide +kernel
theorem dX9_freed_95 : decode cX9_freed 95 = .ok (.iload 5, 2) := by decide +kernel
theorem dX9_freed_97 : decode cX9_freed 97 = .ok (.istore_n 3, 1) := by decide +kernel
theorem dX9_freed_98 : decode cX9_freed 98 = .ok (.iload 6, 2) := by decide +kernel
theorem dX9_freed_100 : decode cX9_freed 100 = .ok (.istore 4, 2) := by decide +kernel
theorem dX9_freed_102 : decode cX9_freed 102 = .ok (.iinc 5 1, 3) := by decide +kernel
theorem dX9_freed_105 : decode cX9_freed 105 = .ok (.goto (-61), 3) := by decide +kernel
theorem dX9_freed_108 : decode cX9_freed 108 = .ok (.iload_n 2, 1) := by decide +kernel
theorem dX9_freed_109 : decode cX9_freed 109 = .ok (.ifCond .ne 7, 3) := by decide +kernel
theorem dX9_freed_112 : decode cX9_freed 112 = .ok (.iload_n 3, 1) := by decide +kernel
theorem dX9_freed_113 : decode cX9_freed 113 = .ok (.goto 5, 3) := by decide +kernel
theorem dX9_freed_116 : decode cX9_freed 116 = .ok (.iload 4, 2) := by decide +kernel
theorem dX9_freed_118 : decode cX9_freed 118 = .ok (.ireturn, 1) := by decide +kernel
theorem dX9_becomes_0 : decode cX9_becomes 0 = .ok (.aload_n 0, 1) := by decide +kernel
theorem dX9_becomes_1 : decode cX9_becomes 1 = .ok (.iload_n 1, 1) := by decide +kernel
theorem dX9_becomes_2 : decode cX9_becomes 2 = .ok (.invokevirtual 87, 3) := by decide +kernel
theorem dX9_becomes_5 : decode cX9_becomes 5 = .ok (.ifCond .eq 23, 3) := by decide +kernel
theorem dX9_becomes_8 : decode cX9_becomes 8 = .ok (.iload_n 2, 1) := by decide +kernel
theorem dX9_becomes_9 : decode cX9_becomes 9 = .ok (.iconst 1, 1) := by decide +kernel
theorem dX9_becomes_10 : decode cX9_becomes 10 = .ok (.if_icmp .lt 18, 3) := by decide +kernel
theorem dX9_becomes_13 : decode cX9_becomes 13 = .ok (.iload_n 2, 1) := by decide +kernel
theorem dX9_becomes_14 : decode cX9_becomes 14 = .ok (.bipush 60, 2) := by decide +kernel
theorem dX9_becomes_16 : decode cX9_becomes 16 = .ok (.if_icmp .gt 12, 3) := by decide +kernel
theorem dX9_becomes_19 : decode cX9_becomes 19 = .ok (.iload_n 3, 1) := by decide +kernel
theorem dX9_becomes_20 : decode cX9_becomes 20 = .ok (.ifCond .lt 8, 3) := by decide +kernel
theorem dX9_becomes_23 : decode cX9_becomes 23 = .ok (.iload_n 3, 1) := by decide +kernel
theorem dX9_becomes_24 : decode cX9_becomes 24 = .ok (.iconst 1, 1) := by decide +kernel
theorem dX9_becomes_25 : decode cX9_becomes 25 = .ok (.if_icmp .le 6, 3) := by decide +kernel
theorem dX9_becomes_28 : decode cX9_becomes 28 = .ok (.ldc 71, 2) := by decide +kernel
theorem dX9_becomes_30 : decode cX9_becomes 30 = .ok (.ireturn, 1) := by decide +kernel
theorem dX9_becomes_31 : decode cX9_becomes 31 = .ok (.iconst 0, 1) := by decide +kernel
theorem dX9_becomes_32 : decode cX9_becomes 32 = .ok (.istore 4, 2) := by decide +kernel
theorem dX9_becomes_34 : decode cX9_becomes 34 = .ok (.iconst (-1), 1) := by decide +kernel
theorem dX9_becomes_35 : decode cX9_becomes 35 = .ok (.istore 5, 2) := by decide +kernel
theorem dX9_becomes_37 : decode cX9_becomes 37 = .ok (.iconst 0, 1) := by decide +kernel
theorem dX9_becomes_38 : decode cX9_becomes 38 = .ok (.istore 6, 2) := by decide +kernel
theorem dX9_becomes_40 : decode cX9_becomes 40 = .ok (.iload 6, 2) := by decide +kernel
theorem dX9_becomes_42 : decode cX9_becomes 42 = .ok (.bipush 6, 2) := by decide +kernel
theorem dX9_becomes_44 : decode cX9_becomes 44 = .ok (.if_icmp .ge 56, 3) := by decide +kernel
theorem dX9_becomes_47 : decode cX9_becomes 47 = .ok (.aload_n 0, 1) := by decide +kernel
theorem dX9_becomes_48 : decode cX9_becomes 48 = .ok (.getfield 19, 3) := by decide +kernel
theorem dX9_becomes_51 : decode cX9_becomes 51 = .ok (.aload_n 0, 1) := by decide +kernel
theorem dX9_becomes_52 : decode cX9_becomes 52 = .ok (.getfield 10, 3) := by decide +kernel
theorem dX9_becomes_55 : decode cX9_becomes 55 = .ok (.invokevirtual 223, 3) := by decide +kernel
theorem dX9_becomes_58 : decode cX9_becomes 58 = .ok (.aload_n 0, 1) := by decide +kernel
theorem dX9_becomes_59 : decode cX9_becomes 59 = .ok (.getfield 19, 3) := by decide +kernel
theorem dX9_becomes_62 : decode cX9_becomes 62 = .ok (.getfield 77, 3) := by decide +kernel
theorem dX9_becomes_65 : decode cX9_becomes 65 = .ok (.iload_n 1, 1) := by decide +kernel
theorem dX9_becomes_66 : decode cX9_becomes 66 = .ok (.aaload, 1) := by decide +kernel
theorem dX9_becomes_67 : decode cX9_becomes 67 = .ok (.iload 6, 2) := by decide +kernel
theorem dX9_becomes_69 : decode cX9_becomes 69 = .ok (.putfield 90, 3) := by decide +kernel
theorem dX9_becomes_72 : decode cX9_becomes 72 = .ok (.aload_n 0, 1) := by decide +kernel
theorem dX9_becomes_73 : decode cX9_becomes 73 = .ok (.iload_n 2, 1) := by decide +kernel
theorem dX9_becomes_74 : decode cX9_becomes 74 = .ok (.invokevirtual 227, 3) := by decide +kernel
theorem dX9_becomes_77 : decode cX9_becomes 77 = .ok (.istore 7, 2) := by decide +kernel
theorem dX9_becomes_79 : decode cX9_becomes 79 = .ok (.iload 7, 2) := by decide +kernel
theorem dX9_becomes_81 : decode cX9_becomes 81 = .ok (.iload 5, 2) := by decide +kernel
theorem dX9_becomes_83 : decode cX9_becomes 83 = .ok (.if_icmp .le 11, 3) := by decide +kernel
theorem dX9_becomes_86 : decode cX9_becomes 86 = .ok (.iload 6, 2) := by decide +kernel
theorem dX9_becomes_88 : decode cX9_becomes 88 = .ok (.istore 4, 2) := by decide +kernel
theorem dX9_becomes_90 : decode cX9_becomes 90 = .ok (.iload 7, 2) := by decide +kernel
theorem dX9_becomes_92 : decode cX9_becomes 92 = .ok (.istore 5, 2) := by decide +kernel
theorem dX9_becomes_94 : decode cX9_becomes 94 = .ok (.iinc 6 1, 3) := by decide +kernel
theorem dX9_becomes_97 : decode cX9_becomes 97 = .ok (.goto (-57), 3) := by decide +kernel
theorem dX9_becomes_100 : decode cX9_becomes 100 = .ok (.iload_n 3, 1) := by decide +kernel
theorem dX9_becomes_101 : decode cX9_becomes 101 = .ok (.ifCond .ne 8, 3) := by decide +kernel
theorem dX9_becomes_104 : decode cX9_becomes 104 = .ok (.iload 4, 2) := by decide +kernel
theorem dX9_becomes_106 : decode cX9_becomes 106 = .ok (.goto 5, 3) := by decide +kernel
theorem dX9_becomes_109 : decode cX9_becomes 109 = .ok (.iload 5, 2) := by decide +kernel
theorem dX9_becomes_111 : decode cX9_becomes 111 = .ok (.ireturn, 1) := by decide +kernel
theorem dX9_like_0 : decode cX9_like 0 = .ok (.iload_n 1, 1) := by decide +kernel
theorem dX9_like_1 : decode cX9_like 1 = .ok (.invokestatic 230, 3) := by decide +kernel
theorem dX9_like_4 : decode cX9_like 4 = .ok (.ifCond .eq 12, 3) := by decide +kernel
theorem dX9_like_7 : decode cX9_like 7 = .ok (.iload_n 2, 1) := by decide +kernel
theorem dX9_like_8 : decode cX9_like 8 = .ok (.ifCond .lt 8, 3) := by decide +kernel
theorem dX9_like_11 : decode cX9_like 11 = .ok (.iload_n 2, 1) := by decide +kernel
theorem dX9_like_12 : decode cX9_like 12 = .ok (.iconst 1, 1) := by decide +kernel
theorem dX9_like_13 : decode cX9_like 13 = .ok (.if_icmp .le 6, 3) := by decide +kernel
theorem dX9_like_16 : decode cX9_like 16 = .ok (.ldc 71, 2) := by decide +kernel
theorem dX9_like_18 : decode cX9_like 18 = .ok (.ireturn, 1) := by decide +kernel
theorem dX9_like_19 : decode cX9_like 19 = .ok (.aload_n 0, 1) := by decide +kernel
theorem dX9_like_20 : decode cX9_like 20 = .ok (.getfield 42, 3) := by decide +kernel
theorem dX9_like_23 : decode cX9_like 23 = .ok (.iload_n 1, 1) := by decide +kernel
theorem dX9_like_24 : decode cX9_like 24 = .ok (.aaload, 1) := by decide +kernel
theorem dX9_like_25 : decode cX9_like 25 = .ok (.invokevirtual 233, 3) := by decide +kernel
theorem dX9_like_28 : decode cX9_like 28 = .ok (.ifCond .eq 6, 3) := by decide +kernel
theorem dX9_like_31 : decode cX9_like 31 = .ok (.ldc 237, 2) := by decide +kernel
theorem dX9_like_33 : decode cX9_like 33 = .ok (.ireturn, 1) := by decide +kernel
theorem dX9_like_34 : decode cX9_like 34 = .ok (.aload_n 0, 1) := by decide +kernel
theorem dX9_like_35 : decode cX9_like 35 = .ok (.getfield 10, 3) := by decide +kernel
theorem dX9_like_38 : decode cX9_like 38 = .ok (.getfield 72, 3) := by decide +kernel
theorem dX9_like_41 : decode cX9_like 41 = .ok (.ifCond .ne 6, 3) := by decide +kernel
theorem dX9_like_44 : decode cX9_like 44 = .ok (.ldc 219, 2) := by decide +kernel
theorem dX9_like_46 : decode cX9_like 46 = .ok (.ireturn, 1) := by decide +kernel
theorem dX9_like_47 : decode cX9_like 47 = .ok (.aload_n 0, 1) := by decide +kernel
theorem dX9_like_48 : decode cX9_like 48 = .ok (.aload_n 0, 1) := by decide +kernel
theorem dX9_like_49 : decode cX9_like 49 = .ok (.getfield 42, 3) := by decide +kernel
theorem dX9_like_52 : decode cX9_like 52 = .ok (.iload_n 1, 1) := by decide +kernel
theorem dX9_like_53 : decode cX9_like 53 = .ok (.aaload, 1) := by decide +kernel
theorem dX9_like_54 : decode cX9_like 54 = .ok (.invokevirtual 238, 3) := by decide +kernel
theorem dX9_like_57 : decode cX9_like 57 = .ok (.iconst 0, 1) := by decide +kernel
theorem dX9_like_58 : decode cX9_like 58 = .ok (.istore_n 3, 1) := by decide +kernel
theorem dX9_like_59 : decode cX9_like 59 = .ok (.iconst 1, 1) := by decide +kernel
theorem dX9_like_60 : decode cX9_like 60 = .ok (.istore 4, 2) := by decide +kernel
theorem dX9_like_62 : decode cX9_like 62 = .ok (.iload 4, 2) := by decide +kernel
theorem dX9_like_64 : decode cX9_like 64 = .ok (.aload_n 0, 1) := by decide +kernel
theorem dX9_like_65 : decode cX9_like 65 = .ok (.getfield 10, 3) := by decide +kernel
theorem dX9_like_68 : decode cX9_like 68 = .ok (.getfield 72, 3) := by decide +kernel
theorem dX9_like_71 : decode cX9_like 71 = .ok (.if_icmp .ge 28, 3) := by decide +kernel
theorem dX9_like_74 : decode cX9_like 74 = .ok (.aload_n 0, 1) := by decide +kernel
theorem dX9_like_75 : decode cX9_like 75 = .ok (.getfield 56, 3) := by decide +kernel
theorem dX9_like_78 : decode cX9_like 78 = .ok (.iload 4, 2) := by decide +kernel
theorem dX9_like_80 : decode cX9_like 80 = .ok (.iaload, 1) := by decide +kernel
theorem dX9_like_81 : decode cX9_like 81 = .ok (.aload_n 0, 1) := by decide +kernel
theorem dX9_like_82 : decode cX9_like 82 = .ok (.getfield 56, 3) := by decide +kernel
theorem dX9_like_85 : decode cX9_like 85 = .ok (.iload_n 3, 1) := by decide +kernel
theorem dX9_like_86 : decode cX9_like 86 = .ok (.iaload, 1) := by decide +kernel
theorem dX9_like_87 : decode cX9_like 87 = .ok (.if_icmp .le 6, 3) := by decide +kernel
theorem dX9_like_90 : decode cX9_like 90 = .ok (.iload 4, 2) := by decide +kernel
theorem dX9_like_92 : decode cX9_like 92 = .ok (.istore_n 3, 1) := by decide +kernel
theorem dX9_like_93 : decode cX9_like 93 = .ok (.iinc 4 1, 3) := by decide +kernel
theorem dX9_like_96 : decode cX9_like 96 = .ok (.goto (-34), 3) := by decide +kernel
theorem dX9_like_99 : decode cX9_like 99 = .ok (.iload_n 2, 1) := by decide +kernel
theorem dX9_like_100 : decode cX9_like 100 = .ok (.ifCond .ne 7, 3) := by decide +kernel
theorem dX9_like_103 : decode cX9_like 103 = .ok (.iload_n 3, 1) := by decide +kernel
theorem dX9_like_104 : decode cX9_like 104 = .ok (.goto 9, 3) := by decide +kernel
theorem dX9_like_107 : decode cX9_like 107 = .ok (.aload_n 0, 1) := by decide +kernel
theorem dX9_like_108 : decode cX9_like 108 = .ok (.getfield 56, 3) := by decide +kernel
theorem dX9_like_111 : decode cX9_like 111 = .ok (.iload_n 3, 1) := by decide +kernel
theorem dX9_like_112 : decode cX9_like 112 = .ok (.iaload, 1) := by decide +kernel
theorem dX9_like_113 : decode cX9_like 113 = .ok (.ireturn, 1) := by decide +kernel
theorem dX9_fee_0 : decode cX9_fee 0 = .ok (.aload_n 0, 1) := by decide +kernel
theorem dX9_fee_1 : decode cX9_fee 1 = .ok (.getfield 10, 3) := by decide +kernel
theorem dX9_fee_4 : decode cX9_fee 4 = .ok (.getfield 242, 3) := by decide +kernel
theorem dX9_fee_7 : decode cX9_fee 7 = .ok (.iconst 1, 1) := by decide +kernel
theorem dX9_fee_8 : decode cX9_fee 8 = .ok (.aaload, 1) := by decide +kernel
theorem dX9_fee_9 : decode cX9_fee 9 = .ok (.astore_n 1, 1) := by decide +kernel
theorem dX9_fee_10 : decode cX9_fee 10 = .ok (.aload_n 1, 1) := by decide +kernel
theorem dX9_fee_11 : decode cX9_fee 11 = .ok (.ifnonnull 13, 3) := by decide +kernel
theorem dX9_fee_14 : decode cX9_fee 14 = .ok (.aload_n 0, 1) := by decide +kernel
theorem dX9_fee_15 : decode cX9_fee 15 = .ok (.getfield 10, 3) := by decide +kernel
theorem dX9_fee_18 : decode cX9_fee 18 = .ok (.getfield 185, 3) := by decide +kernel
theorem dX9_fee_21 : decode cX9_fee 21 = .ok (.goto 22, 3) := by decide +kernel
theorem dX9_fee_24 : decode cX9_fee 24 = .ok (.aload_n 1, 1) := by decide +kernel
theorem dX9_fee_25 : decode cX9_fee 25 = .ok (.aload_n 0, 1) := by decide +kernel
theorem dX9_fee_26 : decode cX9_fee 26 = .ok (.getfield 10, 3) := by decide +kernel
theorem dX9_fee_29 : decode cX9_fee 29 = .ok (.getfield 185, 3) := by decide +kernel
theorem dX9_fee_32 : decode cX9_fee 32 = .ok (.aload_n 0, 1) := by decide +kernel
theorem dX9_fee_33 : decode cX9_fee 33 = .ok (.getfield 10, 3) := by decide +kernel
theorem dX9_fee_36 : decode cX9_fee 36 = .ok (.getfield 194, 3) := by decide +kernel
theorem dX9_fee_39 : decode cX9_fee 39 = .ok (.iconst 0, 1) := by decide +kernel
theorem dX9_fee_40 : decode cX9_fee 40 = .ok (.invokevirtual 246, 3) := by decide +kernel
theorem dX9_fee_43 : decode cX9_fee 43 = .ok (.ireturn, 1) := by decide +kernel
theorem dX9_fine_0 : decode cX9_fine 0 = .ok (.aload_n 0, 1) := by decide +kernel
theorem dX9_fine_1 : decode cX9_fine 1 = .ok (.iload_n 1, 1) := by decide +kernel
theorem dX9_fine_2 : decode cX9_fine 2 = .ok (.invokevirtual 87, 3) := by decide +kernel
theorem dX9_fine_5 : decode cX9_fine 5 = .ok (.ifCond .ne 6, 3) := by decide +kernel
theorem dX9_fine_8 : decode cX9_fine 8 = .ok (.ldc 71, 2) := by decide +kernel
theorem dX9_fine_10 : decode cX9_fine 10 = .ok (.ireturn, 1) := by decide +kernel
theorem dX9_fine_11 : decode cX9_fine 11 = .ok (.aload_n 0, 1) := by decide +kernel
theorem dX9_fine_12 : decode cX9_fine 12 = .ok (.getfield 10, 3) := by decide +kernel
theorem dX9_fine_15 : decode cX9_fine 15 = .ok (.getfield 77, 3) := by decide +kernel
theorem dX9_fine_18 : decode cX9_fine 18 = .ok (.iload_n 1, 1) := by decide +kernel
theorem dX9_fine_19 : decode cX9_fine 19 = .ok (.aaload, 1) := by decide +kernel
theorem dX9_fine_20 : decode cX9_fine 20 = .ok (.astore_n 2, 1) := by decide +kernel
theorem dX9_fine_21 : decode cX9_fine 21 = .ok (.aload_n 0, 1) := by decide +kernel
theorem dX9_fine_22 : decode cX9_fine 22 = .ok (.getfield 10, 3) := by decide +kernel
theorem dX9_fine_25 : decode cX9_fine 25 = .ok (.getfield 242, 3) := by decide +kernel
theorem dX9_fine_28 : decode cX9_fine 28 = .ok (.iconst 2, 1) := by decide +kernel
theorem dX9_fine_29 : decode cX9_fine 29 = .ok (.aaload, 1) := by decide +kernel
theorem dX9_fine_30 : decode cX9_fine 30 = .ok (.astore_n 3, 1) := by decide +kernel
theorem dX9_fine_31 : decode cX9_fine 31 = .ok (.aload_n 3, 1) := by decide +kernel
theorem dX9_fine_32 : decode cX9_fine 32 = .ok (.ifnonnull 10, 3) := by decide +kernel
theorem dX9_fine_35 : decode cX9_fine 35 = .ok (.aload_n 2, 1) := by decide +kernel
theorem dX9_fine_36 : decode cX9_fine 36 = .ok (.invokevirtual 252, 3) := by decide +kernel
theorem dX9_fine_39 : decode cX9_fine 39 = .ok (.goto 16, 3) := by decide +kernel
theorem dX9_fine_42 : decode cX9_fine 42 = .ok (.aload_n 3, 1) := by decide +kernel
