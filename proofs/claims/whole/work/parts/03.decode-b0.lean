theorem dX2_init_0 : decode cX2_init 0 = .ok (.aload_n 0, 1) := by decide +kernel
theorem dX2_init_1 : decode cX2_init 1 = .ok (.invokespecial 3, 3) := by decide +kernel
theorem dX2_init_4 : decode cX2_init 4 = .ok (.aload_n 0, 1) := by decide +kernel
theorem dX2_init_5 : decode cX2_init 5 = .ok (.iconst 0, 1) := by decide +kernel
theorem dX2_init_6 : decode cX2_init 6 = .ok (.newarray .byte, 2) := by decide +kernel
theorem dX2_init_8 : decode cX2_init 8 = .ok (.putfield 9, 3) := by decide +kernel
theorem dX2_init_11 : decode cX2_init 11 = .ok (.aload_n 0, 1) := by decide +kernel
theorem dX2_init_12 : decode cX2_init 12 = .ok (.bipush 96, 2) := by decide +kernel
theorem dX2_init_14 : decode cX2_init 14 = .ok (.newarray .int, 2) := by decide +kernel
theorem dX2_init_16 : decode cX2_init 16 = .ok (.putfield 15, 3) := by decide +kernel
theorem dX2_init_19 : decode cX2_init 19 = .ok (.aload_n 0, 1) := by decide +kernel
theorem dX2_init_20 : decode cX2_init 20 = .ok (.bipush 96, 2) := by decide +kernel
theorem dX2_init_22 : decode cX2_init 22 = .ok (.newarray .int, 2) := by decide +kernel
theorem dX2_init_24 : decode cX2_init 24 = .ok (.putfield 19, 3) := by decide +kernel
theorem dX2_init_27 : decode cX2_init 27 = .ok (.return_, 1) := by decide +kernel
theorem dX2_findFault_0 : decode cX2_findFault 0 = .ok (.aload_n 0, 1) := by decide +kernel
theorem dX2_findFault_1 : decode cX2_findFault 1 = .ok (.aload_n 1, 1) := by decide +kernel
theorem dX2_findFault_2 : decode cX2_findFault 2 = .ok (.iload_n 2, 1) := by decide +kernel
theorem dX2_findFault_3 : decode cX2_findFault 3 = .ok (.invokevirtual 22, 3) := by decide +kernel
theorem dX2_findFault_6 : decode cX2_findFault 6 = .ok (.aload_n 0, 1) := by decide +kernel
theorem dX2_findFault_7 : decode cX2_findFault 7 = .ok (.invokevirtual 26, 3) := by decide +kernel
theorem dX2_findFault_10 : decode cX2_findFault 10 = .ok (.aload_n 0, 1) := by decide +kernel
theorem dX2_findFault_11 : decode cX2_findFault 11 = .ok (.aload_n 0, 1) := by decide +kernel
theorem dX2_findFault_12 : decode cX2_findFault 12 = .ok (.invokevirtual 29, 3) := by decide +kernel
theorem dX2_findFault_15 : decode cX2_findFault 15 = .ok (.putfield 33, 3) := by decide +kernel
theorem dX2_findFault_18 : decode cX2_findFault 18 = .ok (.aload_n 0, 1) := by decide +kernel
theorem dX2_findFault_19 : decode cX2_findFault 19 = .ok (.getfield 33, 3) := by decide +kernel
theorem dX2_findFault_22 : decode cX2_findFault 22 = .ok (.ifCond .ge 8, 3) := by decide +kernel
theorem dX2_findFault_25 : decode cX2_findFault 25 = .ok (.aload_n 0, 1) := by decide +kernel
theorem dX2_findFault_26 : decode cX2_findFault 26 = .ok (.getfield 37, 3) := by decide +kernel
theorem dX2_findFault_29 : decode cX2_findFault 29 = .ok (.ireturn, 1) := by decide +kernel
theorem dX2_findFault_30 : decode cX2_findFault 30 = .ok (.iconst 1, 1) := by decide +kernel
theorem dX2_findFault_31 : decode cX2_findFault 31 = .ok (.istore_n 3, 1) := by decide +kernel
theorem dX2_findFault_32 : decode cX2_findFault 32 = .ok (.iconst 0, 1) := by decide +kernel
theorem dX2_findFault_33 : decode cX2_findFault 33 = .ok (.istore 4, 2) := by decide +kernel
theorem dX2_findFault_35 : decode cX2_findFault 35 = .ok (.iload 4, 2) := by decide +kernel
theorem dX2_findFault_37 : decode cX2_findFault 37 = .ok (.bipush 96, 2) := by decide +kernel
theorem dX2_findFault_39 : decode cX2_findFault 39 = .ok (.if_icmp .gt 84, 3) := by decide +kernel
theorem dX2_findFault_42 : decode cX2_findFault 42 = .ok (.aload_n 0, 1) := by decide +kernel
theorem dX2_findFault_43 : decode cX2_findFault 43 = .ok (.invokevirtual 26, 3) := by decide +kernel
theorem dX2_findFault_46 : decode cX2_findFault 46 = .ok (.aload_n 0, 1) := by decide +kernel
theorem dX2_findFault_47 : decode cX2_findFault 47 = .ok (.getfield 40, 3) := by decide +kernel
theorem dX2_findFault_50 : decode cX2_findFault 50 = .ok (.ifCond .ne 6, 3) := by decide +kernel
theorem dX2_findFault_53 : decode cX2_findFault 53 = .ok (.goto 70, 3) := by decide +kernel
theorem dX2_findFault_56 : decode cX2_findFault 56 = .ok (.aload_n 0, 1) := by decide +kernel
theorem dX2_findFault_57 : decode cX2_findFault 57 = .ok (.getfield 43, 3) := by decide +kernel
theorem dX2_findFault_60 : decode cX2_findFault 60 = .ok (.ifCond .ne 24, 3) := by decide +kernel
theorem dX2_findFault_63 : decode cX2_findFault 63 = .ok (.iload_n 3, 1) := by decide +kernel
theorem dX2_findFault_64 : decode cX2_findFault 64 = .ok (.ifCond .eq 13, 3) := by decide +kernel
theorem dX2_findFault_67 : decode cX2_findFault 67 = .ok (.aload_n 0, 1) := by decide +kernel
theorem dX2_findFault_68 : decode cX2_findFault 68 = .ok (.invokevirtual 47, 3) := by decide +kernel
theorem dX2_findFault_71 : decode cX2_findFault 71 = .ok (.ifCond .eq 13, 3) := by decide +kernel
theorem dX2_findFault_74 : decode cX2_findFault 74 = .ok (.goto 15, 3) := by decide +kernel
theorem dX2_findFault_77 : decode cX2_findFault 77 = .ok (.aload_n 0, 1) := by decide +kernel
theorem dX2_findFault_78 : decode cX2_findFault 78 = .ok (.invokevirtual 51, 3) := by decide +kernel
theorem dX2_findFault_81 : decode cX2_findFault 81 = .ok (.ifCond .ne 8, 3) := by decide +kernel
theorem dX2_findFault_84 : decode cX2_findFault 84 = .ok (.aload_n 0, 1) := by decide +kernel
theorem dX2_findFault_85 : decode cX2_findFault 85 = .ok (.getfield 37, 3) := by decide +kernel
theorem dX2_findFault_88 : decode cX2_findFault 88 = .ok (.ireturn, 1) := by decide +kernel
theorem dX2_findFault_89 : decode cX2_findFault 89 = .ok (.aload_n 0, 1) := by decide +kernel
theorem dX2_findFault_90 : decode cX2_findFault 90 = .ok (.getfield 40, 3) := by decide +kernel
theorem dX2_findFault_93 : decode cX2_findFault 93 = .ok (.iconst 3, 1) := by decide +kernel
theorem dX2_findFault_94 : decode cX2_findFault 94 = .ok (.if_icmp .ne 21, 3) := by decide +kernel
theorem dX2_findFault_97 : decode cX2_findFault 97 = .ok (.aload_n 0, 1) := by decide +kernel
theorem dX2_findFault_98 : decode cX2_findFault 98 = .ok (.getfield 9, 3) := by decide +kernel
theorem dX2_findFault_101 : decode cX2_findFault 101 = .ok (.aload_n 0, 1) := by decide +kernel
theorem dX2_findFault_102 : decode cX2_findFault 102 = .ok (.getfield 37, 3) := by decide +kernel
theorem dX2_findFault_105 : decode cX2_findFault 105 = .ok (.baload, 1) := by decide +kernel
theorem dX2_findFault_106 : decode cX2_findFault 106 = .ok (.bipush 41, 2) := by decide +kernel
theorem dX2_findFault_108 : decode cX2_findFault 108 = .ok (.if_icmp .eq 7, 3) := by decide +kernel
theorem dX2_findFault_111 : decode cX2_findFault 111 = .ok (.iconst 1, 1) := by decide +kernel
theorem dX2_findFault_112 : decode cX2_findFault 112 = .ok (.goto 4, 3) := by decide +kernel
theorem dX2_findFault_115 : decode cX2_findFault 115 = .ok (.iconst 0, 1) := by decide +kernel
theorem dX2_findFault_116 : decode cX2_findFault 116 = .ok (.istore_n 3, 1) := by decide +kernel
theorem dX2_findFault_117 : decode cX2_findFault 117 = .ok (.iinc 4 1, 3) := by decide +kernel
theorem dX2_findFault_120 : decode cX2_findFault 120 = .ok (.goto (-85), 3) := by decide +kernel
theorem dX2_findFault_123 : decode cX2_findFault 123 = .ok (.iload_n 3, 1) := by decide +kernel
theorem dX2_findFault_124 : decode cX2_findFault 124 = .ok (.ifCond .ne 10, 3) := by decide +kernel
theorem dX2_findFault_127 : decode cX2_findFault 127 = .ok (.aload_n 0, 1) := by decide +kernel
theorem dX2_findFault_128 : decode cX2_findFault 128 = .ok (.getfield 54, 3) := by decide +kernel
theorem dX2_findFault_131 : decode cX2_findFault 131 = .ok (.ifCond .le 8, 3) := by decide +kernel
theorem dX2_findFault_134 : decode cX2_findFault 134 = .ok (.aload_n 0, 1) := by decide +kernel
theorem dX2_findFault_135 : decode cX2_findFault 135 = .ok (.getfield 57, 3) := by decide +kernel
theorem dX2_findFault_138 : decode cX2_findFault 138 = .ok (.ireturn, 1) := by decide +kernel
theorem dX2_findFault_139 : decode cX2_findFault 139 = .ok (.aload_n 0, 1) := by decide +kernel
theorem dX2_findFault_140 : decode cX2_findFault 140 = .ok (.iconst 1, 1) := by decide +kernel
theorem dX2_findFault_141 : decode cX2_findFault 141 = .ok (.invokevirtual 60, 3) := by decide +kernel
theorem dX2_findFault_144 : decode cX2_findFault 144 = .ok (.iconst (-1), 1) := by decide +kernel
theorem dX2_findFault_145 : decode cX2_findFault 145 = .ok (.ireturn, 1) := by decide +kernel
theorem dX2_makeText_0 : decode cX2_makeText 0 = .ok (.new 64, 3) := by decide +kernel
theorem dX2_makeText_3 : decode cX2_makeText 3 = .ok (.dup, 1) := by decide +kernel
theorem dX2_makeText_4 : decode cX2_makeText 4 = .ok (.iload_n 1, 1) := by decide +kernel
theorem dX2_makeText_5 : decode cX2_makeText 5 = .ok (.aload_n 0, 1) := by decide +kernel
theorem dX2_makeText_6 : decode cX2_makeText 6 = .ok (.getfield 33, 3) := by decide +kernel
theorem dX2_makeText_9 : decode cX2_makeText 9 = .ok (.aload_n 0, 1) := by decide +kernel
theorem dX2_makeText_10 : decode cX2_makeText 10 = .ok (.getfield 66, 3) := by decide +kernel
theorem dX2_makeText_13 : decode cX2_makeText 13 = .ok (.aload_n 0, 1) := by decide +kernel
theorem dX2_makeText_14 : decode cX2_makeText 14 = .ok (.getfield 15, 3) := by decide +kernel
theorem dX2_makeText_17 : decode cX2_makeText 17 = .ok (.aload_n 0, 1) := by decide +kernel
theorem dX2_makeText_18 : decode cX2_makeText 18 = .ok (.getfield 69, 3) := by decide +kernel
theorem dX2_makeText_21 : decode cX2_makeText 21 = .ok (.invokestatic 72, 3) := by decide +kernel
theorem dX2_makeText_24 : decode cX2_makeText 24 = .ok (.invokespecial 78, 3) := by decide +kernel
theorem dX2_makeText_27 : decode cX2_makeText 27 = .ok (.areturn, 1) := by decide +kernel
theorem dX2_begin_0 : decode cX2_begin 0 = .ok (.aload_n 0, 1) := by decide +kernel
theorem dX2_begin_1 : decode cX2_begin 1 = .ok (.aload_n 1, 1) := by decide +kernel
theorem dX2_begin_2 : decode cX2_begin 2 = .ok (.putfield 9, 3) := by decide +kernel
theorem dX2_begin_5 : decode cX2_begin 5 = .ok (.aload_n 0, 1) := by decide +kernel
theorem dX2_begin_6 : decode cX2_begin 6 = .ok (.iload_n 2, 1) := by decide +kernel
theorem dX2_begin_7 : decode cX2_begin 7 = .ok (.aload_n 1, 1) := by decide +kernel
theorem dX2_begin_8 : decode cX2_begin 8 = .ok (.arraylength, 1) := by decide +kernel
theorem dX2_begin_9 : decode cX2_begin 9 = .ok (.invokestatic 81, 3) := by decide +kernel
theorem dX2_begin_12 : decode cX2_begin 12 = .ok (.putfield 57, 3) := by decide +kernel
theorem dX2_begin_15 : decode cX2_begin 15 = .ok (.aload_n 0, 1) := by decide +kernel
theorem dX2_begin_16 : decode cX2_begin 16 = .ok (.iconst 0, 1) := by decide +kernel
theorem dX2_begin_17 : decode cX2_begin 17 = .ok (.putfield 37, 3) := by decide +kernel
theorem dX2_begin_20 : decode cX2_begin 20 = .ok (.aload_n 0, 1) := by decide +kernel
theorem dX2_begin_21 : decode cX2_begin 21 = .ok (.iconst 0, 1) := by decide +kernel
theorem dX2_begin_22 : decode cX2_begin 22 = .ok (.putfield 87, 3) := by decide +kernel
theorem dX2_begin_25 : decode cX2_begin 25 = .ok (.aload_n 0, 1) := by decide +kernel
theorem dX2_begin_26 : decode cX2_begin 26 = .ok (.iconst 0, 1) := by decide +kernel
theorem dX2_begin_27 : decode cX2_begin 27 = .ok (.putfield 40, 3) := by decide +kernel
theorem dX2_begin_30 : decode cX2_begin 30 = .ok (.aload_n 0, 1) := by decide +kernel
theorem dX2_begin_31 : decode cX2_begin 31 = .ok (.iconst 0, 1) := by decide +kernel
theorem dX2_begin_32 : decode cX2_begin 32 = .ok (.putfield 66, 3) := by decide +kernel
theorem dX2_begin_35 : decode cX2_begin 35 = .ok (.aload_n 0, 1) := by decide +kernel
theorem dX2_begin_36 : decode cX2_begin 36 = .ok (.iconst 0, 1) := by decide +kernel
theorem dX2_begin_37 : decode cX2_begin 37 = .ok (.putfield 69, 3) := by decide +kernel
theorem dX2_begin_40 : decode cX2_begin 40 = .ok (.aload_n 0, 1) := by decide +kernel
theorem dX2_begin_41 : decode cX2_begin 41 = .ok (.iconst 0, 1) := by decide +kernel
theorem dX2_begin_42 : decode cX2_begin 42 = .ok (.putfield 90, 3) := by decide +kernel
theorem dX2_begin_45 : decode cX2_begin 45 = .ok (.aload_n 0, 1) := by decide +kernel
theorem dX2_begin_46 : decode cX2_begin 46 = .ok (.iconst 0, 1) := by decide +kernel
theorem dX2_begin_47 : decode cX2_begin 47 = .ok (.putfield 54, 3) := by decide +kernel
theorem dX2_begin_50 : decode cX2_begin 50 = .ok (.aload_n 0, 1) := by decide +kernel
theorem dX2_begin_51 : decode cX2_begin 51 = .ok (.iconst 0, 1) := by decide +kernel
theorem dX2_begin_52 : decode cX2_begin 52 = .ok (.putfield 93, 3) := by decide +kernel
theorem dX2_begin_55 : decode cX2_begin 55 = .ok (.return_, 1) := by decide +kernel
theorem dX2_next_0 : decode cX2_next 0 = .ok (.aload_n 0, 1) := by decide +kernel
theorem dX2_next_1 : decode cX2_next 1 = .ok (.getfield 40, 3) := by decide +kernel
theorem dX2_next_4 : decode cX2_next 4 = .ok (.iconst 1, 1) := by decide +kernel
theorem dX2_next_5 : decode cX2_next 5 = .ok (.if_icmp .eq 11, 3) := by decide +kernel
theorem dX2_next_8 : decode cX2_next 8 = .ok (.aload_n 0, 1) := by decide +kernel
theorem dX2_next_9 : decode cX2_next 9 = .ok (.getfield 40, 3) := by decide +kernel
theorem dX2_next_12 : decode cX2_next 12 = .ok (.iconst 2, 1) := by decide +kernel
theorem dX2_next_13 : decode cX2_next 13 = .ok (.if_icmp .ne 7, 3) := by decide +kernel
theorem dX2_next_16 : decode cX2_next 16 = .ok (.iconst 1, 1) := by decide +kernel
theorem dX2_next_17 : decode cX2_next 17 = .ok (.goto 4, 3) := by decide +kernel
theorem dX2_next_20 : decode cX2_next 20 = .ok (.iconst 0, 1) := by decide +kernel
theorem dX2_next_21 : decode cX2_next 21 = .ok (.istore_n 1, 1) := by decide +kernel
theorem dX2_next_22 : decode cX2_next 22 = .ok (.aload_n 0, 1) := by decide +kernel
theorem dX2_next_23 : decode cX2_next 23 = .ok (.aload_n 0, 1) := by decide +kernel
theorem dX2_next_24 : decode cX2_next 24 = .ok (.getfield 87, 3) := by decide +kernel
theorem dX2_next_27 : decode cX2_next 27 = .ok (.putfield 37, 3) := by decide +kernel
theorem dX2_next_30 : decode cX2_next 30 = .ok (.aload_n 0, 1) := by decide +kernel
theorem dX2_next_31 : decode cX2_next 31 = .ok (.getfield 37, 3) := by decide +kernel
theorem dX2_next_34 : decode cX2_next 34 = .ok (.aload_n 0, 1) := by decide +kernel
theorem dX2_next_35 : decode cX2_next 35 = .ok (.getfield 57, 3) := by decide +kernel
theorem dX2_next_38 : decode cX2_next 38 = .ok (.if_icmp .ge 30, 3) := by decide +kernel
theorem dX2_next_41 : decode cX2_next 41 = .ok (.aload_n 0, 1) := by decide +kernel
theorem dX2_next_42 : decode cX2_next 42 = .ok (.getfield 9, 3) := by decide +kernel
theorem dX2_next_45 : decode cX2_next 45 = .ok (.aload_n 0, 1) := by decide +kernel
theorem dX2_next_46 : decode cX2_next 46 = .ok (.getfield 37, 3) := by decide +kernel
theorem dX2_next_49 : decode cX2_next 49 = .ok (.baload, 1) := by decide +kernel
theorem dX2_next_50 : decode cX2_next 50 = .ok (.bipush 32, 2) := by decide +kernel
theorem dX2_next_52 : decode cX2_next 52 = .ok (.if_icmp .ne 16, 3) := by decide +kernel
theorem dX2_next_55 : decode cX2_next 55 = .ok (.aload_n 0, 1) := by decide +kernel
theorem dX2_next_56 : decode cX2_next 56 = .ok (.dup, 1) := by decide +kernel
theorem dX2_next_57 : decode cX2_next 57 = .ok (.getfield 37, 3) := by decide +kernel
theorem dX2_next_60 : decode cX2_next 60 = .ok (.iconst 1, 1) := by decide +kernel
theorem dX2_next_61 : decode cX2_next 61 = .ok (.iadd, 1) := by decide +kernel
theorem dX2_next_62 : decode cX2_next 62 = .ok (.putfield 37, 3) := by decide +kernel
theorem dX2_next_65 : decode cX2_next 65 = .ok (.goto (-35), 3) := by decide +kernel
theorem dX2_next_68 : decode cX2_next 68 = .ok (.aload_n 0, 1) := by decide +kernel
theorem dX2_next_69 : decode cX2_next 69 = .ok (.getfield 37, 3) := by decide +kernel
theorem dX2_next_72 : decode cX2_next 72 = .ok (.aload_n 0, 1) := by decide +kernel
theorem dX2_next_73 : decode cX2_next 73 = .ok (.getfield 87, 3) := by decide +kernel
theorem dX2_next_76 : decode cX2_next 76 = .ok (.if_icmp .le 7, 3) := by decide +kernel
theorem dX2_next_79 : decode cX2_next 79 = .ok (.iconst 1, 1) := by decide +kernel
theorem dX2_next_80 : decode cX2_next 80 = .ok (.goto 4, 3) := by decide +kernel
theorem dX2_next_83 : decode cX2_next 83 = .ok (.iconst 0, 1) := by decide +kernel
theorem dX2_next_84 : decode cX2_next 84 = .ok (.istore_n 2, 1) := by decide +kernel
theorem dX2_next_85 : decode cX2_next 85 = .ok (.aload_n 0, 1) := by decide +kernel
theorem dX2_next_86 : decode cX2_next 86 = .ok (.aload_n 0, 1) := by decide +kernel
theorem dX2_next_87 : decode cX2_next 87 = .ok (.aload_n 0, 1) := by decide +kernel
theorem dX2_next_88 : decode cX2_next 88 = .ok (.getfield 37, 3) := by decide +kernel
theorem dX2_next_91 : decode cX2_next 91 = .ok (.invokevirtual 96, 3) := by decide +kernel
theorem dX2_next_94 : decode cX2_next 94 = .ok (.putfield 40, 3) := by decide +kernel
theorem dX2_next_97 : decode cX2_next 97 = .ok (.aload_n 0, 1) := by decide +kernel
theorem dX2_next_98 : decode cX2_next 98 = .ok (.iload_n 1, 1) := by decide +kernel
theorem dX2_next_99 : decode cX2_next 99 = .ok (.ifCond .eq 27, 3) := by decide +kernel
theorem dX2_next_102 : decode cX2_next 102 = .ok (.iload_n 2, 1) := by decide +kernel
theorem dX2_next_103 : decode cX2_next 103 = .ok (.ifCond .ne 23, 3) := by decide +kernel
theorem dX2_next_106 : decode cX2_next 106 = .ok (.aload_n 0, 1) := by decide +kernel
theorem dX2_next_107 : decode cX2_next 107 = .ok (.getfield 40, 3) := by decide +kernel
theorem dX2_next_110 : decode cX2_next 110 = .ok (.iconst 1, 1) := by decide +kernel
theorem dX2_next_111 : decode cX2_next 111 = .ok (.if_icmp .eq 11, 3) := by decide +kernel
theorem dX2_next_114 : decode cX2_next 114 = .ok (.aload_n 0, 1) := by decide +kernel
theorem dX2_next_115 : decode cX2_next 115 = .ok (.getfield 40, 3) := by decide +kernel
theorem dX2_next_118 : decode cX2_next 118 = .ok (.iconst 2, 1) := by decide +kernel
theorem dX2_next_119 : decode cX2_next 119 = .ok (.if_icmp .ne 7, 3) := by decide +kernel
theorem dX2_next_122 : decode cX2_next 122 = .ok (.iconst 1, 1) := by decide +kernel
theorem dX2_next_123 : decode cX2_next 123 = .ok (.goto 4, 3) := by decide +kernel
theorem dX2_next_126 : decode cX2_next 126 = .ok (.iconst 0, 1) := by decide +kernel
theorem dX2_next_127 : decode cX2_next 127 = .ok (.putfield 43, 3) := by decide +kernel
theorem dX2_next_130 : decode cX2_next 130 = .ok (.aload_n 0, 1) := by decide +kernel
theorem dX2_next_131 : decode cX2_next 131 = .ok (.aload_n 0, 1) := by decide +kernel
theorem dX2_next_132 : decode cX2_next 132 = .ok (.getfield 40, 3) := by decide +kernel
theorem dX2_next_135 : decode cX2_next 135 = .ok (.ifCond .ne 10, 3) := by decide +kernel
theorem dX2_next_138 : decode cX2_next 138 = .ok (.aload_n 0, 1) := by decide +kernel
theorem dX2_next_139 : decode cX2_next 139 = .ok (.getfield 37, 3) := by decide +kernel
theorem dX2_next_142 : decode cX2_next 142 = .ok (.goto 9, 3) := by decide +kernel
theorem dX2_next_145 : decode cX2_next 145 = .ok (.aload_n 0, 1) := by decide +kernel
theorem dX2_next_146 : decode cX2_next 146 = .ok (.getfield 37, 3) := by decide +kernel
theorem dX2_next_149 : decode cX2_next 149 = .ok (.iconst 1, 1) := by decide +kernel
theorem dX2_next_150 : decode cX2_next 150 = .ok (.iadd, 1) := by decide +kernel
theorem dX2_next_151 : decode cX2_next 151 = .ok (.putfield 87, 3) := by decide +kernel
theorem dX2_next_154 : decode cX2_next 154 = .ok (.aload_n 0, 1) := by decide +kernel
theorem dX2_next_155 : decode cX2_next 155 = .ok (.getfield 40, 3) := by decide +kernel
theorem dX2_next_158 : decode cX2_next 158 = .ok (.iconst 3, 1) := by decide +kernel
theorem dX2_next_159 : decode cX2_next 159 = .ok (.if_icmp .eq 42, 3) := by decide +kernel
theorem dX2_next_162 : decode cX2_next 162 = .ok (.aload_n 0, 1) := by decide +kernel
theorem dX2_next_163 : decode cX2_next 163 = .ok (.getfield 87, 3) := by decide +kernel
theorem dX2_next_166 : decode cX2_next 166 = .ok (.aload_n 0, 1) := by decide +kernel
theorem dX2_next_167 : decode cX2_next 167 = .ok (.getfield 57, 3) := by decide +kernel
theorem dX2_next_170 : decode cX2_next 170 = .ok (.if_icmp .ge 31, 3) := by decide +kernel
theorem dX2_next_173 : decode cX2_next 173 = .ok (.aload_n 0, 1) := by decide +kernel
theorem dX2_next_174 : decode cX2_next 174 = .ok (.aload_n 0, 1) := by decide +kernel
theorem dX2_next_175 : decode cX2_next 175 = .ok (.getfield 87, 3) := by decide +kernel
theorem dX2_next_178 : decode cX2_next 178 = .ok (.invokevirtual 96, 3) := by decide +kernel
theorem dX2_next_181 : decode cX2_next 181 = .ok (.aload_n 0, 1) := by decide +kernel
theorem dX2_next_182 : decode cX2_next 182 = .ok (.getfield 40, 3) := by decide +kernel
theorem dX2_next_185 : decode cX2_next 185 = .ok (.if_icmp .ne 16, 3) := by decide +kernel
theorem dX2_next_188 : decode cX2_next 188 = .ok (.aload_n 0, 1) := by decide +kernel
theorem dX2_next_189 : decode cX2_next 189 = .ok (.dup, 1) := by decide +kernel
theorem dX2_next_190 : decode cX2_next 190 = .ok (.getfield 87, 3) := by decide +kernel
theorem dX2_next_193 : decode cX2_next 193 = .ok (.iconst 1, 1) := by decide +kernel
theorem dX2_next_194 : decode cX2_next 194 = .ok (.iadd, 1) := by decide +kernel
theorem dX2_next_195 : decode cX2_next 195 = .ok (.putfield 87, 3) := by decide +kernel
theorem dX2_next_198 : decode cX2_next 198 = .ok (.goto (-44), 3) := by decide +kernel
theorem dX2_next_201 : decode cX2_next 201 = .ok (.return_, 1) := by decide +kernel
theorem dX2_sortAt_0 : decode cX2_sortAt 0 = .ok (.iload_n 1, 1) := by decide +kernel
theorem dX2_sortAt_1 : decode cX2_sortAt 1 = .ok (.aload_n 0, 1) := by decide +kernel
theorem dX2_sortAt_2 : decode cX2_sortAt 2 = .ok (.getfield 57, 3) := by decide +kernel
theorem dX2_sortAt_5 : decode cX2_sortAt 5 = .ok (.if_icmp .lt 5, 3) := by decide +kernel
theorem dX2_sortAt_8 : decode cX2_sortAt 8 = .ok (.iconst 0, 1) := by decide +kernel
theorem dX2_sortAt_9 : decode cX2_sortAt 9 = .ok (.ireturn, 1) := by decide +kernel
theorem dX2_sortAt_10 : decode cX2_sortAt 10 = .ok (.aload_n 0, 1) := by decide +kernel
theorem dX2_sortAt_11 : decode cX2_sortAt 11 = .ok (.getfield 9, 3) := by decide +kernel
theorem dX2_sortAt_14 : decode cX2_sortAt 14 = .ok (.iload_n 1, 1) := by decide +kernel
theorem dX2_sortAt_15 : decode cX2_sortAt 15 = .ok (.baload, 1) := by decide +kernel
theorem dX2_sortAt_16 : decode cX2_sortAt 16 = .ok (.istore_n 2, 1) := by decide +kernel
theorem dX2_sortAt_17 : decode cX2_sortAt 17 = .ok (.iload_n 2, 1) := by decide +kernel
theorem dX2_sortAt_18 : decode cX2_sortAt 18 = .ok (.bipush 97, 2) := by decide +kernel
theorem dX2_sortAt_20 : decode cX2_sortAt 20 = .ok (.if_icmp .lt 11, 3) := by decide +kernel
theorem dX2_sortAt_23 : decode cX2_sortAt 23 = .ok (.iload_n 2, 1) := by decide +kernel
theorem dX2_sortAt_24 : decode cX2_sortAt 24 = .ok (.bipush 122, 2) := by decide +kernel
theorem dX2_sortAt_26 : decode cX2_sortAt 26 = .ok (.if_icmp .gt 5, 3) := by decide +kernel
theorem dX2_sortAt_29 : decode cX2_sortAt 29 = .ok (.iconst 1, 1) := by decide +kernel
theorem dX2_sortAt_30 : decode cX2_sortAt 30 = .ok (.ireturn, 1) := by decide +kernel
theorem dX2_sortAt_31 : decode cX2_sortAt 31 = .ok (.iload_n 2, 1) := by decide +kernel
theorem dX2_sortAt_32 : decode cX2_sortAt 32 = .ok (.bipush 48, 2) := by decide +kernel
theorem dX2_sortAt_34 : decode cX2_sortAt 34 = .ok (.if_icmp .lt 13, 3) := by decide +kernel
theorem dX2_sortAt_37 : decode cX2_sortAt 37 = .ok (.iload_n 2, 1) := by decide +kernel
theorem dX2_sortAt_38 : decode cX2_sortAt 38 = .ok (.bipush 57, 2) := by decide +kernel
theorem dX2_sortAt_40 : decode cX2_sortAt 40 = .ok (.if_icmp .gt 7, 3) := by decide +kernel
theorem dX2_sortAt_43 : decode cX2_sortAt 43 = .ok (.iconst 2, 1) := by decide +kernel
theorem dX2_sortAt_44 : decode cX2_sortAt 44 = .ok (.goto 4, 3) := by decide +kernel
theorem dX2_sortAt_47 : decode cX2_sortAt 47 = .ok (.iconst 3, 1) := by decide +kernel
theorem dX2_sortAt_48 : decode cX2_sortAt 48 = .ok (.ireturn, 1) := by decide +kernel
theorem dX2_keyAtHand_0 : decode cX2_keyAtHand 0 = .ok (.aload_n 0, 1) := by decide +kernel
theorem dX2_keyAtHand_1 : decode cX2_keyAtHand 1 = .ok (.ldc 100, 2) := by decide +kernel
theorem dX2_keyAtHand_3 : decode cX2_keyAtHand 3 = .ok (.invokevirtual 102, 3) := by decide +kernel
theorem dX2_keyAtHand_6 : decode cX2_keyAtHand 6 = .ok (.ifCond .eq 5, 3) := by decide +kernel
theorem dX2_keyAtHand_9 : decode cX2_keyAtHand 9 = .ok (.iconst 0, 1) := by decide +kernel
theorem dX2_keyAtHand_10 : decode cX2_keyAtHand 10 = .ok (.ireturn, 1) := by decide +kernel
theorem dX2_keyAtHand_11 : decode cX2_keyAtHand 11 = .ok (.aload_n 0, 1) := by decide +kernel
theorem dX2_keyAtHand_12 : decode cX2_keyAtHand 12 = .ok (.ldc 106, 2) := by decide +kernel
theorem dX2_keyAtHand_14 : decode cX2_keyAtHand 14 = .ok (.invokevirtual 102, 3) := by decide +kernel
theorem dX2_keyAtHand_17 : decode cX2_keyAtHand 17 = .ok (.ifCond .eq 5, 3) := by decide +kernel
theorem dX2_keyAtHand_20 : decode cX2_keyAtHand 20 = .ok (.iconst 1, 1) := by decide +kernel
theorem dX2_keyAtHand_21 : decode cX2_keyAtHand 21 = .ok (.ireturn, 1) := by decide +kernel
theorem dX2_keyAtHand_22 : decode cX2_keyAtHand 22 = .ok (.aload_n 0, 1) := by decide +kernel
theorem dX2_keyAtHand_23 : decode cX2_keyAtHand 23 = .ok (.ldc 108, 2) := by decide +kernel
theorem dX2_keyAtHand_25 : decode cX2_keyAtHand 25 = .ok (.invokevirtual 102, 3) := by decide +kernel
theorem dX2_keyAtHand_28 : decode cX2_keyAtHand 28 = .ok (.ifCond .eq 7, 3) := by decide +kernel
theorem dX2_keyAtHand_31 : decode cX2_keyAtHand 31 = .ok (.iconst 2, 1) := by decide +kernel
theorem dX2_keyAtHand_32 : decode cX2_keyAtHand 32 = .ok (.goto 4, 3) := by decide +kernel
theorem dX2_keyAtHand_35 : decode cX2_keyAtHand 35 = .ok (.iconst (-1), 1) := by decide +kernel
theorem dX2_keyAtHand_36 : decode cX2_keyAtHand 36 = .ok (.ireturn, 1) := by decide +kernel
theorem dX2_isAtHand_0 : decode cX2_isAtHand 0 = .ok (.aload_n 0, 1) := by decide +kernel
theorem dX2_isAtHand_1 : decode cX2_isAtHand 1 = .ok (.getfield 87, 3) := by decide +kernel
theorem dX2_isAtHand_4 : decode cX2_isAtHand 4 = .ok (.aload_n 0, 1) := by decide +kernel
theorem dX2_isAtHand_5 : decode cX2_isAtHand 5 = .ok (.getfield 37, 3) := by decide +kernel
theorem dX2_isAtHand_8 : decode cX2_isAtHand 8 = .ok (.isub, 1) := by decide +kernel
theorem dX2_isAtHand_9 : decode cX2_isAtHand 9 = .ok (.aload_n 1, 1) := by decide +kernel
theorem dX2_isAtHand_10 : decode cX2_isAtHand 10 = .ok (.invokevirtual 110, 3) := by decide +kernel
theorem dX2_isAtHand_13 : decode cX2_isAtHand 13 = .ok (.if_icmp .eq 5, 3) := by decide +kernel
theorem dX2_isAtHand_16 : decode cX2_isAtHand 16 = .ok (.iconst 0, 1) := by decide +kernel
theorem dX2_isAtHand_17 : decode cX2_isAtHand 17 = .ok (.ireturn, 1) := by decide +kernel
theorem dX2_isAtHand_18 : decode cX2_isAtHand 18 = .ok (.iconst 0, 1) := by decide +kernel
theorem dX2_isAtHand_19 : decode cX2_isAtHand 19 = .ok (.istore_n 2, 1) := by decide +kernel
theorem dX2_isAtHand_20 : decode cX2_isAtHand 20 = .ok (.iload_n 2, 1) := by decide +kernel
theorem dX2_isAtHand_21 : decode cX2_isAtHand 21 = .ok (.aload_n 1, 1) := by decide +kernel
theorem dX2_isAtHand_22 : decode cX2_isAtHand 22 = .ok (.invokevirtual 110, 3) := by decide +kernel
theorem dX2_isAtHand_25 : decode cX2_isAtHand 25 = .ok (.if_icmp .ge 30, 3) := by decide +kernel
theorem dX2_isAtHand_28 : decode cX2_isAtHand 28 = .ok (.aload_n 0, 1) := by decide +kernel
theorem dX2_isAtHand_29 : decode cX2_isAtHand 29 = .ok (.getfield 9, 3) := by decide +kernel
theorem dX2_isAtHand_32 : decode cX2_isAtHand 32 = .ok (.aload_n 0, 1) := by decide +kernel
theorem dX2_isAtHand_33 : decode cX2_isAtHand 33 = .ok (.getfield 37, 3) := by decide +kernel
theorem dX2_isAtHand_36 : decode cX2_isAtHand 36 = .ok (.iload_n 2, 1) := by decide +kernel
theorem dX2_isAtHand_37 : decode cX2_isAtHand 37 = .ok (.iadd, 1) := by decide +kernel
theorem dX2_isAtHand_38 : decode cX2_isAtHand 38 = .ok (.baload, 1) := by decide +kernel
theorem dX2_isAtHand_39 : decode cX2_isAtHand 39 = .ok (.aload_n 1, 1) := by decide +kernel
theorem dX2_isAtHand_40 : decode cX2_isAtHand 40 = .ok (.iload_n 2, 1) := by decide +kernel
theorem dX2_isAtHand_41 : decode cX2_isAtHand 41 = .ok (.invokevirtual 114, 3) := by decide +kernel
theorem dX2_isAtHand_44 : decode cX2_isAtHand 44 = .ok (.if_icmp .eq 5, 3) := by decide +kernel
theorem dX2_isAtHand_47 : decode cX2_isAtHand 47 = .ok (.iconst 0, 1) := by decide +kernel
theorem dX2_isAtHand_48 : decode cX2_isAtHand 48 = .ok (.ireturn, 1) := by decide +kernel
theorem dX2_isAtHand_49 : decode cX2_isAtHand 49 = .ok (.iinc 2 1, 3) := by decide +kernel
theorem dX2_isAtHand_52 : decode cX2_isAtHand 52 = .ok (.goto (-32), 3) := by decide +kernel
theorem dX2_isAtHand_55 : decode cX2_isAtHand 55 = .ok (.iconst 1, 1) := by decide +kernel
theorem dX2_isAtHand_56 : decode cX2_isAtHand 56 = .ok (.ireturn, 1) := by decide +kernel
theorem dX2_takesPiece_0 : decode cX2_takesPiece 0 = .ok (.aload_n 0, 1) := by decide +kernel
theorem dX2_takesPiece_1 : decode cX2_takesPiece 1 = .ok (.getfield 40, 3) := by decide +kernel
theorem dX2_takesPiece_4 : decode cX2_takesPiece 4 = .ok (.lookupswitch 38 #[(1, 33), (2, 28)], 28) := by decide +kernel
theorem dX2_takesPiece_32 : decode cX2_takesPiece 32 = .ok (.aload_n 0, 1) := by decide +kernel
theorem dX2_takesPiece_33 : decode cX2_takesPiece 33 = .ok (.invokevirtual 118, 3) := by decide +kernel
theorem dX2_takesPiece_36 : decode cX2_takesPiece 36 = .ok (.ireturn, 1) := by decide +kernel
theorem dX2_takesPiece_37 : decode cX2_takesPiece 37 = .ok (.aload_n 0, 1) := by decide +kernel
theorem dX2_takesPiece_38 : decode cX2_takesPiece 38 = .ok (.invokevirtual 121, 3) := by decide +kernel
theorem dX2_takesPiece_41 : decode cX2_takesPiece 41 = .ok (.ireturn, 1) := by decide +kernel
theorem dX2_takesPiece_42 : decode cX2_takesPiece 42 = .ok (.aload_n 0, 1) := by decide +kernel
theorem dX2_takesPiece_43 : decode cX2_takesPiece 43 = .ok (.aload_n 0, 1) := by decide +kernel
theorem dX2_takesPiece_44 : decode cX2_takesPiece 44 = .ok (.getfield 9, 3) := by decide +kernel
theorem dX2_takesPiece_47 : decode cX2_takesPiece 47 = .ok (.aload_n 0, 1) := by decide +kernel
theorem dX2_takesPiece_48 : decode cX2_takesPiece 48 = .ok (.getfield 37, 3) := by decide +kernel
theorem dX2_takesPiece_51 : decode cX2_takesPiece 51 = .ok (.baload, 1) := by decide +kernel
theorem dX2_takesPiece_52 : decode cX2_takesPiece 52 = .ok (.invokevirtual 124, 3) := by decide +kernel
theorem dX2_takesPiece_55 : decode cX2_takesPiece 55 = .ok (.ireturn, 1) := by decide +kernel
theorem dX2_takesNumber_0 : decode cX2_takesNumber 0 = .ok (.aload_n 0, 1) := by decide +kernel
theorem dX2_takesNumber_1 : decode cX2_takesNumber 1 = .ok (.getfield 87, 3) := by decide +kernel
theorem dX2_takesNumber_4 : decode cX2_takesNumber 4 = .ok (.aload_n 0, 1) := by decide +kernel
theorem dX2_takesNumber_5 : decode cX2_takesNumber 5 = .ok (.getfield 37, 3) := by decide +kernel
theorem dX2_takesNumber_8 : decode cX2_takesNumber 8 = .ok (.isub, 1) := by decide +kernel
theorem dX2_takesNumber_9 : decode cX2_takesNumber 9 = .ok (.iconst 4, 1) := by decide +kernel
theorem dX2_takesNumber_10 : decode cX2_takesNumber 10 = .ok (.if_icmp .le 5, 3) := by decide +kernel
theorem dX2_takesNumber_13 : decode cX2_takesNumber 13 = .ok (.iconst 0, 1) := by decide +kernel
theorem dX2_takesNumber_14 : decode cX2_takesNumber 14 = .ok (.ireturn, 1) := by decide +kernel
theorem dX2_takesNumber_15 : decode cX2_takesNumber 15 = .ok (.iconst 0, 1) := by decide +kernel
theorem dX2_takesNumber_16 : decode cX2_takesNumber 16 = .ok (.istore_n 1, 1) := by decide +kernel
theorem dX2_takesNumber_17 : decode cX2_takesNumber 17 = .ok (.aload_n 0, 1) := by decide +kernel
theorem dX2_takesNumber_18 : decode cX2_takesNumber 18 = .ok (.getfield 37, 3) := by decide +kernel
theorem dX2_takesNumber_21 : decode cX2_takesNumber 21 = .ok (.istore_n 2, 1) := by decide +kernel
theorem dX2_takesNumber_22 : decode cX2_takesNumber 22 = .ok (.iload_n 2, 1) := by decide +kernel
theorem dX2_takesNumber_23 : decode cX2_takesNumber 23 = .ok (.aload_n 0, 1) := by decide +kernel
theorem dX2_takesNumber_24 : decode cX2_takesNumber 24 = .ok (.getfield 87, 3) := by decide +kernel
theorem dX2_takesNumber_27 : decode cX2_takesNumber 27 = .ok (.if_icmp .ge 24, 3) := by decide +kernel
theorem dX2_takesNumber_30 : decode cX2_takesNumber 30 = .ok (.bipush 10, 2) := by decide +kernel
theorem dX2_takesNumber_32 : decode cX2_takesNumber 32 = .ok (.iload_n 1, 1) := by decide +kernel
theorem dX2_takesNumber_33 : decode cX2_takesNumber 33 = .ok (.imul, 1) := by decide +kernel
theorem dX2_takesNumber_34 : decode cX2_takesNumber 34 = .ok (.aload_n 0, 1) := by decide +kernel
theorem dX2_takesNumber_35 : decode cX2_takesNumber 35 = .ok (.getfield 9, 3) := by decide +kernel
theorem dX2_takesNumber_38 : decode cX2_takesNumber 38 = .ok (.iload_n 2, 1) := by decide +kernel
theorem dX2_takesNumber_39 : decode cX2_takesNumber 39 = .ok (.baload, 1) := by decide +kernel
theorem dX2_takesNumber_40 : decode cX2_takesNumber 40 = .ok (.iadd, 1) := by decide +kernel
theorem dX2_takesNumber_41 : decode cX2_takesNumber 41 = .ok (.bipush 48, 2) := by decide +kernel
theorem dX2_takesNumber_43 : decode cX2_takesNumber 43 = .ok (.isub, 1) := by decide +kernel
theorem dX2_takesNumber_44 : decode cX2_takesNumber 44 = .ok (.istore_n 1, 1) := by decide +kernel
theorem dX2_takesNumber_45 : decode cX2_takesNumber 45 = .ok (.iinc 2 1, 3) := by decide +kernel
theorem dX2_takesNumber_48 : decode cX2_takesNumber 48 = .ok (.goto (-26), 3) := by decide +kernel
theorem dX2_takesNumber_51 : decode cX2_takesNumber 51 = .ok (.aload_n 0, 1) := by decide +kernel
theorem dX2_takesNumber_52 : decode cX2_takesNumber 52 = .ok (.dup, 1) := by decide +kernel
theorem dX2_takesNumber_53 : decode cX2_takesNumber 53 = .ok (.getfield 66, 3) := by decide +kernel
theorem dX2_takesNumber_56 : decode cX2_takesNumber 56 = .ok (.iconst 1, 1) := by decide +kernel
theorem dX2_takesNumber_57 : decode cX2_takesNumber 57 = .ok (.iadd, 1) := by decide +kernel
theorem dX2_takesNumber_58 : decode cX2_takesNumber 58 = .ok (.putfield 66, 3) := by decide +kernel
theorem dX2_takesNumber_61 : decode cX2_takesNumber 61 = .ok (.aload_n 0, 1) := by decide +kernel
theorem dX2_takesNumber_62 : decode cX2_takesNumber 62 = .ok (.iload_n 1, 1) := by decide +kernel
theorem dX2_takesNumber_63 : decode cX2_takesNumber 63 = .ok (.invokevirtual 128, 3) := by decide +kernel
theorem dX2_takesNumber_66 : decode cX2_takesNumber 66 = .ok (.aload_n 0, 1) := by decide +kernel
theorem dX2_takesNumber_67 : decode cX2_takesNumber 67 = .ok (.invokevirtual 131, 3) := by decide +kernel
theorem dX2_takesNumber_70 : decode cX2_takesNumber 70 = .ok (.iconst 1, 1) := by decide +kernel
theorem dX2_takesNumber_71 : decode cX2_takesNumber 71 = .ok (.ireturn, 1) := by decide +kernel
theorem dX2_takesName_0 : decode cX2_takesName 0 = .ok (.aload_n 0, 1) := by decide +kernel
theorem dX2_takesName_1 : decode cX2_takesName 1 = .ok (.getfield 33, 3) := by decide +kernel
theorem dX2_takesName_4 : decode cX2_takesName 4 = .ok (.ifCond .ne 8, 3) := by decide +kernel
theorem dX2_takesName_7 : decode cX2_takesName 7 = .ok (.ldc 134, 2) := by decide +kernel
theorem dX2_takesName_9 : decode cX2_takesName 9 = .ok (.goto 18, 3) := by decide +kernel
theorem dX2_takesName_12 : decode cX2_takesName 12 = .ok (.aload_n 0, 1) := by decide +kernel
theorem dX2_takesName_13 : decode cX2_takesName 13 = .ok (.getfield 33, 3) := by decide +kernel
theorem dX2_takesName_16 : decode cX2_takesName 16 = .ok (.iconst 1, 1) := by decide +kernel
theorem dX2_takesName_17 : decode cX2_takesName 17 = .ok (.if_icmp .ne 8, 3) := by decide +kernel
theorem dX2_takesName_20 : decode cX2_takesName 20 = .ok (.ldc 136, 2) := by decide +kernel
theorem dX2_takesName_22 : decode cX2_takesName 22 = .ok (.goto 5, 3) := by decide +kernel
theorem dX2_takesName_25 : decode cX2_takesName 25 = .ok (.ldc 138, 2) := by decide +kernel
theorem dX2_takesName_27 : decode cX2_takesName 27 = .ok (.astore_n 1, 1) := by decide +kernel
theorem dX2_takesName_28 : decode cX2_takesName 28 = .ok (.aload_n 0, 1) := by decide +kernel
theorem dX2_takesName_29 : decode cX2_takesName 29 = .ok (.getfield 87, 3) := by decide +kernel
theorem dX2_takesName_32 : decode cX2_takesName 32 = .ok (.aload_n 0, 1) := by decide +kernel
theorem dX2_takesName_33 : decode cX2_takesName 33 = .ok (.getfield 37, 3) := by decide +kernel
theorem dX2_takesName_36 : decode cX2_takesName 36 = .ok (.isub, 1) := by decide +kernel
theorem dX2_takesName_37 : decode cX2_takesName 37 = .ok (.iconst 1, 1) := by decide +kernel
theorem dX2_takesName_38 : decode cX2_takesName 38 = .ok (.if_icmp .ne 20, 3) := by decide +kernel
theorem dX2_takesName_41 : decode cX2_takesName 41 = .ok (.aload_n 1, 1) := by decide +kernel
theorem dX2_takesName_42 : decode cX2_takesName 42 = .ok (.aload_n 0, 1) := by decide +kernel
theorem dX2_takesName_43 : decode cX2_takesName 43 = .ok (.getfield 9, 3) := by decide +kernel
theorem dX2_takesName_46 : decode cX2_takesName 46 = .ok (.aload_n 0, 1) := by decide +kernel
theorem dX2_takesName_47 : decode cX2_takesName 47 = .ok (.getfield 37, 3) := by decide +kernel
theorem dX2_takesName_50 : decode cX2_takesName 50 = .ok (.baload, 1) := by decide +kernel
theorem dX2_takesName_51 : decode cX2_takesName 51 = .ok (.i2c, 1) := by decide +kernel
theorem dX2_takesName_52 : decode cX2_takesName 52 = .ok (.invokevirtual 140, 3) := by decide +kernel
theorem dX2_takesName_55 : decode cX2_takesName 55 = .ok (.goto 4, 3) := by decide +kernel
theorem dX2_takesName_58 : decode cX2_takesName 58 = .ok (.iconst (-1), 1) := by decide +kernel
theorem dX2_takesName_59 : decode cX2_takesName 59 = .ok (.istore_n 2, 1) := by decide +kernel
theorem dX2_takesName_60 : decode cX2_takesName 60 = .ok (.iload_n 2, 1) := by decide +kernel
theorem dX2_takesName_61 : decode cX2_takesName 61 = .ok (.ifCond .ge 5, 3) := by decide +kernel
theorem dX2_takesName_64 : decode cX2_takesName 64 = .ok (.iconst 0, 1) := by decide +kernel
theorem dX2_takesName_65 : decode cX2_takesName 65 = .ok (.ireturn, 1) := by decide +kernel
theorem dX2_takesName_66 : decode cX2_takesName 66 = .ok (.aload_n 0, 1) := by decide +kernel
theorem dX2_takesName_67 : decode cX2_takesName 67 = .ok (.dup, 1) := by decide +kernel
theorem dX2_takesName_68 : decode cX2_takesName 68 = .ok (.getfield 66, 3) := by decide +kernel
theorem dX2_takesName_71 : decode cX2_takesName 71 = .ok (.iconst 1, 1) := by decide +kernel
theorem dX2_takesName_72 : decode cX2_takesName 72 = .ok (.iadd, 1) := by decide +kernel
theorem dX2_takesName_73 : decode cX2_takesName 73 = .ok (.putfield 66, 3) := by decide +kernel
theorem dX2_takesName_76 : decode cX2_takesName 76 = .ok (.aload_n 0, 1) := by decide +kernel
theorem dX2_takesName_77 : decode cX2_takesName 77 = .ok (.sipush 10000, 3) := by decide +kernel
theorem dX2_takesName_80 : decode cX2_takesName 80 = .ok (.iload_n 2, 1) := by decide +kernel
theorem dX2_takesName_81 : decode cX2_takesName 81 = .ok (.iadd, 1) := by decide +kernel
theorem dX2_takesName_82 : decode cX2_takesName 82 = .ok (.invokevirtual 128, 3) := by decide +kernel
theorem dX2_takesName_85 : decode cX2_takesName 85 = .ok (.aload_n 0, 1) := by decide +kernel
theorem dX2_takesName_86 : decode cX2_takesName 86 = .ok (.invokevirtual 131, 3) := by decide +kernel
theorem dX2_takesName_89 : decode cX2_takesName 89 = .ok (.iconst 1, 1) := by decide +kernel
theorem dX2_takesName_90 : decode cX2_takesName 90 = .ok (.ireturn, 1) := by decide +kernel
theorem dX2_opens_0 : decode cX2_opens 0 = .ok (.iload_n 1, 1) := by decide +kernel
theorem dX2_opens_1 : decode cX2_opens 1 = .ok (.bipush 40, 2) := by decide +kernel
theorem dX2_opens_3 : decode cX2_opens 3 = .ok (.if_icmp .ne 25, 3) := by decide +kernel
theorem dX2_opens_6 : decode cX2_opens 6 = .ok (.aload_n 0, 1) := by decide +kernel
theorem dX2_opens_7 : decode cX2_opens 7 = .ok (.getfield 54, 3) := by decide +kernel
theorem dX2_opens_10 : decode cX2_opens 10 = .ok (.bipush 8, 2) := by decide +kernel
theorem dX2_opens_12 : decode cX2_opens 12 = .ok (.if_icmp .ge 16, 3) := by decide +kernel
theorem dX2_opens_15 : decode cX2_opens 15 = .ok (.aload_n 0, 1) := by decide +kernel
theorem dX2_opens_16 : decode cX2_opens 16 = .ok (.dup, 1) := by decide +kernel
theorem dX2_opens_17 : decode cX2_opens 17 = .ok (.getfield 54, 3) := by decide +kernel
theorem dX2_opens_20 : decode cX2_opens 20 = .ok (.iconst 1, 1) := by decide +kernel
theorem dX2_opens_21 : decode cX2_opens 21 = .ok (.iadd, 1) := by decide +kernel
theorem dX2_opens_22 : decode cX2_opens 22 = .ok (.putfield 54, 3) := by decide +kernel
theorem dX2_opens_25 : decode cX2_opens 25 = .ok (.goto 33, 3) := by decide +kernel
theorem dX2_opens_28 : decode cX2_opens 28 = .ok (.iload_n 1, 1) := by decide +kernel
theorem dX2_opens_29 : decode cX2_opens 29 = .ok (.bipush 33, 2) := by decide +kernel
theorem dX2_opens_31 : decode cX2_opens 31 = .ok (.if_icmp .ne 25, 3) := by decide +kernel
theorem dX2_opens_34 : decode cX2_opens 34 = .ok (.aload_n 0, 1) := by decide +kernel
theorem dX2_opens_35 : decode cX2_opens 35 = .ok (.getfield 93, 3) := by decide +kernel
theorem dX2_opens_38 : decode cX2_opens 38 = .ok (.bipush 8, 2) := by decide +kernel
theorem dX2_opens_40 : decode cX2_opens 40 = .ok (.if_icmp .ge 16, 3) := by decide +kernel
theorem dX2_opens_43 : decode cX2_opens 43 = .ok (.aload_n 0, 1) := by decide +kernel
theorem dX2_opens_44 : decode cX2_opens 44 = .ok (.dup, 1) := by decide +kernel
theorem dX2_opens_45 : decode cX2_opens 45 = .ok (.getfield 93, 3) := by decide +kernel
theorem dX2_opens_48 : decode cX2_opens 48 = .ok (.iconst 1, 1) := by decide +kernel
theorem dX2_opens_49 : decode cX2_opens 49 = .ok (.iadd, 1) := by decide +kernel
theorem dX2_opens_50 : decode cX2_opens 50 = .ok (.putfield 93, 3) := by decide +kernel
theorem dX2_opens_53 : decode cX2_opens 53 = .ok (.goto 5, 3) := by decide +kernel
theorem dX2_opens_56 : decode cX2_opens 56 = .ok (.iconst 0, 1) := by decide +kernel
theorem dX2_opens_57 : decode cX2_opens 57 = .ok (.ireturn, 1) := by decide +kernel
theorem dX2_opens_58 : decode cX2_opens 58 = .ok (.aload_n 0, 1) := by decide +kernel
theorem dX2_opens_59 : decode cX2_opens 59 = .ok (.iload_n 1, 1) := by decide +kernel
theorem dX2_opens_60 : decode cX2_opens 60 = .ok (.invokevirtual 143, 3) := by decide +kernel
theorem dX2_opens_63 : decode cX2_opens 63 = .ok (.iconst 1, 1) := by decide +kernel
theorem dX2_opens_64 : decode cX2_opens 64 = .ok (.ireturn, 1) := by decide +kernel
theorem dX2_takesSign_0 : decode cX2_takesSign 0 = .ok (.aload_n 0, 1) := by decide +kernel
theorem dX2_takesSign_1 : decode cX2_takesSign 1 = .ok (.getfield 40, 3) := by decide +kernel
theorem dX2_takesSign_4 : decode cX2_takesSign 4 = .ok (.iconst 3, 1) := by decide +kernel
theorem dX2_takesSign_5 : decode cX2_takesSign 5 = .ok (.if_icmp .eq 5, 3) := by decide +kernel
theorem dX2_takesSign_8 : decode cX2_takesSign 8 = .ok (.iconst 0, 1) := by decide +kernel
theorem dX2_takesSign_9 : decode cX2_takesSign 9 = .ok (.ireturn, 1) := by decide +kernel
theorem dX2_takesSign_10 : decode cX2_takesSign 10 = .ok (.aload_n 0, 1) := by decide +kernel
theorem dX2_takesSign_11 : decode cX2_takesSign 11 = .ok (.getfield 9, 3) := by decide +kernel
theorem dX2_takesSign_14 : decode cX2_takesSign 14 = .ok (.aload_n 0, 1) := by decide +kernel
theorem dX2_takesSign_15 : decode cX2_takesSign 15 = .ok (.getfield 37, 3) := by decide +kernel
theorem dX2_takesSign_18 : decode cX2_takesSign 18 = .ok (.baload, 1) := by decide +kernel
theorem dX2_takesSign_19 : decode cX2_takesSign 19 = .ok (.istore_n 1, 1) := by decide +kernel
theorem dX2_takesSign_20 : decode cX2_takesSign 20 = .ok (.iload_n 1, 1) := by decide +kernel
theorem dX2_takesSign_21 : decode cX2_takesSign 21 = .ok (.bipush 41, 2) := by decide +kernel
theorem dX2_takesSign_23 : decode cX2_takesSign 23 = .ok (.if_icmp .ne 8, 3) := by decide +kernel
theorem dX2_takesSign_26 : decode cX2_takesSign 26 = .ok (.aload_n 0, 1) := by decide +kernel
theorem dX2_takesSign_27 : decode cX2_takesSign 27 = .ok (.invokevirtual 146, 3) := by decide +kernel
theorem dX2_takesSign_30 : decode cX2_takesSign 30 = .ok (.ireturn, 1) := by decide +kernel
theorem dX2_takesSign_31 : decode cX2_takesSign 31 = .ok (.iload_n 1, 1) := by decide +kernel
theorem dX2_takesSign_32 : decode cX2_takesSign 32 = .ok (.invokestatic 149, 3) := by decide +kernel
theorem dX2_takesSign_35 : decode cX2_takesSign 35 = .ok (.istore_n 2, 1) := by decide +kernel
theorem dX2_takesSign_36 : decode cX2_takesSign 36 = .ok (.iload_n 2, 1) := by decide +kernel
theorem dX2_takesSign_37 : decode cX2_takesSign 37 = .ok (.ifCond .ne 5, 3) := by decide +kernel
theorem dX2_takesSign_40 : decode cX2_takesSign 40 = .ok (.iconst 0, 1) := by decide +kernel
theorem dX2_takesSign_41 : decode cX2_takesSign 41 = .ok (.ireturn, 1) := by decide +kernel
theorem dX2_takesSign_42 : decode cX2_takesSign 42 = .ok (.iload_n 2, 1) := by decide +kernel
theorem dX2_takesSign_43 : decode cX2_takesSign 43 = .ok (.iconst 3, 1) := by decide +kernel
theorem dX2_takesSign_44 : decode cX2_takesSign 44 = .ok (.if_icmp .ne 35, 3) := by decide +kernel
theorem dX2_takesSign_47 : decode cX2_takesSign 47 = .ok (.aload_n 0, 1) := by decide +kernel
theorem dX2_takesSign_48 : decode cX2_takesSign 48 = .ok (.iconst 4, 1) := by decide +kernel
theorem dX2_takesSign_49 : decode cX2_takesSign 49 = .ok (.invokevirtual 60, 3) := by decide +kernel
theorem dX2_takesSign_52 : decode cX2_takesSign 52 = .ok (.aload_n 0, 1) := by decide +kernel
theorem dX2_takesSign_53 : decode cX2_takesSign 53 = .ok (.getfield 90, 3) := by decide +kernel
theorem dX2_takesSign_56 : decode cX2_takesSign 56 = .ok (.ifCond .le 23, 3) := by decide +kernel
theorem dX2_takesSign_59 : decode cX2_takesSign 59 = .ok (.aload_n 0, 1) := by decide +kernel
theorem dX2_takesSign_60 : decode cX2_takesSign 60 = .ok (.getfield 19, 3) := by decide +kernel
theorem dX2_takesSign_63 : decode cX2_takesSign 63 = .ok (.aload_n 0, 1) := by decide +kernel
theorem dX2_takesSign_64 : decode cX2_takesSign 64 = .ok (.getfield 90, 3) := by decide +kernel
theorem dX2_takesSign_67 : decode cX2_takesSign 67 = .ok (.iconst 1, 1) := by decide +kernel
theorem dX2_takesSign_68 : decode cX2_takesSign 68 = .ok (.isub, 1) := by decide +kernel
theorem dX2_takesSign_69 : decode cX2_takesSign 69 = .ok (.iaload, 1) := by decide +kernel
theorem dX2_takesSign_70 : decode cX2_takesSign 70 = .ok (.invokestatic 149, 3) := by decide +kernel
theorem dX2_takesSign_73 : decode cX2_takesSign 73 = .ok (.iconst 3, 1) := by decide +kernel
theorem dX2_takesSign_74 : decode cX2_takesSign 74 = .ok (.if_icmp .ne 5, 3) := by decide +kernel
theorem dX2_takesSign_77 : decode cX2_takesSign 77 = .ok (.iconst 0, 1) := by decide +kernel
theorem dX2_takesSign_78 : decode cX2_takesSign 78 = .ok (.ireturn, 1) := by decide +kernel
theorem dX2_takesSign_79 : decode cX2_takesSign 79 = .ok (.aload_n 0, 1) := by decide +kernel
theorem dX2_takesSign_80 : decode cX2_takesSign 80 = .ok (.iload_n 2, 1) := by decide +kernel
theorem dX2_takesSign_81 : decode cX2_takesSign 81 = .ok (.invokevirtual 60, 3) := by decide +kernel
theorem dX2_takesSign_84 : decode cX2_takesSign 84 = .ok (.aload_n 0, 1) := by decide +kernel
theorem dX2_takesSign_85 : decode cX2_takesSign 85 = .ok (.iload_n 1, 1) := by decide +kernel
theorem dX2_takesSign_86 : decode cX2_takesSign 86 = .ok (.invokevirtual 143, 3) := by decide +kernel
theorem dX2_takesSign_89 : decode cX2_takesSign 89 = .ok (.iconst 1, 1) := by decide +kernel
theorem dX2_takesSign_90 : decode cX2_takesSign 90 = .ok (.ireturn, 1) := by decide +kernel
theorem dX2_closesBracket_0 : decode cX2_closesBracket 0 = .ok (.aload_n 0, 1) := by decide +kernel
theorem dX2_closesBracket_1 : decode cX2_closesBracket 1 = .ok (.getfield 54, 3) := by decide +kernel
theorem dX2_closesBracket_4 : decode cX2_closesBracket 4 = .ok (.ifCond .ne 5, 3) := by decide +kernel
theorem dX2_closesBracket_7 : decode cX2_closesBracket 7 = .ok (.iconst 0, 1) := by decide +kernel
theorem dX2_closesBracket_8 : decode cX2_closesBracket 8 = .ok (.ireturn, 1) := by decide +kernel
theorem dX2_closesBracket_9 : decode cX2_closesBracket 9 = .ok (.aload_n 0, 1) := by decide +kernel
theorem dX2_closesBracket_10 : decode cX2_closesBracket 10 = .ok (.iconst 1, 1) := by decide +kernel
theorem dX2_closesBracket_11 : decode cX2_closesBracket 11 = .ok (.invokevirtual 60, 3) := by decide +kernel
theorem dX2_closesBracket_14 : decode cX2_closesBracket 14 = .ok (.aload_n 0, 1) := by decide +kernel
theorem dX2_closesBracket_15 : decode cX2_closesBracket 15 = .ok (.dup, 1) := by decide +kernel
theorem dX2_closesBracket_16 : decode cX2_closesBracket 16 = .ok (.getfield 54, 3) := by decide +kernel
theorem dX2_closesBracket_19 : decode cX2_closesBracket 19 = .ok (.iconst 1, 1) := by decide +kernel
theorem dX2_closesBracket_20 : decode cX2_closesBracket 20 = .ok (.isub, 1) := by decide +kernel
theorem dX2_closesBracket_21 : decode cX2_closesBracket 21 = .ok (.putfield 54, 3) := by decide +kernel
theorem dX2_closesBracket_24 : decode cX2_closesBracket 24 = .ok (.aload_n 0, 1) := by decide +kernel
theorem dX2_closesBracket_25 : decode cX2_closesBracket 25 = .ok (.dup, 1) := by decide +kernel
theorem dX2_closesBracket_26 : decode cX2_closesBracket 26 = .ok (.getfield 90, 3) := by decide +kernel
theorem dX2_closesBracket_29 : decode cX2_closesBracket 29 = .ok (.iconst 1, 1) := by decide +kernel
theorem dX2_closesBracket_30 : decode cX2_closesBracket 30 = .ok (.isub, 1) := by decide +kernel
theorem dX2_closesBracket_31 : decode cX2_closesBracket 31 = .ok (.putfield 90, 3) := by decide +kernel
theorem dX2_closesBracket_34 : decode cX2_closesBracket 34 = .ok (.aload_n 0, 1) := by decide +kernel
theorem dX2_closesBracket_35 : decode cX2_closesBracket 35 = .ok (.invokevirtual 131, 3) := by decide +kernel
theorem dX2_closesBracket_38 : decode cX2_closesBracket 38 = .ok (.iconst 1, 1) := by decide +kernel
theorem dX2_closesBracket_39 : decode cX2_closesBracket 39 = .ok (.ireturn, 1) := by decide +kernel
theorem dX2_levelOf_0 : decode cX2_levelOf 0 = .ok (.iload_n 0, 1) := by decide +kernel
theorem dX2_levelOf_1 : decode cX2_levelOf 1 = .ok (.lookupswitch 93 #[(38, 85), (42, 91), (43, 89), (45, 89), (47, 91), (60, 87), (61, 87), (62, 87), (124, 83)], 83) := by decide +kernel
theorem dX2_levelOf_84 : decode cX2_levelOf 84 = .ok (.iconst 1, 1) := by decide +kernel
theorem dX2_levelOf_85 : decode cX2_levelOf 85 = .ok (.ireturn, 1) := by decide +kernel
theorem dX2_levelOf_86 : decode cX2_levelOf 86 = .ok (.iconst 2, 1) := by decide +kernel
theorem dX2_levelOf_87 : decode cX2_levelOf 87 = .ok (.ireturn, 1) := by decide +kernel
theorem dX2_levelOf_88 : decode cX2_levelOf 88 = .ok (.iconst 3, 1) := by decide +kernel
theorem dX2_levelOf_89 : decode cX2_levelOf 89 = .ok (.ireturn, 1) := by decide +kernel
theorem dX2_levelOf_90 : decode cX2_levelOf 90 = .ok (.iconst 4, 1) := by decide +kernel
theorem dX2_levelOf_91 : decode cX2_levelOf 91 = .ok (.ireturn, 1) := by decide +kernel
theorem dX2_levelOf_92 : decode cX2_levelOf 92 = .ok (.iconst 5, 1) := by decide +kernel
theorem dX2_levelOf_93 : decode cX2_levelOf 93 = .ok (.ireturn, 1) := by decide +kernel
theorem dX2_levelOf_94 : decode cX2_levelOf 94 = .ok (.iconst 0, 1) := by decide +kernel
theorem dX2_levelOf_95 : decode cX2_levelOf 95 = .ok (.ireturn, 1) := by decide +kernel
theorem dX2_putOff_0 : decode cX2_putOff 0 = .ok (.aload_n 0, 1) := by decide +kernel
theorem dX2_putOff_1 : decode cX2_putOff 1 = .ok (.getfield 90, 3) := by decide +kernel
theorem dX2_putOff_4 : decode cX2_putOff 4 = .ok (.aload_n 0, 1) := by decide +kernel
theorem dX2_putOff_5 : decode cX2_putOff 5 = .ok (.getfield 19, 3) := by decide +kernel
theorem dX2_putOff_8 : decode cX2_putOff 8 = .ok (.arraylength, 1) := by decide +kernel
theorem dX2_putOff_9 : decode cX2_putOff 9 = .ok (.if_icmp .ge 23, 3) := by decide +kernel
theorem dX2_putOff_12 : decode cX2_putOff 12 = .ok (.aload_n 0, 1) := by decide +kernel
theorem dX2_putOff_13 : decode cX2_putOff 13 = .ok (.getfield 19, 3) := by decide +kernel
theorem dX2_putOff_16 : decode cX2_putOff 16 = .ok (.aload_n 0, 1) := by decide +kernel
theorem dX2_putOff_17 : decode cX2_putOff 17 = .ok (.getfield 90, 3) := by decide +kernel
theorem dX2_putOff_20 : decode cX2_putOff 20 = .ok (.iload_n 1, 1) := by decide +kernel
theorem dX2_putOff_21 : decode cX2_putOff 21 = .ok (.iastore, 1) := by decide +kernel
theorem dX2_putOff_22 : decode cX2_putOff 22 = .ok (.aload_n 0, 1) := by decide +kernel
theorem dX2_putOff_23 : decode cX2_putOff 23 = .ok (.dup, 1) := by decide +kernel
theorem dX2_putOff_24 : decode cX2_putOff 24 = .ok (.getfield 90, 3) := by decide +kernel
theorem dX2_putOff_27 : decode cX2_putOff 27 = .ok (.iconst 1, 1) := by decide +kernel
theorem dX2_putOff_28 : decode cX2_putOff 28 = .ok (.iadd, 1) := by decide +kernel
theorem dX2_putOff_29 : decode cX2_putOff 29 = .ok (.putfield 90, 3) := by decide +kernel
theorem dX2_putOff_32 : decode cX2_putOff 32 = .ok (.return_, 1) := by decide +kernel
theorem dX2_closeDownTo_0 : decode cX2_closeDownTo 0 = .ok (.aload_n 0, 1) := by decide +kernel
theorem dX2_closeDownTo_1 : decode cX2_closeDownTo 1 = .ok (.getfield 90, 3) := by decide +kernel
theorem dX2_closeDownTo_4 : decode cX2_closeDownTo 4 = .ok (.ifCond .le 48, 3) := by decide +kernel
theorem dX2_closeDownTo_7 : decode cX2_closeDownTo 7 = .ok (.aload_n 0, 1) := by decide +kernel
theorem dX2_closeDownTo_8 : decode cX2_closeDownTo 8 = .ok (.getfield 19, 3) := by decide +kernel
theorem dX2_closeDownTo_11 : decode cX2_closeDownTo 11 = .ok (.aload_n 0, 1) := by decide +kernel
theorem dX2_closeDownTo_12 : decode cX2_closeDownTo 12 = .ok (.getfield 90, 3) := by decide +kernel
theorem dX2_closeDownTo_15 : decode cX2_closeDownTo 15 = .ok (.iconst 1, 1) := by decide +kernel
theorem dX2_closeDownTo_16 : decode cX2_closeDownTo 16 = .ok (.isub, 1) := by decide +kernel
theorem dX2_closeDownTo_17 : decode cX2_closeDownTo 17 = .ok (.iaload, 1) := by decide +kernel
theorem dX2_closeDownTo_18 : decode cX2_closeDownTo 18 = .ok (.invokestatic 149, 3) := by decide +kernel
theorem dX2_closeDownTo_21 : decode cX2_closeDownTo 21 = .ok (.iload_n 1, 1) := by decide +kernel
theorem dX2_closeDownTo_22 : decode cX2_closeDownTo 22 = .ok (.if_icmp .lt 30, 3) := by decide +kernel
theorem dX2_closeDownTo_25 : decode cX2_closeDownTo 25 = .ok (.aload_n 0, 1) := by decide +kernel
theorem dX2_closeDownTo_26 : decode cX2_closeDownTo 26 = .ok (.dup, 1) := by decide +kernel
theorem dX2_closeDownTo_27 : decode cX2_closeDownTo 27 = .ok (.getfield 90, 3) := by decide +kernel
theorem dX2_closeDownTo_30 : decode cX2_closeDownTo 30 = .ok (.iconst 1, 1) := by decide +kernel
theorem dX2_closeDownTo_31 : decode cX2_closeDownTo 31 = .ok (.isub, 1) := by decide +kernel
theorem dX2_closeDownTo_32 : decode cX2_closeDownTo 32 = .ok (.putfield 90, 3) := by decide +kernel
theorem dX2_closeDownTo_35 : decode cX2_closeDownTo 35 = .ok (.aload_n 0, 1) := by decide +kernel
theorem dX2_closeDownTo_36 : decode cX2_closeDownTo 36 = .ok (.aload_n 0, 1) := by decide +kernel
theorem dX2_closeDownTo_37 : decode cX2_closeDownTo 37 = .ok (.getfield 19, 3) := by decide +kernel
theorem dX2_closeDownTo_40 : decode cX2_closeDownTo 40 = .ok (.aload_n 0, 1) := by decide +kernel
theorem dX2_closeDownTo_41 : decode cX2_closeDownTo 41 = .ok (.getfield 90, 3) := by decide +kernel
theorem dX2_closeDownTo_44 : decode cX2_closeDownTo 44 = .ok (.iaload, 1) := by decide +kernel
theorem dX2_closeDownTo_45 : decode cX2_closeDownTo 45 = .ok (.ineg, 1) := by decide +kernel
theorem dX2_closeDownTo_46 : decode cX2_closeDownTo 46 = .ok (.invokevirtual 128, 3) := by decide +kernel
theorem dX2_closeDownTo_49 : decode cX2_closeDownTo 49 = .ok (.goto (-49), 3) := by decide +kernel
theorem dX2_closeDownTo_52 : decode cX2_closeDownTo 52 = .ok (.return_, 1) := by decide +kernel
theorem dX2_closeNots_0 : decode cX2_closeNots 0 = .ok (.aload_n 0, 1) := by decide +kernel
theorem dX2_closeNots_1 : decode cX2_closeNots 1 = .ok (.getfield 90, 3) := by decide +kernel
theorem dX2_closeNots_4 : decode cX2_closeNots 4 = .ok (.ifCond .le 48, 3) := by decide +kernel
theorem dX2_closeNots_7 : decode cX2_closeNots 7 = .ok (.aload_n 0, 1) := by decide +kernel
theorem dX2_closeNots_8 : decode cX2_closeNots 8 = .ok (.getfield 19, 3) := by decide +kernel
theorem dX2_closeNots_11 : decode cX2_closeNots 11 = .ok (.aload_n 0, 1) := by decide +kernel
theorem dX2_closeNots_12 : decode cX2_closeNots 12 = .ok (.getfield 90, 3) := by decide +kernel
theorem dX2_closeNots_15 : decode cX2_closeNots 15 = .ok (.iconst 1, 1) := by decide +kernel
theorem dX2_closeNots_16 : decode cX2_closeNots 16 = .ok (.isub, 1) := by decide +kernel
theorem dX2_closeNots_17 : decode cX2_closeNots 17 = .ok (.iaload, 1) := by decide +kernel
theorem dX2_closeNots_18 : decode cX2_closeNots 18 = .ok (.bipush 33, 2) := by decide +kernel
theorem dX2_closeNots_20 : decode cX2_closeNots 20 = .ok (.if_icmp .ne 32, 3) := by decide +kernel
theorem dX2_closeNots_23 : decode cX2_closeNots 23 = .ok (.aload_n 0, 1) := by decide +kernel
theorem dX2_closeNots_24 : decode cX2_closeNots 24 = .ok (.dup, 1) := by decide +kernel
theorem dX2_closeNots_25 : decode cX2_closeNots 25 = .ok (.getfield 90, 3) := by decide +kernel
theorem dX2_closeNots_28 : decode cX2_closeNots 28 = .ok (.iconst 1, 1) := by decide +kernel
theorem dX2_closeNots_29 : decode cX2_closeNots 29 = .ok (.isub, 1) := by decide +kernel
theorem dX2_closeNots_30 : decode cX2_closeNots 30 = .ok (.putfield 90, 3) := by decide +kernel
theorem dX2_closeNots_33 : decode cX2_closeNots 33 = .ok (.aload_n 0, 1) := by decide +kernel
theorem dX2_closeNots_34 : decode cX2_closeNots 34 = .ok (.dup, 1) := by decide +kernel
theorem dX2_closeNots_35 : decode cX2_closeNots 35 = .ok (.getfield 93, 3) := by decide +kernel
theorem dX2_closeNots_38 : decode cX2_closeNots 38 = .ok (.iconst 1, 1) := by decide +kernel
theorem dX2_closeNots_39 : decode cX2_closeNots 39 = .ok (.isub, 1) := by decide +kernel
theorem dX2_closeNots_40 : decode cX2_closeNots 40 = .ok (.putfield 93, 3) := by decide +kernel
theorem dX2_closeNots_43 : decode cX2_closeNots 43 = .ok (.aload_n 0, 1) := by decide +kernel
theorem dX2_closeNots_44 : decode cX2_closeNots 44 = .ok (.bipush (-33), 2) := by decide +kernel
theorem dX2_closeNots_46 : decode cX2_closeNots 46 = .ok (.invokevirtual 128, 3) := by decide +kernel
theorem dX2_closeNots_49 : decode cX2_closeNots 49 = .ok (.goto (-49), 3) := by decide +kernel
theorem dX2_closeNots_52 : decode cX2_closeNots 52 = .ok (.return_, 1) := by decide +kernel
theorem dX2_write_0 : decode cX2_write 0 = .ok (.aload_n 0, 1) := by decide +kernel
theorem dX2_write_1 : decode cX2_write 1 = .ok (.getfield 69, 3) := by decide +kernel
theorem dX2_write_4 : decode cX2_write 4 = .ok (.aload_n 0, 1) := by decide +kernel
theorem dX2_write_5 : decode cX2_write 5 = .ok (.getfield 15, 3) := by decide +kernel
theorem dX2_write_8 : decode cX2_write 8 = .ok (.arraylength, 1) := by decide +kernel
theorem dX2_write_9 : decode cX2_write 9 = .ok (.if_icmp .ge 23, 3) := by decide +kernel
theorem dX2_write_12 : decode cX2_write 12 = .ok (.aload_n 0, 1) := by decide +kernel
theorem dX2_write_13 : decode cX2_write 13 = .ok (.getfield 15, 3) := by decide +kernel
theorem dX2_write_16 : decode cX2_write 16 = .ok (.aload_n 0, 1) := by decide +kernel
theorem dX2_write_17 : decode cX2_write 17 = .ok (.getfield 69, 3) := by decide +kernel
theorem dX2_write_20 : decode cX2_write 20 = .ok (.iload_n 1, 1) := by decide +kernel
theorem dX2_write_21 : decode cX2_write 21 = .ok (.iastore, 1) := by decide +kernel
theorem dX2_write_22 : decode cX2_write 22 = .ok (.aload_n 0, 1) := by decide +kernel
theorem dX2_write_23 : decode cX2_write 23 = .ok (.dup, 1) := by decide +kernel
theorem dX2_write_24 : decode cX2_write 24 = .ok (.getfield 69, 3) := by decide +kernel
theorem dX2_write_27 : decode cX2_write 27 = .ok (.iconst 1, 1) := by decide +kernel
theorem dX2_write_28 : decode cX2_write 28 = .ok (.iadd, 1) := by decide +kernel
theorem dX2_write_29 : decode cX2_write 29 = .ok (.putfield 69, 3) := by decide +kernel
theorem dX2_write_32 : decode cX2_write 32 = .ok (.return_, 1) := by decide +kernel
theorem dJ0_length_8abf5_0 : decode cJ0_length_8abf5 0 = .ok (.aload_n 0, 1) := by decide +kernel
theorem dJ0_length_8abf5_1 : decode cJ0_length_8abf5 1 = .ok (.getfield 9, 3) := by decide +kernel
theorem dJ0_length_8abf5_4 : decode cJ0_length_8abf5 4 = .ok (.arraylength, 1) := by decide +kernel
theorem dJ0_length_8abf5_5 : decode cJ0_length_8abf5 5 = .ok (.aload_n 0, 1) := by decide +kernel
theorem dJ0_length_8abf5_6 : decode cJ0_length_8abf5 6 = .ok (.invokevirtual 335, 3) := by decide +kernel
theorem dJ0_length_8abf5_9 : decode cJ0_length_8abf5 9 = .ok (.ishr, 1) := by decide +kernel
theorem dJ0_length_8abf5_10 : decode cJ0_length_8abf5 10 = .ok (.ireturn, 1) := by decide +kernel
theorem dJ0_charAt_5068e_0 : decode cJ0_charAt_5068e 0 = .ok (.aload_n 0, 1) := by decide +kernel
theorem dJ0_charAt_5068e_1 : decode cJ0_charAt_5068e 1 = .ok (.invokevirtual 492, 3) := by decide +kernel
theorem dJ0_charAt_5068e_4 : decode cJ0_charAt_5068e 4 = .ok (.ifCond .eq 12, 3) := by decide +kernel
theorem dJ0_charAt_5068e_7 : decode cJ0_charAt_5068e 7 = .ok (.aload_n 0, 1) := by decide +kernel
theorem dJ0_charAt_5068e_8 : decode cJ0_charAt_5068e 8 = .ok (.getfield 9, 3) := by decide +kernel
theorem dJ0_charAt_5068e_11 : decode cJ0_charAt_5068e 11 = .ok (.iload_n 1, 1) := by decide +kernel
theorem dJ0_charAt_5068e_12 : decode cJ0_charAt_5068e 12 = .ok (.invokestatic 495, 3) := by decide +kernel
theorem dJ0_charAt_5068e_15 : decode cJ0_charAt_5068e 15 = .ok (.ireturn, 1) := by decide +kernel
theorem dJ0_charAt_5068e_16 : decode cJ0_charAt_5068e 16 = .ok (.aload_n 0, 1) := by decide +kernel
theorem dJ0_charAt_5068e_17 : decode cJ0_charAt_5068e 17 = .ok (.getfield 9, 3) := by decide +kernel
theorem dJ0_charAt_5068e_20 : decode cJ0_charAt_5068e 20 = .ok (.iload_n 1, 1) := by decide +kernel
theorem dJ0_charAt_5068e_21 : decode cJ0_charAt_5068e 21 = .ok (.invokestatic 498, 3) := by decide +kernel
theorem dJ0_charAt_5068e_24 : decode cJ0_charAt_5068e 24 = .ok (.ireturn, 1) := by decide +kernel
theorem dJ0_indexOf_0f7a4_0 : decode cJ0_indexOf_0f7a4 0 = .ok (.aload_n 0, 1) := by decide +kernel
theorem dJ0_indexOf_0f7a4_1 : decode cJ0_indexOf_0f7a4 1 = .ok (.iload_n 1, 1) := by decide +kernel
theorem dJ0_indexOf_0f7a4_2 : decode cJ0_indexOf_0f7a4 2 = .ok (.iconst 0, 1) := by decide +kernel
theorem dJ0_indexOf_0f7a4_3 : decode cJ0_indexOf_0f7a4 3 = .ok (.invokevirtual 633, 3) := by decide +kernel
theorem dJ0_indexOf_0f7a4_6 : decode cJ0_indexOf_0f7a4 6 = .ok (.ireturn, 1) := by decide +kernel
theorem dJ0_indexOf_7cf53_0 : decode cJ0_indexOf_7cf53 0 = .ok (.aload_n 0, 1) := by decide +kernel
theorem dJ0_indexOf_7cf53_1 : decode cJ0_indexOf_7cf53 1 = .ok (.invokevirtual 492, 3) := by decide +kernel
theorem dJ0_indexOf_7cf53_4 : decode cJ0_indexOf_7cf53 4 = .ok (.ifCond .eq 19, 3) := by decide +kernel
theorem dJ0_indexOf_7cf53_7 : decode cJ0_indexOf_7cf53 7 = .ok (.aload_n 0, 1) := by decide +kernel
theorem dJ0_indexOf_7cf53_8 : decode cJ0_indexOf_7cf53 8 = .ok (.getfield 9, 3) := by decide +kernel
theorem dJ0_indexOf_7cf53_11 : decode cJ0_indexOf_7cf53 11 = .ok (.iload_n 1, 1) := by decide +kernel
theorem dJ0_indexOf_7cf53_12 : decode cJ0_indexOf_7cf53 12 = .ok (.iload_n 2, 1) := by decide +kernel
theorem dJ0_indexOf_7cf53_13 : decode cJ0_indexOf_7cf53 13 = .ok (.aload_n 0, 1) := by decide +kernel
theorem dJ0_indexOf_7cf53_14 : decode cJ0_indexOf_7cf53 14 = .ok (.invokevirtual 505, 3) := by decide +kernel
theorem dJ0_indexOf_7cf53_17 : decode cJ0_indexOf_7cf53 17 = .ok (.invokestatic 637, 3) := by decide +kernel
theorem dJ0_indexOf_7cf53_20 : decode cJ0_indexOf_7cf53 20 = .ok (.goto 16, 3) := by decide +kernel
theorem dJ0_indexOf_7cf53_23 : decode cJ0_indexOf_7cf53 23 = .ok (.aload_n 0, 1) := by decide +kernel
theorem dJ0_indexOf_7cf53_24 : decode cJ0_indexOf_7cf53 24 = .ok (.getfield 9, 3) := by decide +kernel
theorem dJ0_indexOf_7cf53_27 : decode cJ0_indexOf_7cf53 27 = .ok (.iload_n 1, 1) := by decide +kernel
theorem dJ0_indexOf_7cf53_28 : decode cJ0_indexOf_7cf53 28 = .ok (.iload_n 2, 1) := by decide +kernel
theorem dJ0_indexOf_7cf53_29 : decode cJ0_indexOf_7cf53 29 = .ok (.aload_n 0, 1) := by decide +kernel
theorem dJ0_indexOf_7cf53_30 : decode cJ0_indexOf_7cf53 30 = .ok (.invokevirtual 505, 3) := by decide +kernel
theorem dJ0_indexOf_7cf53_33 : decode cJ0_indexOf_7cf53 33 = .ok (.invokestatic 640, 3) := by decide +kernel
theorem dJ0_indexOf_7cf53_36 : decode cJ0_indexOf_7cf53 36 = .ok (.ireturn, 1) := by decide +kernel
theorem dJ0_coder_7d493_0 : decode cJ0_coder_7d493 0 = .ok (.getstatic 38, 3) := by decide +kernel
theorem dJ0_coder_7d493_3 : decode cJ0_coder_7d493 3 = .ok (.ifCond .eq 10, 3) := by decide +kernel
theorem dJ0_coder_7d493_6 : decode cJ0_coder_7d493 6 = .ok (.aload_n 0, 1) := by decide +kernel
theorem dJ0_coder_7d493_7 : decode cJ0_coder_7d493 7 = .ok (.getfield 15, 3) := by decide +kernel
theorem dJ0_coder_7d493_10 : decode cJ0_coder_7d493 10 = .ok (.goto 4, 3) := by decide +kernel
theorem dJ0_coder_7d493_13 : decode cJ0_coder_7d493 13 = .ok (.iconst 1, 1) := by decide +kernel
theorem dJ0_coder_7d493_14 : decode cJ0_coder_7d493 14 = .ok (.ireturn, 1) := by decide +kernel
theorem dJ0_isLatin1_aae02_0 : decode cJ0_isLatin1_aae02 0 = .ok (.getstatic 38, 3) := by decide +kernel
theorem dJ0_isLatin1_aae02_3 : decode cJ0_isLatin1_aae02 3 = .ok (.ifCond .eq 14, 3) := by decide +kernel
theorem dJ0_isLatin1_aae02_6 : decode cJ0_isLatin1_aae02 6 = .ok (.aload_n 0, 1) := by decide +kernel
theorem dJ0_isLatin1_aae02_7 : decode cJ0_isLatin1_aae02 7 = .ok (.getfield 15, 3) := by decide +kernel
theorem dJ0_isLatin1_aae02_10 : decode cJ0_isLatin1_aae02 10 = .ok (.ifCond .ne 7, 3) := by decide +kernel
theorem dJ0_isLatin1_aae02_13 : decode cJ0_isLatin1_aae02 13 = .ok (.iconst 1, 1) := by decide +kernel
theorem dJ0_isLatin1_aae02_14 : decode cJ0_isLatin1_aae02 14 = .ok (.goto 4, 3) := by decide +kernel
theorem dJ0_isLatin1_aae02_17 : decode cJ0_isLatin1_aae02 17 = .ok (.iconst 0, 1) := by decide +kernel
theorem dJ0_isLatin1_aae02_18 : decode cJ0_isLatin1_aae02 18 = .ok (.ireturn, 1) := by decide +kernel
theorem dJ0_checkIndex_df160_0 : decode cJ0_checkIndex_df160 0 = .ok (.iload_n 0, 1) := by decide +kernel
theorem dJ0_checkIndex_df160_1 : decode cJ0_checkIndex_df160 1 = .ok (.iload_n 1, 1) := by decide +kernel
theorem dJ0_checkIndex_df160_2 : decode cJ0_checkIndex_df160 2 = .ok (.getstatic 1053, 3) := by decide +kernel
theorem dJ0_checkIndex_df160_5 : decode cJ0_checkIndex_df160 5 = .ok (.invokestatic 1059, 3) := by decide +kernel
theorem dJ0_checkIndex_df160_8 : decode cJ0_checkIndex_df160 8 = .ok (.pop, 1) := by decide +kernel
theorem dJ0_checkIndex_df160_9 : decode cJ0_checkIndex_df160 9 = .ok (.return_, 1) := by decide +kernel
theorem dJ0_checkBoundsBeginEnd_23922_0 : decode cJ0_checkBoundsBeginEnd_23922 0 = .ok (.iload_n 0, 1) := by decide +kernel
theorem dJ0_checkBoundsBeginEnd_23922_1 : decode cJ0_checkBoundsBeginEnd_23922 1 = .ok (.iload_n 1, 1) := by decide +kernel
theorem dJ0_checkBoundsBeginEnd_23922_2 : decode cJ0_checkBoundsBeginEnd_23922 2 = .ok (.iload_n 2, 1) := by decide +kernel
theorem dJ0_checkBoundsBeginEnd_23922_3 : decode cJ0_checkBoundsBeginEnd_23922 3 = .ok (.getstatic 1053, 3) := by decide +kernel
theorem dJ0_checkBoundsBeginEnd_23922_6 : decode cJ0_checkBoundsBeginEnd_23922 6 = .ok (.invokestatic 1062, 3) := by decide +kernel
theorem dJ0_checkBoundsBeginEnd_23922_9 : decode cJ0_checkBoundsBeginEnd_23922 9 = .ok (.pop, 1) := by decide +kernel
theorem dJ0_checkBoundsBeginEnd_23922_10 : decode cJ0_checkBoundsBeginEnd_23922 10 = .ok (.return_, 1) := by decide +kernel
theorem dJ1_charAt_3b067_0 : decode cJ1_charAt_3b067 0 = .ok (.iload_n 1, 1) := by decide +kernel
theorem dJ1_charAt_3b067_1 : decode cJ1_charAt_3b067 1 = .ok (.aload_n 0, 1) := by decide +kernel
theorem dJ1_charAt_3b067_2 : decode cJ1_charAt_3b067 2 = .ok (.arraylength, 1) := by decide +kernel
theorem dJ1_charAt_3b067_3 : decode cJ1_charAt_3b067 3 = .ok (.invokestatic 9, 3) := by decide +kernel
theorem dJ1_charAt_3b067_6 : decode cJ1_charAt_3b067 6 = .ok (.aload_n 0, 1) := by decide +kernel
theorem dJ1_charAt_3b067_7 : decode cJ1_charAt_3b067 7 = .ok (.iload_n 1, 1) := by decide +kernel
theorem dJ1_charAt_3b067_8 : decode cJ1_charAt_3b067 8 = .ok (.baload, 1) := by decide +kernel
theorem dJ1_charAt_3b067_9 : decode cJ1_charAt_3b067 9 = .ok (.sipush 255, 3) := by decide +kernel
theorem dJ1_charAt_3b067_12 : decode cJ1_charAt_3b067 12 = .ok (.iand, 1) := by decide +kernel
theorem dJ1_charAt_3b067_13 : decode cJ1_charAt_3b067 13 = .ok (.i2c, 1) := by decide +kernel
theorem dJ1_charAt_3b067_14 : decode cJ1_charAt_3b067 14 = .ok (.ireturn, 1) := by decide +kernel
theorem dJ1_canEncode_9a6ad_0 : decode cJ1_canEncode_9a6ad 0 = .ok (.iload_n 0, 1) := by decide +kernel
theorem dJ1_canEncode_9a6ad_1 : decode cJ1_canEncode_9a6ad 1 = .ok (.ifCond .lt 14, 3) := by decide +kernel
theorem dJ1_canEncode_9a6ad_4 : decode cJ1_canEncode_9a6ad 4 = .ok (.iload_n 0, 1) := by decide +kernel
theorem dJ1_canEncode_9a6ad_5 : decode cJ1_canEncode_9a6ad 5 = .ok (.sipush 255, 3) := by decide +kernel
theorem dJ1_canEncode_9a6ad_8 : decode cJ1_canEncode_9a6ad 8 = .ok (.if_icmp .gt 7, 3) := by decide +kernel
theorem dJ1_canEncode_9a6ad_11 : decode cJ1_canEncode_9a6ad 11 = .ok (.iconst 1, 1) := by decide +kernel
theorem dJ1_canEncode_9a6ad_12 : decode cJ1_canEncode_9a6ad 12 = .ok (.goto 4, 3) := by decide +kernel
theorem dJ1_canEncode_9a6ad_15 : decode cJ1_canEncode_9a6ad 15 = .ok (.iconst 0, 1) := by decide +kernel
theorem dJ1_canEncode_9a6ad_16 : decode cJ1_canEncode_9a6ad 16 = .ok (.ireturn, 1) := by decide +kernel
theorem dJ1_indexOf_4cfef_0 : decode cJ1_indexOf_4cfef 0 = .ok (.iload_n 1, 1) := by decide +kernel
theorem dJ1_indexOf_4cfef_1 : decode cJ1_indexOf_4cfef 1 = .ok (.invokestatic 88, 3) := by decide +kernel
theorem dJ1_indexOf_4cfef_4 : decode cJ1_indexOf_4cfef 4 = .ok (.ifCond .ne 5, 3) := by decide +kernel
theorem dJ1_indexOf_4cfef_7 : decode cJ1_indexOf_4cfef 7 = .ok (.iconst (-1), 1) := by decide +kernel
theorem dJ1_indexOf_4cfef_8 : decode cJ1_indexOf_4cfef 8 = .ok (.ireturn, 1) := by decide +kernel
theorem dJ1_indexOf_4cfef_9 : decode cJ1_indexOf_4cfef 9 = .ok (.iload_n 2, 1) := by decide +kernel
theorem dJ1_indexOf_4cfef_10 : decode cJ1_indexOf_4cfef 10 = .ok (.iconst 0, 1) := by decide +kernel
theorem dJ1_indexOf_4cfef_11 : decode cJ1_indexOf_4cfef 11 = .ok (.invokestatic 92, 3) := by decide +kernel
theorem dJ1_indexOf_4cfef_14 : decode cJ1_indexOf_4cfef 14 = .ok (.istore_n 2, 1) := by decide +kernel
theorem dJ1_indexOf_4cfef_15 : decode cJ1_indexOf_4cfef 15 = .ok (.iload_n 3, 1) := by decide +kernel
theorem dJ1_indexOf_4cfef_16 : decode cJ1_indexOf_4cfef 16 = .ok (.aload_n 0, 1) := by decide +kernel
theorem dJ1_indexOf_4cfef_17 : decode cJ1_indexOf_4cfef 17 = .ok (.arraylength, 1) := by decide +kernel
theorem dJ1_indexOf_4cfef_18 : decode cJ1_indexOf_4cfef 18 = .ok (.invokestatic 38, 3) := by decide +kernel
theorem dJ1_indexOf_4cfef_21 : decode cJ1_indexOf_4cfef 21 = .ok (.istore_n 3, 1) := by decide +kernel
theorem dJ1_indexOf_4cfef_22 : decode cJ1_indexOf_4cfef 22 = .ok (.iload_n 2, 1) := by decide +kernel
theorem dJ1_indexOf_4cfef_23 : decode cJ1_indexOf_4cfef 23 = .ok (.iload_n 3, 1) := by decide +kernel
theorem dJ1_indexOf_4cfef_24 : decode cJ1_indexOf_4cfef 24 = .ok (.if_icmp .lt 5, 3) := by decide +kernel
theorem dJ1_indexOf_4cfef_27 : decode cJ1_indexOf_4cfef 27 = .ok (.iconst (-1), 1) := by decide +kernel
theorem dJ1_indexOf_4cfef_28 : decode cJ1_indexOf_4cfef 28 = .ok (.ireturn, 1) := by decide +kernel
theorem dJ1_indexOf_4cfef_29 : decode cJ1_indexOf_4cfef 29 = .ok (.aload_n 0, 1) := by decide +kernel
theorem dJ1_indexOf_4cfef_30 : decode cJ1_indexOf_4cfef 30 = .ok (.iload_n 1, 1) := by decide +kernel
theorem dJ1_indexOf_4cfef_31 : decode cJ1_indexOf_4cfef 31 = .ok (.iload_n 2, 1) := by decide +kernel
theorem dJ1_indexOf_4cfef_32 : decode cJ1_indexOf_4cfef 32 = .ok (.iload_n 3, 1) := by decide +kernel
theorem dJ1_indexOf_4cfef_33 : decode cJ1_indexOf_4cfef 33 = .ok (.invokestatic 95, 3) := by decide +kernel
theorem dJ1_indexOf_4cfef_36 : decode cJ1_indexOf_4cfef 36 = .ok (.ireturn, 1) := by decide +kernel
theorem dJ1_indexOfChar_4cfef_0 : decode cJ1_indexOfChar_4cfef 0 = .ok (.iload_n 1, 1) := by decide +kernel
theorem dJ1_indexOfChar_4cfef_1 : decode cJ1_indexOfChar_4cfef 1 = .ok (.i2b, 1) := by decide +kernel
theorem dJ1_indexOfChar_4cfef_2 : decode cJ1_indexOfChar_4cfef 2 = .ok (.istore 4, 2) := by decide +kernel
theorem dJ1_indexOfChar_4cfef_4 : decode cJ1_indexOfChar_4cfef 4 = .ok (.iload_n 2, 1) := by decide +kernel
theorem dJ1_indexOfChar_4cfef_5 : decode cJ1_indexOfChar_4cfef 5 = .ok (.istore 5, 2) := by decide +kernel
theorem dJ1_indexOfChar_4cfef_7 : decode cJ1_indexOfChar_4cfef 7 = .ok (.iload 5, 2) := by decide +kernel
theorem dJ1_indexOfChar_4cfef_9 : decode cJ1_indexOfChar_4cfef 9 = .ok (.iload_n 3, 1) := by decide +kernel
theorem dJ1_indexOfChar_4cfef_10 : decode cJ1_indexOfChar_4cfef 10 = .ok (.if_icmp .ge 21, 3) := by decide +kernel
theorem dJ1_indexOfChar_4cfef_13 : decode cJ1_indexOfChar_4cfef 13 = .ok (.aload_n 0, 1) := by decide +kernel
theorem dJ1_indexOfChar_4cfef_14 : decode cJ1_indexOfChar_4cfef 14 = .ok (.iload 5, 2) := by decide +kernel
theorem dJ1_indexOfChar_4cfef_16 : decode cJ1_indexOfChar_4cfef 16 = .ok (.baload, 1) := by decide +kernel
theorem dJ1_indexOfChar_4cfef_17 : decode cJ1_indexOfChar_4cfef 17 = .ok (.iload 4, 2) := by decide +kernel
theorem dJ1_indexOfChar_4cfef_19 : decode cJ1_indexOfChar_4cfef 19 = .ok (.if_icmp .ne 6, 3) := by decide +kernel
theorem dJ1_indexOfChar_4cfef_22 : decode cJ1_indexOfChar_4cfef 22 = .ok (.iload 5, 2) := by decide +kernel
theorem dJ1_indexOfChar_4cfef_24 : decode cJ1_indexOfChar_4cfef 24 = .ok (.ireturn, 1) := by decide +kernel
theorem dJ1_indexOfChar_4cfef_25 : decode cJ1_indexOfChar_4cfef 25 = .ok (.iinc 5 1, 3) := by decide +kernel
theorem dJ1_indexOfChar_4cfef_28 : decode cJ1_indexOfChar_4cfef 28 = .ok (.goto (-21), 3) := by decide +kernel
theorem dJ1_indexOfChar_4cfef_31 : decode cJ1_indexOfChar_4cfef 31 = .ok (.iconst (-1), 1) := by decide +kernel
theorem dJ1_indexOfChar_4cfef_32 : decode cJ1_indexOfChar_4cfef 32 = .ok (.ireturn, 1) := by decide +kernel
theorem dJ11_isValidCodePoint_9a6ad_0 : decode cJ11_isValidCodePoint_9a6ad 0 = .ok (.iload_n 0, 1) := by decide +kernel
theorem dJ11_isValidCodePoint_9a6ad_1 : decode cJ11_isValidCodePoint_9a6ad 1 = .ok (.bipush 16, 2) := by decide +kernel
theorem dJ11_isValidCodePoint_9a6ad_3 : decode cJ11_isValidCodePoint_9a6ad 3 = .ok (.iushr, 1) := by decide +kernel
theorem dJ11_isValidCodePoint_9a6ad_4 : decode cJ11_isValidCodePoint_9a6ad 4 = .ok (.istore_n 1, 1) := by decide +kernel
theorem dJ11_isValidCodePoint_9a6ad_5 : decode cJ11_isValidCodePoint_9a6ad 5 = .ok (.iload_n 1, 1) := by decide +kernel
theorem dJ11_isValidCodePoint_9a6ad_6 : decode cJ11_isValidCodePoint_9a6ad 6 = .ok (.bipush 17, 2) := by decide +kernel
theorem dJ11_isValidCodePoint_9a6ad_8 : decode cJ11_isValidCodePoint_9a6ad 8 = .ok (.if_icmp .ge 7, 3) := by decide +kernel
theorem dJ11_isValidCodePoint_9a6ad_11 : decode cJ11_isValidCodePoint_9a6ad 11 = .ok (.iconst 1, 1) := by decide +kernel
theorem dJ11_isValidCodePoint_9a6ad_12 : decode cJ11_isValidCodePoint_9a6ad 12 = .ok (.goto 4, 3) := by decide +kernel
theorem dJ11_isValidCodePoint_9a6ad_15 : decode cJ11_isValidCodePoint_9a6ad 15 = .ok (.iconst 0, 1) := by decide +kernel
theorem dJ11_isValidCodePoint_9a6ad_16 : decode cJ11_isValidCodePoint_9a6ad 16 = .ok (.ireturn, 1) := by decide +kernel
theorem dJ11_highSurrogate_5068e_0 : decode cJ11_highSurrogate_5068e 0 = .ok (.iload_n 0, 1) := by decide +kernel
theorem dJ11_highSurrogate_5068e_1 : decode cJ11_highSurrogate_5068e 1 = .ok (.bipush 10, 2) := by decide +kernel
theorem dJ11_highSurrogate_5068e_3 : decode cJ11_highSurrogate_5068e 3 = .ok (.iushr, 1) := by decide +kernel
theorem dJ11_highSurrogate_5068e_4 : decode cJ11_highSurrogate_5068e 4 = .ok (.ldc 110, 2) := by decide +kernel
theorem dJ11_highSurrogate_5068e_6 : decode cJ11_highSurrogate_5068e 6 = .ok (.iadd, 1) := by decide +kernel
theorem dJ11_highSurrogate_5068e_7 : decode cJ11_highSurrogate_5068e 7 = .ok (.i2c, 1) := by decide +kernel
theorem dJ11_highSurrogate_5068e_8 : decode cJ11_highSurrogate_5068e 8 = .ok (.ireturn, 1) := by decide +kernel
theorem dJ11_lowSurrogate_5068e_0 : decode cJ11_lowSurrogate_5068e 0 = .ok (.iload_n 0, 1) := by decide +kernel
theorem dJ11_lowSurrogate_5068e_1 : decode cJ11_lowSurrogate_5068e 1 = .ok (.sipush 1023, 3) := by decide +kernel
theorem dJ11_lowSurrogate_5068e_4 : decode cJ11_lowSurrogate_5068e 4 = .ok (.iand, 1) := by decide +kernel
theorem dJ11_lowSurrogate_5068e_5 : decode cJ11_lowSurrogate_5068e 5 = .ok (.ldc 76, 2) := by decide +kernel
theorem dJ11_lowSurrogate_5068e_7 : decode cJ11_lowSurrogate_5068e 7 = .ok (.iadd, 1) := by decide +kernel
theorem dJ11_lowSurrogate_5068e_8 : decode cJ11_lowSurrogate_5068e 8 = .ok (.i2c, 1) := by decide +kernel
theorem dJ11_lowSurrogate_5068e_9 : decode cJ11_lowSurrogate_5068e 9 = .ok (.ireturn, 1) := by decide +kernel
theorem dJ2_getChar_3b067_0 : decode cJ2_getChar_3b067 0 = .ok (.getstatic 44, 3) := by decide +kernel
theorem dJ2_getChar_3b067_3 : decode cJ2_getChar_3b067 3 = .ok (.ifCond .ne 25, 3) := by decide +kernel
theorem dJ2_getChar_3b067_6 : decode cJ2_getChar_3b067 6 = .ok (.iload_n 1, 1) := by decide +kernel
theorem dJ2_getChar_3b067_7 : decode cJ2_getChar_3b067 7 = .ok (.ifCond .lt 11, 3) := by decide +kernel
theorem dJ2_getChar_3b067_10 : decode cJ2_getChar_3b067 10 = .ok (.iload_n 1, 1) := by decide +kernel
theorem dJ2_getChar_3b067_11 : decode cJ2_getChar_3b067 11 = .ok (.aload_n 0, 1) := by decide +kernel
theorem dJ2_getChar_3b067_12 : decode cJ2_getChar_3b067 12 = .ok (.invokestatic 48, 3) := by decide +kernel
theorem dJ2_getChar_3b067_15 : decode cJ2_getChar_3b067 15 = .ok (.if_icmp .lt 13, 3) := by decide +kernel
theorem dJ2_getChar_3b067_18 : decode cJ2_getChar_3b067 18 = .ok (.new 52, 3) := by decide +kernel
theorem dJ2_getChar_3b067_21 : decode cJ2_getChar_3b067 21 = .ok (.dup, 1) := by decide +kernel
theorem dJ2_getChar_3b067_22 : decode cJ2_getChar_3b067 22 = .ok (.ldc 54, 2) := by decide +kernel
theorem dJ2_getChar_3b067_24 : decode cJ2_getChar_3b067 24 = .ok (.invokespecial 56, 3) := by decide +kernel
theorem dJ2_getChar_3b067_27 : decode cJ2_getChar_3b067 27 = .ok (.athrow, 1) := by decide +kernel
theorem dJ2_getChar_3b067_28 : decode cJ2_getChar_3b067 28 = .ok (.iload_n 1, 1) := by decide +kernel
theorem dJ2_getChar_3b067_29 : decode cJ2_getChar_3b067 29 = .ok (.iconst 1, 1) := by decide +kernel
theorem dJ2_getChar_3b067_30 : decode cJ2_getChar_3b067 30 = .ok (.ishl, 1) := by decide +kernel
theorem dJ2_getChar_3b067_31 : decode cJ2_getChar_3b067 31 = .ok (.istore_n 1, 1) := by decide +kernel
theorem dJ2_getChar_3b067_32 : decode cJ2_getChar_3b067 32 = .ok (.aload_n 0, 1) := by decide +kernel
theorem dJ2_getChar_3b067_33 : decode cJ2_getChar_3b067 33 = .ok (.iload_n 1, 1) := by decide +kernel
theorem dJ2_getChar_3b067_34 : decode cJ2_getChar_3b067 34 = .ok (.iinc 1 1, 3) := by decide +kernel
theorem dJ2_getChar_3b067_37 : decode cJ2_getChar_3b067 37 = .ok (.baload, 1) := by decide +kernel
theorem dJ2_getChar_3b067_38 : decode cJ2_getChar_3b067 38 = .ok (.sipush 255, 3) := by decide +kernel
theorem dJ2_getChar_3b067_41 : decode cJ2_getChar_3b067 41 = .ok (.iand, 1) := by decide +kernel
theorem dJ2_getChar_3b067_42 : decode cJ2_getChar_3b067 42 = .ok (.getstatic 59, 3) := by decide +kernel
theorem dJ2_getChar_3b067_45 : decode cJ2_getChar_3b067 45 = .ok (.ishl, 1) := by decide +kernel
theorem dJ2_getChar_3b067_46 : decode cJ2_getChar_3b067 46 = .ok (.aload_n 0, 1) := by decide +kernel
theorem dJ2_getChar_3b067_47 : decode cJ2_getChar_3b067 47 = .ok (.iload_n 1, 1) := by decide +kernel
theorem dJ2_getChar_3b067_48 : decode cJ2_getChar_3b067 48 = .ok (.baload, 1) := by decide +kernel
theorem dJ2_getChar_3b067_49 : decode cJ2_getChar_3b067 49 = .ok (.sipush 255, 3) := by decide +kernel
theorem dJ2_getChar_3b067_52 : decode cJ2_getChar_3b067 52 = .ok (.iand, 1) := by decide +kernel
theorem dJ2_getChar_3b067_53 : decode cJ2_getChar_3b067 53 = .ok (.getstatic 63, 3) := by decide +kernel
theorem dJ2_getChar_3b067_56 : decode cJ2_getChar_3b067 56 = .ok (.ishl, 1) := by decide +kernel
theorem dJ2_getChar_3b067_57 : decode cJ2_getChar_3b067 57 = .ok (.ior, 1) := by decide +kernel
theorem dJ2_getChar_3b067_58 : decode cJ2_getChar_3b067 58 = .ok (.i2c, 1) := by decide +kernel
theorem dJ2_getChar_3b067_59 : decode cJ2_getChar_3b067 59 = .ok (.ireturn, 1) := by decide +kernel
theorem dJ2_length_9d52b_0 : decode cJ2_length_9d52b 0 = .ok (.aload_n 0, 1) := by decide +kernel
theorem dJ2_length_9d52b_1 : decode cJ2_length_9d52b 1 = .ok (.arraylength, 1) := by decide +kernel
theorem dJ2_length_9d52b_2 : decode cJ2_length_9d52b 2 = .ok (.iconst 1, 1) := by decide +kernel
theorem dJ2_length_9d52b_3 : decode cJ2_length_9d52b 3 = .ok (.ishr, 1) := by decide +kernel
theorem dJ2_length_9d52b_4 : decode cJ2_length_9d52b 4 = .ok (.ireturn, 1) := by decide +kernel
theorem dJ2_indexOf_4cfef_0 : decode cJ2_indexOf_4cfef 0 = .ok (.iload_n 2, 1) := by decide +kernel
theorem dJ2_indexOf_4cfef_1 : decode cJ2_indexOf_4cfef 1 = .ok (.iconst 0, 1) := by decide +kernel
theorem dJ2_indexOf_4cfef_2 : decode cJ2_indexOf_4cfef 2 = .ok (.invokestatic 224, 3) := by decide +kernel
theorem dJ2_indexOf_4cfef_5 : decode cJ2_indexOf_4cfef 5 = .ok (.istore_n 2, 1) := by decide +kernel
theorem dJ2_indexOf_4cfef_6 : decode cJ2_indexOf_4cfef 6 = .ok (.iload_n 3, 1) := by decide +kernel
theorem dJ2_indexOf_4cfef_7 : decode cJ2_indexOf_4cfef 7 = .ok (.aload_n 0, 1) := by decide +kernel
theorem dJ2_indexOf_4cfef_8 : decode cJ2_indexOf_4cfef 8 = .ok (.arraylength, 1) := by decide +kernel
theorem dJ2_indexOf_4cfef_9 : decode cJ2_indexOf_4cfef 9 = .ok (.iconst 1, 1) := by decide +kernel
theorem dJ2_indexOf_4cfef_10 : decode cJ2_indexOf_4cfef 10 = .ok (.ishr, 1) := by decide +kernel
theorem dJ2_indexOf_4cfef_11 : decode cJ2_indexOf_4cfef 11 = .ok (.invokestatic 183, 3) := by decide +kernel
theorem dJ2_indexOf_4cfef_14 : decode cJ2_indexOf_4cfef 14 = .ok (.istore_n 3, 1) := by decide +kernel
theorem dJ2_indexOf_4cfef_15 : decode cJ2_indexOf_4cfef 15 = .ok (.iload_n 2, 1) := by decide +kernel
theorem dJ2_indexOf_4cfef_16 : decode cJ2_indexOf_4cfef 16 = .ok (.iload_n 3, 1) := by decide +kernel
theorem dJ2_indexOf_4cfef_17 : decode cJ2_indexOf_4cfef 17 = .ok (.if_icmp .lt 5, 3) := by decide +kernel
theorem dJ2_indexOf_4cfef_20 : decode cJ2_indexOf_4cfef 20 = .ok (.iconst (-1), 1) := by decide +kernel
theorem dJ2_indexOf_4cfef_21 : decode cJ2_indexOf_4cfef 21 = .ok (.ireturn, 1) := by decide +kernel
theorem dJ2_indexOf_4cfef_22 : decode cJ2_indexOf_4cfef 22 = .ok (.iload_n 1, 1) := by decide +kernel
theorem dJ2_indexOf_4cfef_23 : decode cJ2_indexOf_4cfef 23 = .ok (.ldc 227, 2) := by decide +kernel
theorem dJ2_indexOf_4cfef_25 : decode cJ2_indexOf_4cfef 25 = .ok (.if_icmp .ge 11, 3) := by decide +kernel
theorem dJ2_indexOf_4cfef_28 : decode cJ2_indexOf_4cfef 28 = .ok (.aload_n 0, 1) := by decide +kernel
theorem dJ2_indexOf_4cfef_29 : decode cJ2_indexOf_4cfef 29 = .ok (.iload_n 1, 1) := by decide +kernel
theorem dJ2_indexOf_4cfef_30 : decode cJ2_indexOf_4cfef 30 = .ok (.iload_n 2, 1) := by decide +kernel
theorem dJ2_indexOf_4cfef_31 : decode cJ2_indexOf_4cfef 31 = .ok (.iload_n 3, 1) := by decide +kernel
theorem dJ2_indexOf_4cfef_32 : decode cJ2_indexOf_4cfef 32 = .ok (.invokestatic 228, 3) := by decide +kernel
theorem dJ2_indexOf_4cfef_35 : decode cJ2_indexOf_4cfef 35 = .ok (.ireturn, 1) := by decide +kernel
theorem dJ2_indexOf_4cfef_36 : decode cJ2_indexOf_4cfef 36 = .ok (.aload_n 0, 1) := by decide +kernel
theorem dJ2_indexOf_4cfef_37 : decode cJ2_indexOf_4cfef 37 = .ok (.iload_n 1, 1) := by decide +kernel
theorem dJ2_indexOf_4cfef_38 : decode cJ2_indexOf_4cfef 38 = .ok (.iload_n 2, 1) := by decide +kernel
theorem dJ2_indexOf_4cfef_39 : decode cJ2_indexOf_4cfef 39 = .ok (.iload_n 3, 1) := by decide +kernel
theorem dJ2_indexOf_4cfef_40 : decode cJ2_indexOf_4cfef 40 = .ok (.invokestatic 232, 3) := by decide +kernel
theorem dJ2_indexOf_4cfef_43 : decode cJ2_indexOf_4cfef 43 = .ok (.ireturn, 1) := by decide +kernel
theorem dJ2_indexOfChar_4cfef_0 : decode cJ2_indexOfChar_4cfef 0 = .ok (.iload_n 2, 1) := by decide +kernel
theorem dJ2_indexOfChar_4cfef_1 : decode cJ2_indexOfChar_4cfef 1 = .ok (.iload_n 3, 1) := by decide +kernel
theorem dJ2_indexOfChar_4cfef_2 : decode cJ2_indexOfChar_4cfef 2 = .ok (.aload_n 0, 1) := by decide +kernel
theorem dJ2_indexOfChar_4cfef_3 : decode cJ2_indexOfChar_4cfef 3 = .ok (.invokestatic 96, 3) := by decide +kernel
theorem dJ2_indexOfChar_4cfef_6 : decode cJ2_indexOfChar_4cfef 6 = .ok (.aload_n 0, 1) := by decide +kernel
theorem dJ2_indexOfChar_4cfef_7 : decode cJ2_indexOfChar_4cfef 7 = .ok (.iload_n 1, 1) := by decide +kernel
theorem dJ2_indexOfChar_4cfef_8 : decode cJ2_indexOfChar_4cfef 8 = .ok (.iload_n 2, 1) := by decide +kernel
theorem dJ2_indexOfChar_4cfef_9 : decode cJ2_indexOfChar_4cfef 9 = .ok (.iload_n 3, 1) := by decide +kernel
theorem dJ2_indexOfChar_4cfef_10 : decode cJ2_indexOfChar_4cfef 10 = .ok (.invokestatic 244, 3) := by decide +kernel
theorem dJ2_indexOfChar_4cfef_13 : decode cJ2_indexOfChar_4cfef 13 = .ok (.ireturn, 1) := by decide +kernel
theorem dJ2_indexOfCharUnsafe_4cfef_0 : decode cJ2_indexOfCharUnsafe_4cfef 0 = .ok (.iload_n 2, 1) := by decide +kernel
theorem dJ2_indexOfCharUnsafe_4cfef_1 : decode cJ2_indexOfCharUnsafe_4cfef 1 = .ok (.istore 4, 2) := by decide +kernel
theorem dJ2_indexOfCharUnsafe_4cfef_3 : decode cJ2_indexOfCharUnsafe_4cfef 3 = .ok (.iload 4, 2) := by decide +kernel
theorem dJ2_indexOfCharUnsafe_4cfef_5 : decode cJ2_indexOfCharUnsafe_4cfef 5 = .ok (.iload_n 3, 1) := by decide +kernel
theorem dJ2_indexOfCharUnsafe_4cfef_6 : decode cJ2_indexOfCharUnsafe_4cfef 6 = .ok (.if_icmp .ge 22, 3) := by decide +kernel
theorem dJ2_indexOfCharUnsafe_4cfef_9 : decode cJ2_indexOfCharUnsafe_4cfef 9 = .ok (.aload_n 0, 1) := by decide +kernel
theorem dJ2_indexOfCharUnsafe_4cfef_10 : decode cJ2_indexOfCharUnsafe_4cfef 10 = .ok (.iload 4, 2) := by decide +kernel
theorem dJ2_indexOfCharUnsafe_4cfef_12 : decode cJ2_indexOfCharUnsafe_4cfef 12 = .ok (.invokestatic 71, 3) := by decide +kernel
theorem dJ2_indexOfCharUnsafe_4cfef_15 : decode cJ2_indexOfCharUnsafe_4cfef 15 = .ok (.iload_n 1, 1) := by decide +kernel
theorem dJ2_indexOfCharUnsafe_4cfef_16 : decode cJ2_indexOfCharUnsafe_4cfef 16 = .ok (.if_icmp .ne 6, 3) := by decide +kernel
theorem dJ2_indexOfCharUnsafe_4cfef_19 : decode cJ2_indexOfCharUnsafe_4cfef 19 = .ok (.iload 4, 2) := by decide +kernel
theorem dJ2_indexOfCharUnsafe_4cfef_21 : decode cJ2_indexOfCharUnsafe_4cfef 21 = .ok (.ireturn, 1) := by decide +kernel
theorem dJ2_indexOfCharUnsafe_4cfef_22 : decode cJ2_indexOfCharUnsafe_4cfef 22 = .ok (.iinc 4 1, 3) := by decide +kernel
theorem dJ2_indexOfCharUnsafe_4cfef_25 : decode cJ2_indexOfCharUnsafe_4cfef 25 = .ok (.goto (-22), 3) := by decide +kernel
theorem dJ2_indexOfCharUnsafe_4cfef_28 : decode cJ2_indexOfCharUnsafe_4cfef 28 = .ok (.iconst (-1), 1) := by decide +kernel
theorem dJ2_indexOfCharUnsafe_4cfef_29 : decode cJ2_indexOfCharUnsafe_4cfef 29 = .ok (.ireturn, 1) := by decide +kernel
theorem dJ2_indexOfSupplementary_4cfef_0 : decode cJ2_indexOfSupplementary_4cfef 0 = .ok (.iload_n 1, 1) := by decide +kernel
theorem dJ2_indexOfSupplementary_4cfef_1 : decode cJ2_indexOfSupplementary_4cfef 1 = .ok (.invokestatic 164, 3) := by decide +kernel
theorem dJ2_indexOfSupplementary_4cfef_4 : decode cJ2_indexOfSupplementary_4cfef 4 = .ok (.ifCond .eq 65, 3) := by decide +kernel
theorem dJ2_indexOfSupplementary_4cfef_7 : decode cJ2_indexOfSupplementary_4cfef 7 = .ok (.iload_n 1, 1) := by decide +kernel
theorem dJ2_indexOfSupplementary_4cfef_8 : decode cJ2_indexOfSupplementary_4cfef 8 = .ok (.invokestatic 157, 3) := by decide +kernel
theorem dJ2_indexOfSupplementary_4cfef_11 : decode cJ2_indexOfSupplementary_4cfef 11 = .ok (.istore 4, 2) := by decide +kernel
theorem dJ2_indexOfSupplementary_4cfef_13 : decode cJ2_indexOfSupplementary_4cfef 13 = .ok (.iload_n 1, 1) := by decide +kernel
theorem dJ2_indexOfSupplementary_4cfef_14 : decode cJ2_indexOfSupplementary_4cfef 14 = .ok (.invokestatic 161, 3) := by decide +kernel
theorem dJ2_indexOfSupplementary_4cfef_17 : decode cJ2_indexOfSupplementary_4cfef 17 = .ok (.istore 5, 2) := by decide +kernel
theorem dJ2_indexOfSupplementary_4cfef_19 : decode cJ2_indexOfSupplementary_4cfef 19 = .ok (.iload_n 2, 1) := by decide +kernel
theorem dJ2_indexOfSupplementary_4cfef_20 : decode cJ2_indexOfSupplementary_4cfef 20 = .ok (.iload_n 3, 1) := by decide +kernel
theorem dJ2_indexOfSupplementary_4cfef_21 : decode cJ2_indexOfSupplementary_4cfef 21 = .ok (.aload_n 0, 1) := by decide +kernel
theorem dJ2_indexOfSupplementary_4cfef_22 : decode cJ2_indexOfSupplementary_4cfef 22 = .ok (.invokestatic 96, 3) := by decide +kernel
theorem dJ2_indexOfSupplementary_4cfef_25 : decode cJ2_indexOfSupplementary_4cfef 25 = .ok (.iload_n 2, 1) := by decide +kernel
theorem dJ2_indexOfSupplementary_4cfef_26 : decode cJ2_indexOfSupplementary_4cfef 26 = .ok (.istore 6, 2) := by decide +kernel
theorem dJ2_indexOfSupplementary_4cfef_28 : decode cJ2_indexOfSupplementary_4cfef 28 = .ok (.iload 6, 2) := by decide +kernel
theorem dJ2_indexOfSupplementary_4cfef_30 : decode cJ2_indexOfSupplementary_4cfef 30 = .ok (.iload_n 3, 1) := by decide +kernel
theorem dJ2_indexOfSupplementary_4cfef_31 : decode cJ2_indexOfSupplementary_4cfef 31 = .ok (.iconst 1, 1) := by decide +kernel
theorem dJ2_indexOfSupplementary_4cfef_32 : decode cJ2_indexOfSupplementary_4cfef 32 = .ok (.isub, 1) := by decide +kernel
theorem dJ2_indexOfSupplementary_4cfef_33 : decode cJ2_indexOfSupplementary_4cfef 33 = .ok (.if_icmp .ge 36, 3) := by decide +kernel
theorem dJ2_indexOfSupplementary_4cfef_36 : decode cJ2_indexOfSupplementary_4cfef 36 = .ok (.aload_n 0, 1) := by decide +kernel
theorem dJ2_indexOfSupplementary_4cfef_37 : decode cJ2_indexOfSupplementary_4cfef 37 = .ok (.iload 6, 2) := by decide +kernel
theorem dJ2_indexOfSupplementary_4cfef_39 : decode cJ2_indexOfSupplementary_4cfef 39 = .ok (.invokestatic 71, 3) := by decide +kernel
theorem dJ2_indexOfSupplementary_4cfef_42 : decode cJ2_indexOfSupplementary_4cfef 42 = .ok (.iload 4, 2) := by decide +kernel
theorem dJ2_indexOfSupplementary_4cfef_44 : decode cJ2_indexOfSupplementary_4cfef 44 = .ok (.if_icmp .ne 19, 3) := by decide +kernel
theorem dJ2_indexOfSupplementary_4cfef_47 : decode cJ2_indexOfSupplementary_4cfef 47 = .ok (.aload_n 0, 1) := by decide +kernel
theorem dJ2_indexOfSupplementary_4cfef_48 : decode cJ2_indexOfSupplementary_4cfef 48 = .ok (.iload 6, 2) := by decide +kernel
theorem dJ2_indexOfSupplementary_4cfef_50 : decode cJ2_indexOfSupplementary_4cfef 50 = .ok (.iconst 1, 1) := by decide +kernel
theorem dJ2_indexOfSupplementary_4cfef_51 : decode cJ2_indexOfSupplementary_4cfef 51 = .ok (.iadd, 1) := by decide +kernel
theorem dJ2_indexOfSupplementary_4cfef_52 : decode cJ2_indexOfSupplementary_4cfef 52 = .ok (.invokestatic 71, 3) := by decide +kernel
theorem dJ2_indexOfSupplementary_4cfef_55 : decode cJ2_indexOfSupplementary_4cfef 55 = .ok (.iload 5, 2) := by decide +kernel
theorem dJ2_indexOfSupplementary_4cfef_57 : decode cJ2_indexOfSupplementary_4cfef 57 = .ok (.if_icmp .ne 6, 3) := by decide +kernel
theorem dJ2_indexOfSupplementary_4cfef_60 : decode cJ2_indexOfSupplementary_4cfef 60 = .ok (.iload 6, 2) := by decide +kernel
theorem dJ2_indexOfSupplementary_4cfef_62 : decode cJ2_indexOfSupplementary_4cfef 62 = .ok (.ireturn, 1) := by decide +kernel
theorem dJ2_indexOfSupplementary_4cfef_63 : decode cJ2_indexOfSupplementary_4cfef 63 = .ok (.iinc 6 1, 3) := by decide +kernel
theorem dJ2_indexOfSupplementary_4cfef_66 : decode cJ2_indexOfSupplementary_4cfef 66 = .ok (.goto (-38), 3) := by decide +kernel
theorem dJ2_indexOfSupplementary_4cfef_69 : decode cJ2_indexOfSupplementary_4cfef 69 = .ok (.iconst (-1), 1) := by decide +kernel
theorem dJ2_indexOfSupplementary_4cfef_70 : decode cJ2_indexOfSupplementary_4cfef 70 = .ok (.ireturn, 1) := by decide +kernel
theorem dJ2_charAt_3b067_0 : decode cJ2_charAt_3b067 0 = .ok (.iload_n 1, 1) := by decide +kernel
theorem dJ2_charAt_3b067_1 : decode cJ2_charAt_3b067 1 = .ok (.aload_n 0, 1) := by decide +kernel
theorem dJ2_charAt_3b067_2 : decode cJ2_charAt_3b067 2 = .ok (.invokestatic 67, 3) := by decide +kernel
theorem dJ2_charAt_3b067_5 : decode cJ2_charAt_3b067 5 = .ok (.aload_n 0, 1) := by decide +kernel
theorem dJ2_charAt_3b067_6 : decode cJ2_charAt_3b067 6 = .ok (.iload_n 1, 1) := by decide +kernel
theorem dJ2_charAt_3b067_7 : decode cJ2_charAt_3b067 7 = .ok (.invokestatic 71, 3) := by decide +kernel
theorem dJ2_charAt_3b067_10 : decode cJ2_charAt_3b067 10 = .ok (.ireturn, 1) := by decide +kernel
theorem dJ2_checkIndex_2214a_0 : decode cJ2_checkIndex_2214a 0 = .ok (.iload_n 0, 1) := by decide +kernel
theorem dJ2_checkIndex_2214a_1 : decode cJ2_checkIndex_2214a 1 = .ok (.aload_n 1, 1) := by decide +kernel
theorem dJ2_checkIndex_2214a_2 : decode cJ2_checkIndex_2214a 2 = .ok (.invokestatic 48, 3) := by decide +kernel
theorem dJ2_checkIndex_2214a_5 : decode cJ2_checkIndex_2214a 5 = .ok (.invokestatic 414, 3) := by decide +kernel
theorem dJ2_checkIndex_2214a_8 : decode cJ2_checkIndex_2214a 8 = .ok (.return_, 1) := by decide +kernel
theorem dJ2_checkBoundsBeginEnd_d044e_0 : decode cJ2_checkBoundsBeginEnd_d044e 0 = .ok (.iload_n 0, 1) := by decide +kernel
theorem dJ2_checkBoundsBeginEnd_d044e_1 : decode cJ2_checkBoundsBeginEnd_d044e 1 = .ok (.iload_n 1, 1) := by decide +kernel
theorem dJ2_checkBoundsBeginEnd_d044e_2 : decode cJ2_checkBoundsBeginEnd_d044e 2 = .ok (.aload_n 2, 1) := by decide +kernel
theorem dJ2_checkBoundsBeginEnd_d044e_3 : decode cJ2_checkBoundsBeginEnd_d044e 3 = .ok (.invokestatic 48, 3) := by decide +kernel
theorem dJ2_checkBoundsBeginEnd_d044e_6 : decode cJ2_checkBoundsBeginEnd_d044e 6 = .ok (.invokestatic 241, 3) := by decide +kernel
theorem dJ2_checkBoundsBeginEnd_d044e_9 : decode cJ2_checkBoundsBeginEnd_d044e 9 = .ok (.return_, 1) := by decide +kernel
theorem dJ3_checkIndex_8e157_0 : decode cJ3_checkIndex_8e157 0 = .ok (.iload_n 0, 1) := by decide +kernel
theorem dJ3_checkIndex_8e157_1 : decode cJ3_checkIndex_8e157 1 = .ok (.ifCond .lt 8, 3) := by decide +kernel
theorem dJ3_checkIndex_8e157_4 : decode cJ3_checkIndex_8e157 4 = .ok (.iload_n 0, 1) := by decide +kernel
theorem dJ3_checkIndex_8e157_5 : decode cJ3_checkIndex_8e157 5 = .ok (.iload_n 1, 1) := by decide +kernel
theorem dJ3_checkIndex_8e157_6 : decode cJ3_checkIndex_8e157 6 = .ok (.if_icmp .lt 10, 3) := by decide +kernel
theorem dJ3_checkIndex_8e157_9 : decode cJ3_checkIndex_8e157 9 = .ok (.aload_n 2, 1) := by decide +kernel
theorem dJ3_checkIndex_8e157_10 : decode cJ3_checkIndex_8e157 10 = .ok (.iload_n 0, 1) := by decide +kernel
theorem dJ3_checkIndex_8e157_11 : decode cJ3_checkIndex_8e157 11 = .ok (.iload_n 1, 1) := by decide +kernel
theorem dJ3_checkIndex_8e157_12 : decode cJ3_checkIndex_8e157 12 = .ok (.invokestatic 95, 3) := by decide +kernel
theorem dJ3_checkIndex_8e157_15 : decode cJ3_checkIndex_8e157 15 = .ok (.athrow, 1) := by decide +kernel
theorem dJ3_checkIndex_8e157_16 : decode cJ3_checkIndex_8e157 16 = .ok (.iload_n 0, 1) := by decide +kernel
theorem dJ3_checkIndex_8e157_17 : decode cJ3_checkIndex_8e157 17 = .ok (.ireturn, 1) := by decide +kernel
theorem dJ3_checkFromToIndex_8c36e_0 : decode cJ3_checkFromToIndex_8c36e 0 = .ok (.iload_n 0, 1) := by decide +kernel
theorem dJ3_checkFromToIndex_8c36e_1 : decode cJ3_checkFromToIndex_8c36e 1 = .ok (.ifCond .lt 13, 3) := by decide +kernel
theorem dJ3_checkFromToIndex_8c36e_4 : decode cJ3_checkFromToIndex_8c36e 4 = .ok (.iload_n 0, 1) := by decide +kernel
theorem dJ3_checkFromToIndex_8c36e_5 : decode cJ3_checkFromToIndex_8c36e 5 = .ok (.iload_n 1, 1) := by decide +kernel
theorem dJ3_checkFromToIndex_8c36e_6 : decode cJ3_checkFromToIndex_8c36e 6 = .ok (.if_icmp .gt 8, 3) := by decide +kernel
theorem dJ3_checkFromToIndex_8c36e_9 : decode cJ3_checkFromToIndex_8c36e 9 = .ok (.iload_n 1, 1) := by decide +kernel
theorem dJ3_checkFromToIndex_8c36e_10 : decode cJ3_checkFromToIndex_8c36e 10 = .ok (.iload_n 2, 1) := by decide +kernel
theorem dJ3_checkFromToIndex_8c36e_11 : decode cJ3_checkFromToIndex_8c36e 11 = .ok (.if_icmp .le 11, 3) := by decide +kernel
theorem dJ3_checkFromToIndex_8c36e_14 : decode cJ3_checkFromToIndex_8c36e 14 = .ok (.aload_n 3, 1) := by decide +kernel
theorem dJ3_checkFromToIndex_8c36e_15 : decode cJ3_checkFromToIndex_8c36e 15 = .ok (.iload_n 0, 1) := by decide +kernel
theorem dJ3_checkFromToIndex_8c36e_16 : decode cJ3_checkFromToIndex_8c36e 16 = .ok (.iload_n 1, 1) := by decide +kernel
theorem dJ3_checkFromToIndex_8c36e_17 : decode cJ3_checkFromToIndex_8c36e 17 = .ok (.iload_n 2, 1) := by decide +kernel
theorem dJ3_checkFromToIndex_8c36e_18 : decode cJ3_checkFromToIndex_8c36e 18 = .ok (.invokestatic 99, 3) := by decide +kernel
theorem dJ3_checkFromToIndex_8c36e_21 : decode cJ3_checkFromToIndex_8c36e 21 = .ok (.athrow, 1) := by decide +kernel
theorem dJ3_checkFromToIndex_8c36e_22 : decode cJ3_checkFromToIndex_8c36e 22 = .ok (.iload_n 0, 1) := by decide +kernel
theorem dJ3_checkFromToIndex_8c36e_23 : decode cJ3_checkFromToIndex_8c36e 23 = .ok (.ireturn, 1) := by decide +kernel
theorem dJ7_fill_53178_0 : decode cJ7_fill_53178 0 = .ok (.iconst 0, 1) := by decide +kernel
theorem dJ7_fill_53178_1 : decode cJ7_fill_53178 1 = .ok (.istore_n 2, 1) := by decide +kernel
theorem dJ7_fill_53178_2 : decode cJ7_fill_53178 2 = .ok (.aload_n 0, 1) := by decide +kernel
theorem dJ7_fill_53178_3 : decode cJ7_fill_53178 3 = .ok (.arraylength, 1) := by decide +kernel
theorem dJ7_fill_53178_4 : decode cJ7_fill_53178 4 = .ok (.istore_n 3, 1) := by decide +kernel
theorem dJ7_fill_53178_5 : decode cJ7_fill_53178 5 = .ok (.iload_n 2, 1) := by decide +kernel
theorem dJ7_fill_53178_6 : decode cJ7_fill_53178 6 = .ok (.iload_n 3, 1) := by decide +kernel
theorem dJ7_fill_53178_7 : decode cJ7_fill_53178 7 = .ok (.if_icmp .ge 13, 3) := by decide +kernel
theorem dJ7_fill_53178_10 : decode cJ7_fill_53178 10 = .ok (.aload_n 0, 1) := by decide +kernel
theorem dJ7_fill_53178_11 : decode cJ7_fill_53178 11 = .ok (.iload_n 2, 1) := by decide +kernel
theorem dJ7_fill_53178_12 : decode cJ7_fill_53178 12 = .ok (.iload_n 1, 1) := by decide +kernel
theorem dJ7_fill_53178_13 : decode cJ7_fill_53178 13 = .ok (.iastore, 1) := by decide +kernel
theorem dJ7_fill_53178_14 : decode cJ7_fill_53178 14 = .ok (.iinc 2 1, 3) := by decide +kernel
theorem dJ7_fill_53178_17 : decode cJ7_fill_53178 17 = .ok (.goto (-12), 3) := by decide +kernel
theorem dJ7_fill_53178_20 : decode cJ7_fill_53178 20 = .ok (.return_, 1) := by decide +kernel
theorem dJ7_copyOf_59c91_0 : decode cJ7_copyOf_59c91 0 = .ok (.iload_n 1, 1) := by decide +kernel
theorem dJ7_copyOf_59c91_1 : decode cJ7_copyOf_59c91 1 = .ok (.aload_n 0, 1) := by decide +kernel
theorem dJ7_copyOf_59c91_2 : decode cJ7_copyOf_59c91 2 = .ok (.arraylength, 1) := by decide +kernel
theorem dJ7_copyOf_59c91_3 : decode cJ7_copyOf_59c91 3 = .ok (.if_icmp .ne 11, 3) := by decide +kernel
theorem dJ7_copyOf_59c91_6 : decode cJ7_copyOf_59c91 6 = .ok (.aload_n 0, 1) := by decide +kernel
theorem dJ7_copyOf_59c91_7 : decode cJ7_copyOf_59c91 7 = .ok (.invokevirtual 316, 3) := by decide +kernel
theorem dJ7_copyOf_59c91_10 : decode cJ7_copyOf_59c91 10 = .ok (.checkcast 317, 3) := by decide +kernel
theorem dJ7_copyOf_59c91_13 : decode cJ7_copyOf_59c91 13 = .ok (.areturn, 1) := by decide +kernel
theorem dJ7_copyOf_59c91_14 : decode cJ7_copyOf_59c91 14 = .ok (.iload_n 1, 1) := by decide +kernel
theorem dJ7_copyOf_59c91_15 : decode cJ7_copyOf_59c91 15 = .ok (.newarray .int, 2) := by decide +kernel
theorem dJ7_copyOf_59c91_17 : decode cJ7_copyOf_59c91 17 = .ok (.astore_n 2, 1) := by decide +kernel
theorem dJ7_copyOf_59c91_18 : decode cJ7_copyOf_59c91 18 = .ok (.aload_n 0, 1) := by decide +kernel
theorem dJ7_copyOf_59c91_19 : decode cJ7_copyOf_59c91 19 = .ok (.iconst 0, 1) := by decide +kernel
theorem dJ7_copyOf_59c91_20 : decode cJ7_copyOf_59c91 20 = .ok (.aload_n 2, 1) := by decide +kernel
theorem dJ7_copyOf_59c91_21 : decode cJ7_copyOf_59c91 21 = .ok (.iconst 0, 1) := by decide +kernel
theorem dJ7_copyOf_59c91_22 : decode cJ7_copyOf_59c91 22 = .ok (.aload_n 0, 1) := by decide +kernel
theorem dJ7_copyOf_59c91_23 : decode cJ7_copyOf_59c91 23 = .ok (.arraylength, 1) := by decide +kernel
theorem dJ7_copyOf_59c91_24 : decode cJ7_copyOf_59c91 24 = .ok (.iload_n 1, 1) := by decide +kernel
theorem dJ7_copyOf_59c91_25 : decode cJ7_copyOf_59c91 25 = .ok (.invokestatic 304, 3) := by decide +kernel
theorem dJ7_copyOf_59c91_28 : decode cJ7_copyOf_59c91 28 = .ok (.invokestatic 150, 3) := by decide +kernel
theorem dJ7_copyOf_59c91_31 : decode cJ7_copyOf_59c91 31 = .ok (.aload_n 2, 1) := by decide +kernel
theorem dJ7_copyOf_59c91_32 : decode cJ7_copyOf_59c91 32 = .ok (.areturn, 1) := by decide +kernel
theorem dJ9_max_7cf53_0 : decode cJ9_max_7cf53 0 = .ok (.iload_n 0, 1) := by decide +kernel
theorem dJ9_max_7cf53_1 : decode cJ9_max_7cf53 1 = .ok (.iload_n 1, 1) := by decide +kernel
theorem dJ9_max_7cf53_2 : decode cJ9_max_7cf53 2 = .ok (.if_icmp .lt 7, 3) := by decide +kernel
theorem dJ9_max_7cf53_5 : decode cJ9_max_7cf53 5 = .ok (.iload_n 0, 1) := by decide +kernel
theorem dJ9_max_7cf53_6 : decode cJ9_max_7cf53 6 = .ok (.goto 4, 3) := by decide +kernel
theorem dJ9_max_7cf53_9 : decode cJ9_max_7cf53 9 = .ok (.iload_n 1, 1) := by decide +kernel
theorem dJ9_max_7cf53_10 : decode cJ9_max_7cf53 10 = .ok (.ireturn, 1) := by decide +kernel
theorem dJ9_min_7cf53_0 : decode cJ9_min_7cf53 0 = .ok (.iload_n 0, 1) := by decide +kernel
theorem dJ9_min_7cf53_1 : decode cJ9_min_7cf53 1 = .ok (.iload_n 1, 1) := by decide +kernel
theorem dJ9_min_7cf53_2 : decode cJ9_min_7cf53 2 = .ok (.if_icmp .gt 7, 3) := by decide +kernel
theorem dJ9_min_7cf53_5 : decode cJ9_min_7cf53 5 = .ok (.iload_n 0, 1) := by decide +kernel
theorem dJ9_min_7cf53_6 : decode cJ9_min_7cf53 6 = .ok (.goto 4, 3) := by decide +kernel
theorem dJ9_min_7cf53_9 : decode cJ9_min_7cf53 9 = .ok (.iload_n 1, 1) := by decide +kernel
theorem dJ9_min_7cf53_10 : decode cJ9_min_7cf53 10 = .ok (.ireturn, 1) := by decide +kernel
