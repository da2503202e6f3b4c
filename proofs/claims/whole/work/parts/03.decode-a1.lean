theorem dX8_find_10 : decode cX8_find 10 = .ok (.getfield 15, 3) := by decide +kernel
theorem dX8_find_13 : decode cX8_find 13 = .ok (.iconst 0, 1) := by decide +kernel
theorem dX8_find_14 : decode cX8_find 14 = .ok (.invokestatic 27, 3) := by decide +kernel
theorem dX8_find_17 : decode cX8_find 17 = .ok (.aload_n 0, 1) := by decide +kernel
theorem dX8_find_18 : decode cX8_find 18 = .ok (.aload_n 1, 1) := by decide +kernel
theorem dX8_find_19 : decode cX8_find 19 = .ok (.aload_n 2, 1) := by decide +kernel
theorem dX8_find_20 : decode cX8_find 20 = .ok (.iload_n 3, 1) := by decide +kernel
theorem dX8_find_21 : decode cX8_find 21 = .ok (.invokevirtual 33, 3) := by decide +kernel
theorem dX8_find_24 : decode cX8_find 24 = .ok (.aload_n 0, 1) := by decide +kernel
theorem dX8_find_25 : decode cX8_find 25 = .ok (.getfield 15, 3) := by decide +kernel
theorem dX8_find_28 : decode cX8_find 28 = .ok (.iconst 0, 1) := by decide +kernel
theorem dX8_find_29 : decode cX8_find 29 = .ok (.iconst 1, 1) := by decide +kernel
theorem dX8_find_30 : decode cX8_find 30 = .ok (.aload_n 2, 1) := by decide +kernel
theorem dX8_find_31 : decode cX8_find 31 = .ok (.getfield 37, 3) := by decide +kernel
theorem dX8_find_34 : decode cX8_find 34 = .ok (.ishl, 1) := by decide +kernel
theorem dX8_find_35 : decode cX8_find 35 = .ok (.iastore, 1) := by decide +kernel
theorem dX8_find_36 : decode cX8_find 36 = .ok (.iconst 0, 1) := by decide +kernel
theorem dX8_find_37 : decode cX8_find 37 = .ok (.istore 4, 2) := by decide +kernel
theorem dX8_find_39 : decode cX8_find 39 = .ok (.iload 4, 2) := by decide +kernel
theorem dX8_find_41 : decode cX8_find 41 = .ok (.bipush 8, 2) := by decide +kernel
theorem dX8_find_43 : decode cX8_find 43 = .ok (.if_icmp .gt 81, 3) := by decide +kernel
theorem dX8_find_46 : decode cX8_find 46 = .ok (.iconst 0, 1) := by decide +kernel
theorem dX8_find_47 : decode cX8_find 47 = .ok (.istore 5, 2) := by decide +kernel
theorem dX8_find_49 : decode cX8_find 49 = .ok (.iload 5, 2) := by decide +kernel
theorem dX8_find_51 : decode cX8_find 51 = .ok (.iload 4, 2) := by decide +kernel
theorem dX8_find_53 : decode cX8_find 53 = .ok (.if_icmp .gt 65, 3) := by decide +kernel
theorem dX8_find_56 : decode cX8_find 56 = .ok (.iconst 0, 1) := by decide +kernel
theorem dX8_find_57 : decode cX8_find 57 = .ok (.istore 6, 2) := by decide +kernel
theorem dX8_find_59 : decode cX8_find 59 = .ok (.iload 6, 2) := by decide +kernel
theorem dX8_find_61 : decode cX8_find 61 = .ok (.iload 4, 2) := by decide +kernel
theorem dX8_find_63 : decode cX8_find 63 = .ok (.iload 5, 2) := by decide +kernel
theorem dX8_find_65 : decode cX8_find 65 = .ok (.isub, 1) := by decide +kernel
theorem dX8_find_66 : decode cX8_find 66 = .ok (.if_icmp .gt 46, 3) := by decide +kernel
theorem dX8_find_69 : decode cX8_find 69 = .ok (.aload_n 0, 1) := by decide +kernel
theorem dX8_find_70 : decode cX8_find 70 = .ok (.getfield 23, 3) := by decide +kernel
theorem dX8_find_73 : decode cX8_find 73 = .ok (.iconst 0, 1) := by decide +kernel
theorem dX8_find_74 : decode cX8_find 74 = .ok (.iload 5, 2) := by decide +kernel
theorem dX8_find_76 : decode cX8_find 76 = .ok (.iastore, 1) := by decide +kernel
theorem dX8_find_77 : decode cX8_find 77 = .ok (.aload_n 0, 1) := by decide +kernel
theorem dX8_find_78 : decode cX8_find 78 = .ok (.getfield 23, 3) := by decide +kernel
theorem dX8_find_81 : decode cX8_find 81 = .ok (.iconst 1, 1) := by decide +kernel
theorem dX8_find_82 : decode cX8_find 82 = .ok (.iload 6, 2) := by decide +kernel
theorem dX8_find_84 : decode cX8_find 84 = .ok (.iastore, 1) := by decide +kernel
theorem dX8_find_85 : decode cX8_find 85 = .ok (.aload_n 0, 1) := by decide +kernel
theorem dX8_find_86 : decode cX8_find 86 = .ok (.getfield 23, 3) := by decide +kernel
theorem dX8_find_89 : decode cX8_find 89 = .ok (.iconst 2, 1) := by decide +kernel
theorem dX8_find_90 : decode cX8_find 90 = .ok (.iload 4, 2) := by decide +kernel
theorem dX8_find_92 : decode cX8_find 92 = .ok (.iload 5, 2) := by decide +kernel
theorem dX8_find_94 : decode cX8_find 94 = .ok (.isub, 1) := by decide +kernel
theorem dX8_find_95 : decode cX8_find 95 = .ok (.iload 6, 2) := by decide +kernel
theorem dX8_find_97 : decode cX8_find 97 = .ok (.isub, 1) := by decide +kernel
theorem dX8_find_98 : decode cX8_find 98 = .ok (.iastore, 1) := by decide +kernel
theorem dX8_find_99 : decode cX8_find 99 = .ok (.aload_n 0, 1) := by decide +kernel
theorem dX8_find_100 : decode cX8_find 100 = .ok (.aload_n 1, 1) := by decide +kernel
theorem dX8_find_101 : decode cX8_find 101 = .ok (.iload 4, 2) := by decide +kernel
theorem dX8_find_103 : decode cX8_find 103 = .ok (.invokevirtual 43, 3) := by decide +kernel
theorem dX8_find_106 : decode cX8_find 106 = .ok (.iinc 6 1, 3) := by decide +kernel
theorem dX8_find_109 : decode cX8_find 109 = .ok (.goto (-50), 3) := by decide +kernel
theorem dX8_find_112 : decode cX8_find 112 = .ok (.iinc 5 1, 3) := by decide +kernel
theorem dX8_find_115 : decode cX8_find 115 = .ok (.goto (-66), 3) := by decide +kernel
theorem dX8_find_118 : decode cX8_find 118 = .ok (.iinc 4 1, 3) := by decide +kernel
theorem dX8_find_121 : decode cX8_find 121 = .ok (.goto (-82), 3) := by decide +kernel
theorem dX8_find_124 : decode cX8_find 124 = .ok (.return_, 1) := by decide +kernel
theorem dX8_reached_0 : decode cX8_reached 0 = .ok (.iconst 0, 1) := by decide +kernel
theorem dX8_reached_1 : decode cX8_reached 1 = .ok (.istore_n 1, 1) := by decide +kernel
theorem dX8_reached_2 : decode cX8_reached 2 = .ok (.iconst 0, 1) := by decide +kernel
theorem dX8_reached_3 : decode cX8_reached 3 = .ok (.istore_n 2, 1) := by decide +kernel
theorem dX8_reached_4 : decode cX8_reached 4 = .ok (.iload_n 2, 1) := by decide +kernel
theorem dX8_reached_5 : decode cX8_reached 5 = .ok (.bipush 8, 2) := by decide +kernel
theorem dX8_reached_7 : decode cX8_reached 7 = .ok (.if_icmp .ge 26, 3) := by decide +kernel
theorem dX8_reached_10 : decode cX8_reached 10 = .ok (.aload_n 0, 1) := by decide +kernel
theorem dX8_reached_11 : decode cX8_reached 11 = .ok (.getfield 9, 3) := by decide +kernel
theorem dX8_reached_14 : decode cX8_reached 14 = .ok (.iload_n 2, 1) := by decide +kernel
theorem dX8_reached_15 : decode cX8_reached 15 = .ok (.iaload, 1) := by decide +kernel
theorem dX8_reached_16 : decode cX8_reached 16 = .ok (.ldc 26, 2) := by decide +kernel
theorem dX8_reached_18 : decode cX8_reached 18 = .ok (.if_icmp .eq 9, 3) := by decide +kernel
theorem dX8_reached_21 : decode cX8_reached 21 = .ok (.iload_n 1, 1) := by decide +kernel
theorem dX8_reached_22 : decode cX8_reached 22 = .ok (.iconst 1, 1) := by decide +kernel
theorem dX8_reached_23 : decode cX8_reached 23 = .ok (.iload_n 2, 1) := by decide +kernel
theorem dX8_reached_24 : decode cX8_reached 24 = .ok (.ishl, 1) := by decide +kernel
theorem dX8_reached_25 : decode cX8_reached 25 = .ok (.ior, 1) := by decide +kernel
theorem dX8_reached_26 : decode cX8_reached 26 = .ok (.istore_n 1, 1) := by decide +kernel
theorem dX8_reached_27 : decode cX8_reached 27 = .ok (.iinc 2 1, 3) := by decide +kernel
theorem dX8_reached_30 : decode cX8_reached 30 = .ok (.goto (-26), 3) := by decide +kernel
theorem dX8_reached_33 : decode cX8_reached 33 = .ok (.iload_n 1, 1) := by decide +kernel
theorem dX8_reached_34 : decode cX8_reached 34 = .ok (.ireturn, 1) := by decide +kernel
theorem dX8_wearAll_0 : decode cX8_wearAll 0 = .ok (.iconst 0, 1) := by decide +kernel
theorem dX8_wearAll_1 : decode cX8_wearAll 1 = .ok (.istore 4, 2) := by decide +kernel
theorem dX8_wearAll_3 : decode cX8_wearAll 3 = .ok (.iload 4, 2) := by decide +kernel
theorem dX8_wearAll_5 : decode cX8_wearAll 5 = .ok (.iconst 3, 1) := by decide +kernel
theorem dX8_wearAll_6 : decode cX8_wearAll 6 = .ok (.if_icmp .ge 83, 3) := by decide +kernel
theorem dX8_wearAll_9 : decode cX8_wearAll 9 = .ok (.iload_n 3, 1) := by decide +kernel
theorem dX8_wearAll_10 : decode cX8_wearAll 10 = .ok (.ifCond .eq 15, 3) := by decide +kernel
theorem dX8_wearAll_13 : decode cX8_wearAll 13 = .ok (.aload_n 2, 1) := by decide +kernel
theorem dX8_wearAll_14 : decode cX8_wearAll 14 = .ok (.getfield 47, 3) := by decide +kernel
theorem dX8_wearAll_17 : decode cX8_wearAll 17 = .ok (.iload 4, 2) := by decide +kernel
theorem dX8_wearAll_19 : decode cX8_wearAll 19 = .ok (.iaload, 1) := by decide +kernel
theorem dX8_wearAll_20 : decode cX8_wearAll 20 = .ok (.iconst 2, 1) := by decide +kernel
theorem dX8_wearAll_21 : decode cX8_wearAll 21 = .ok (.idiv, 1) := by decide +kernel
theorem dX8_wearAll_22 : decode cX8_wearAll 22 = .ok (.goto 10, 3) := by decide +kernel
theorem dX8_wearAll_25 : decode cX8_wearAll 25 = .ok (.aload_n 2, 1) := by decide +kernel
theorem dX8_wearAll_26 : decode cX8_wearAll 26 = .ok (.getfield 47, 3) := by decide +kernel
theorem dX8_wearAll_29 : decode cX8_wearAll 29 = .ok (.iload 4, 2) := by decide +kernel
theorem dX8_wearAll_31 : decode cX8_wearAll 31 = .ok (.iaload, 1) := by decide +kernel
theorem dX8_wearAll_32 : decode cX8_wearAll 32 = .ok (.istore 5, 2) := by decide +kernel
theorem dX8_wearAll_34 : decode cX8_wearAll 34 = .ok (.iconst 0, 1) := by decide +kernel
theorem dX8_wearAll_35 : decode cX8_wearAll 35 = .ok (.istore 6, 2) := by decide +kernel
theorem dX8_wearAll_37 : decode cX8_wearAll 37 = .ok (.iload 6, 2) := by decide +kernel
theorem dX8_wearAll_39 : decode cX8_wearAll 39 = .ok (.bipush 9, 2) := by decide +kernel
theorem dX8_wearAll_41 : decode cX8_wearAll 41 = .ok (.if_icmp .ge 42, 3) := by decide +kernel
theorem dX8_wearAll_44 : decode cX8_wearAll 44 = .ok (.aload_n 0, 1) := by decide +kernel
theorem dX8_wearAll_45 : decode cX8_wearAll 45 = .ok (.getfield 20, 3) := by decide +kernel
theorem dX8_wearAll_48 : decode cX8_wearAll 48 = .ok (.iload 4, 2) := by decide +kernel
theorem dX8_wearAll_50 : decode cX8_wearAll 50 = .ok (.aaload, 1) := by decide +kernel
theorem dX8_wearAll_51 : decode cX8_wearAll 51 = .ok (.iload 6, 2) := by decide +kernel
theorem dX8_wearAll_53 : decode cX8_wearAll 53 = .ok (.aload_n 2, 1) := by decide +kernel
theorem dX8_wearAll_54 : decode cX8_wearAll 54 = .ok (.getfield 50, 3) := by decide +kernel
theorem dX8_wearAll_57 : decode cX8_wearAll 57 = .ok (.iload 5, 2) := by decide +kernel
theorem dX8_wearAll_59 : decode cX8_wearAll 59 = .ok (.invokestatic 53, 3) := by decide +kernel
theorem dX8_wearAll_62 : decode cX8_wearAll 62 = .ok (.iastore, 1) := by decide +kernel
theorem dX8_wearAll_63 : decode cX8_wearAll 63 = .ok (.aload_n 1, 1) := by decide +kernel
theorem dX8_wearAll_64 : decode cX8_wearAll 64 = .ok (.aload_n 2, 1) := by decide +kernel
theorem dX8_wearAll_65 : decode cX8_wearAll 65 = .ok (.getfield 50, 3) := by decide +kernel
theorem dX8_wearAll_68 : decode cX8_wearAll 68 = .ok (.iload 4, 2) := by decide +kernel
theorem dX8_wearAll_70 : decode cX8_wearAll 70 = .ok (.iload 5, 2) := by decide +kernel
theorem dX8_wearAll_72 : decode cX8_wearAll 72 = .ok (.invokevirtual 59, 3) := by decide +kernel
theorem dX8_wearAll_75 : decode cX8_wearAll 75 = .ok (.istore 5, 2) := by decide +kernel
theorem dX8_wearAll_77 : decode cX8_wearAll 77 = .ok (.iinc 6 1, 3) := by decide +kernel
theorem dX8_wearAll_80 : decode cX8_wearAll 80 = .ok (.goto (-43), 3) := by decide +kernel
theorem dX8_wearAll_83 : decode cX8_wearAll 83 = .ok (.iinc 4 1, 3) := by decide +kernel
theorem dX8_wearAll_86 : decode cX8_wearAll 86 = .ok (.goto (-83), 3) := by decide +kernel
theorem dX8_wearAll_89 : decode cX8_wearAll 89 = .ok (.return_, 1) := by decide +kernel
theorem dX8_goOnFrom_0 : decode cX8_goOnFrom 0 = .ok (.aload_n 0, 1) := by decide +kernel
theorem dX8_goOnFrom_1 : decode cX8_goOnFrom 1 = .ok (.getfield 23, 3) := by decide +kernel
theorem dX8_goOnFrom_4 : decode cX8_goOnFrom 4 = .ok (.iconst 0, 1) := by decide +kernel
theorem dX8_goOnFrom_5 : decode cX8_goOnFrom 5 = .ok (.iaload, 1) := by decide +kernel
theorem dX8_goOnFrom_6 : decode cX8_goOnFrom 6 = .ok (.getstatic 65, 3) := by decide +kernel
theorem dX8_goOnFrom_9 : decode cX8_goOnFrom 9 = .ok (.iconst 0, 1) := by decide +kernel
theorem dX8_goOnFrom_10 : decode cX8_goOnFrom 10 = .ok (.iaload, 1) := by decide +kernel
theorem dX8_goOnFrom_11 : decode cX8_goOnFrom 11 = .ok (.imul, 1) := by decide +kernel
theorem dX8_goOnFrom_12 : decode cX8_goOnFrom 12 = .ok (.aload_n 0, 1) := by decide +kernel
theorem dX8_goOnFrom_13 : decode cX8_goOnFrom 13 = .ok (.getfield 23, 3) := by decide +kernel
theorem dX8_goOnFrom_16 : decode cX8_goOnFrom 16 = .ok (.iconst 1, 1) := by decide +kernel
theorem dX8_goOnFrom_17 : decode cX8_goOnFrom 17 = .ok (.iaload, 1) := by decide +kernel
theorem dX8_goOnFrom_18 : decode cX8_goOnFrom 18 = .ok (.getstatic 65, 3) := by decide +kernel
theorem dX8_goOnFrom_21 : decode cX8_goOnFrom 21 = .ok (.iconst 1, 1) := by decide +kernel
theorem dX8_goOnFrom_22 : decode cX8_goOnFrom 22 = .ok (.iaload, 1) := by decide +kernel
theorem dX8_goOnFrom_23 : decode cX8_goOnFrom 23 = .ok (.imul, 1) := by decide +kernel
theorem dX8_goOnFrom_24 : decode cX8_goOnFrom 24 = .ok (.iadd, 1) := by decide +kernel
theorem dX8_goOnFrom_25 : decode cX8_goOnFrom 25 = .ok (.aload_n 0, 1) := by decide +kernel
theorem dX8_goOnFrom_26 : decode cX8_goOnFrom 26 = .ok (.getfield 23, 3) := by decide +kernel
theorem dX8_goOnFrom_29 : decode cX8_goOnFrom 29 = .ok (.iconst 2, 1) := by decide +kernel
theorem dX8_goOnFrom_30 : decode cX8_goOnFrom 30 = .ok (.iaload, 1) := by decide +kernel
theorem dX8_goOnFrom_31 : decode cX8_goOnFrom 31 = .ok (.getstatic 65, 3) := by decide +kernel
theorem dX8_goOnFrom_34 : decode cX8_goOnFrom 34 = .ok (.iconst 2, 1) := by decide +kernel
theorem dX8_goOnFrom_35 : decode cX8_goOnFrom 35 = .ok (.iaload, 1) := by decide +kernel
theorem dX8_goOnFrom_36 : decode cX8_goOnFrom 36 = .ok (.imul, 1) := by decide +kernel
theorem dX8_goOnFrom_37 : decode cX8_goOnFrom 37 = .ok (.iadd, 1) := by decide +kernel
theorem dX8_goOnFrom_38 : decode cX8_goOnFrom 38 = .ok (.istore_n 3, 1) := by decide +kernel
theorem dX8_goOnFrom_39 : decode cX8_goOnFrom 39 = .ok (.aload_n 0, 1) := by decide +kernel
theorem dX8_goOnFrom_40 : decode cX8_goOnFrom 40 = .ok (.getfield 15, 3) := by decide +kernel
theorem dX8_goOnFrom_43 : decode cX8_goOnFrom 43 = .ok (.iload_n 3, 1) := by decide +kernel
theorem dX8_goOnFrom_44 : decode cX8_goOnFrom 44 = .ok (.iaload, 1) := by decide +kernel
theorem dX8_goOnFrom_45 : decode cX8_goOnFrom 45 = .ok (.istore 4, 2) := by decide +kernel
theorem dX8_goOnFrom_47 : decode cX8_goOnFrom 47 = .ok (.iconst 0, 1) := by decide +kernel
theorem dX8_goOnFrom_48 : decode cX8_goOnFrom 48 = .ok (.istore 5, 2) := by decide +kernel
theorem dX8_goOnFrom_50 : decode cX8_goOnFrom 50 = .ok (.iload 5, 2) := by decide +kernel
theorem dX8_goOnFrom_52 : decode cX8_goOnFrom 52 = .ok (.bipush 8, 2) := by decide +kernel
theorem dX8_goOnFrom_54 : decode cX8_goOnFrom 54 = .ok (.if_icmp .ge 40, 3) := by decide +kernel
theorem dX8_goOnFrom_57 : decode cX8_goOnFrom 57 = .ok (.iload 4, 2) := by decide +kernel
theorem dX8_goOnFrom_59 : decode cX8_goOnFrom 59 = .ok (.iload 5, 2) := by decide +kernel
theorem dX8_goOnFrom_61 : decode cX8_goOnFrom 61 = .ok (.ishr, 1) := by decide +kernel
theorem dX8_goOnFrom_62 : decode cX8_goOnFrom 62 = .ok (.iconst 1, 1) := by decide +kernel
theorem dX8_goOnFrom_63 : decode cX8_goOnFrom 63 = .ok (.iand, 1) := by decide +kernel
theorem dX8_goOnFrom_64 : decode cX8_goOnFrom 64 = .ok (.iconst 1, 1) := by decide +kernel
theorem dX8_goOnFrom_65 : decode cX8_goOnFrom 65 = .ok (.if_icmp .ne 23, 3) := by decide +kernel
theorem dX8_goOnFrom_68 : decode cX8_goOnFrom 68 = .ok (.aload_n 0, 1) := by decide +kernel
theorem dX8_goOnFrom_69 : decode cX8_goOnFrom 69 = .ok (.getfield 9, 3) := by decide +kernel
theorem dX8_goOnFrom_72 : decode cX8_goOnFrom 72 = .ok (.iload 5, 2) := by decide +kernel
theorem dX8_goOnFrom_74 : decode cX8_goOnFrom 74 = .ok (.iaload, 1) := by decide +kernel
theorem dX8_goOnFrom_75 : decode cX8_goOnFrom 75 = .ok (.ldc 26, 2) := by decide +kernel
theorem dX8_goOnFrom_77 : decode cX8_goOnFrom 77 = .ok (.if_icmp .ne 11, 3) := by decide +kernel
theorem dX8_goOnFrom_80 : decode cX8_goOnFrom 80 = .ok (.aload_n 0, 1) := by decide +kernel
theorem dX8_goOnFrom_81 : decode cX8_goOnFrom 81 = .ok (.getfield 9, 3) := by decide +kernel
theorem dX8_goOnFrom_84 : decode cX8_goOnFrom 84 = .ok (.iload 5, 2) := by decide +kernel
theorem dX8_goOnFrom_86 : decode cX8_goOnFrom 86 = .ok (.iload_n 2, 1) := by decide +kernel
theorem dX8_goOnFrom_87 : decode cX8_goOnFrom 87 = .ok (.iastore, 1) := by decide +kernel
theorem dX8_goOnFrom_88 : decode cX8_goOnFrom 88 = .ok (.iinc 5 1, 3) := by decide +kernel
theorem dX8_goOnFrom_91 : decode cX8_goOnFrom 91 = .ok (.goto (-41), 3) := by decide +kernel
theorem dX8_goOnFrom_94 : decode cX8_goOnFrom 94 = .ok (.iload_n 2, 1) := by decide +kernel
theorem dX8_goOnFrom_95 : decode cX8_goOnFrom 95 = .ok (.bipush 8, 2) := by decide +kernel
theorem dX8_goOnFrom_97 : decode cX8_goOnFrom 97 = .ok (.if_icmp .ne 4, 3) := by decide +kernel
theorem dX8_goOnFrom_100 : decode cX8_goOnFrom 100 = .ok (.return_, 1) := by decide +kernel
theorem dX8_goOnFrom_101 : decode cX8_goOnFrom 101 = .ok (.iconst 0, 1) := by decide +kernel
theorem dX8_goOnFrom_102 : decode cX8_goOnFrom 102 = .ok (.istore 5, 2) := by decide +kernel
theorem dX8_goOnFrom_104 : decode cX8_goOnFrom 104 = .ok (.iload 5, 2) := by decide +kernel
theorem dX8_goOnFrom_106 : decode cX8_goOnFrom 106 = .ok (.aload_n 1, 1) := by decide +kernel
theorem dX8_goOnFrom_107 : decode cX8_goOnFrom 107 = .ok (.getfield 68, 3) := by decide +kernel
theorem dX8_goOnFrom_110 : decode cX8_goOnFrom 110 = .ok (.if_icmp .ge 107, 3) := by decide +kernel
theorem dX8_goOnFrom_113 : decode cX8_goOnFrom 113 = .ok (.aload_n 1, 1) := by decide +kernel
theorem dX8_goOnFrom_114 : decode cX8_goOnFrom 114 = .ok (.getfield 71, 3) := by decide +kernel
theorem dX8_goOnFrom_117 : decode cX8_goOnFrom 117 = .ok (.iload 5, 2) := by decide +kernel
theorem dX8_goOnFrom_119 : decode cX8_goOnFrom 119 = .ok (.aaload, 1) := by decide +kernel
theorem dX8_goOnFrom_120 : decode cX8_goOnFrom 120 = .ok (.astore 6, 2) := by decide +kernel
theorem dX8_goOnFrom_122 : decode cX8_goOnFrom 122 = .ok (.aload 6, 2) := by decide +kernel
theorem dX8_goOnFrom_124 : decode cX8_goOnFrom 124 = .ok (.getfield 75, 3) := by decide +kernel
theorem dX8_goOnFrom_127 : decode cX8_goOnFrom 127 = .ok (.ifCond .ne 36, 3) := by decide +kernel
theorem dX8_goOnFrom_130 : decode cX8_goOnFrom 130 = .ok (.aload_n 0, 1) := by decide +kernel
theorem dX8_goOnFrom_131 : decode cX8_goOnFrom 131 = .ok (.getfield 20, 3) := by decide +kernel
theorem dX8_goOnFrom_134 : decode cX8_goOnFrom 134 = .ok (.aload 6, 2) := by decide +kernel
theorem dX8_goOnFrom_136 : decode cX8_goOnFrom 136 = .ok (.getfield 81, 3) := by decide +kernel
theorem dX8_goOnFrom_139 : decode cX8_goOnFrom 139 = .ok (.aaload, 1) := by decide +kernel
theorem dX8_goOnFrom_140 : decode cX8_goOnFrom 140 = .ok (.aload_n 0, 1) := by decide +kernel
theorem dX8_goOnFrom_141 : decode cX8_goOnFrom 141 = .ok (.getfield 23, 3) := by decide +kernel
theorem dX8_goOnFrom_144 : decode cX8_goOnFrom 144 = .ok (.aload 6, 2) := by decide +kernel
theorem dX8_goOnFrom_146 : decode cX8_goOnFrom 146 = .ok (.getfield 81, 3) := by decide +kernel
theorem dX8_goOnFrom_149 : decode cX8_goOnFrom 149 = .ok (.iaload, 1) := by decide +kernel
theorem dX8_goOnFrom_150 : decode cX8_goOnFrom 150 = .ok (.iaload, 1) := by decide +kernel
theorem dX8_goOnFrom_151 : decode cX8_goOnFrom 151 = .ok (.aload 6, 2) := by decide +kernel
theorem dX8_goOnFrom_153 : decode cX8_goOnFrom 153 = .ok (.getfield 84, 3) := by decide +kernel
theorem dX8_goOnFrom_156 : decode cX8_goOnFrom 156 = .ok (.if_icmp .lt 7, 3) := by decide +kernel
theorem dX8_goOnFrom_159 : decode cX8_goOnFrom 159 = .ok (.iconst 1, 1) := by decide +kernel
theorem dX8_goOnFrom_160 : decode cX8_goOnFrom 160 = .ok (.goto 4, 3) := by decide +kernel
theorem dX8_goOnFrom_163 : decode cX8_goOnFrom 163 = .ok (.iconst 0, 1) := by decide +kernel
theorem dX8_goOnFrom_164 : decode cX8_goOnFrom 164 = .ok (.istore 7, 2) := by decide +kernel
theorem dX8_goOnFrom_166 : decode cX8_goOnFrom 166 = .ok (.iload 7, 2) := by decide +kernel
theorem dX8_goOnFrom_168 : decode cX8_goOnFrom 168 = .ok (.ifCond .eq 43, 3) := by decide +kernel
theorem dX8_goOnFrom_171 : decode cX8_goOnFrom 171 = .ok (.iload 4, 2) := by decide +kernel
theorem dX8_goOnFrom_173 : decode cX8_goOnFrom 173 = .ok (.aload 6, 2) := by decide +kernel
theorem dX8_goOnFrom_175 : decode cX8_goOnFrom 175 = .ok (.getfield 87, 3) := by decide +kernel
theorem dX8_goOnFrom_178 : decode cX8_goOnFrom 178 = .ok (.ishr, 1) := by decide +kernel
theorem dX8_goOnFrom_179 : decode cX8_goOnFrom 179 = .ok (.iconst 1, 1) := by decide +kernel
theorem dX8_goOnFrom_180 : decode cX8_goOnFrom 180 = .ok (.iand, 1) := by decide +kernel
theorem dX8_goOnFrom_181 : decode cX8_goOnFrom 181 = .ok (.iconst 1, 1) := by decide +kernel
theorem dX8_goOnFrom_182 : decode cX8_goOnFrom 182 = .ok (.if_icmp .ne 29, 3) := by decide +kernel
theorem dX8_goOnFrom_185 : decode cX8_goOnFrom 185 = .ok (.aload_n 0, 1) := by decide +kernel
theorem dX8_goOnFrom_186 : decode cX8_goOnFrom 186 = .ok (.getfield 15, 3) := by decide +kernel
theorem dX8_goOnFrom_189 : decode cX8_goOnFrom 189 = .ok (.iload_n 3, 1) := by decide +kernel
theorem dX8_goOnFrom_190 : decode cX8_goOnFrom 190 = .ok (.getstatic 65, 3) := by decide +kernel
theorem dX8_goOnFrom_193 : decode cX8_goOnFrom 193 = .ok (.aload 6, 2) := by decide +kernel
theorem dX8_goOnFrom_195 : decode cX8_goOnFrom 195 = .ok (.getfield 81, 3) := by decide +kernel
theorem dX8_goOnFrom_198 : decode cX8_goOnFrom 198 = .ok (.iaload, 1) := by decide +kernel
theorem dX8_goOnFrom_199 : decode cX8_goOnFrom 199 = .ok (.iadd, 1) := by decide +kernel
theorem dX8_goOnFrom_200 : decode cX8_goOnFrom 200 = .ok (.dup2, 1) := by decide +kernel
theorem dX8_goOnFrom_201 : decode cX8_goOnFrom 201 = .ok (.iaload, 1) := by decide +kernel
theorem dX8_goOnFrom_202 : decode cX8_goOnFrom 202 = .ok (.iconst 1, 1) := by decide +kernel
theorem dX8_goOnFrom_203 : decode cX8_goOnFrom 203 = .ok (.aload 6, 2) := by decide +kernel
theorem dX8_goOnFrom_205 : decode cX8_goOnFrom 205 = .ok (.getfield 90, 3) := by decide +kernel
theorem dX8_goOnFrom_208 : decode cX8_goOnFrom 208 = .ok (.ishl, 1) := by decide +kernel
theorem dX8_goOnFrom_209 : decode cX8_goOnFrom 209 = .ok (.ior, 1) := by decide +kernel
theorem dX8_goOnFrom_210 : decode cX8_goOnFrom 210 = .ok (.iastore, 1) := by decide +kernel
theorem dX8_goOnFrom_211 : decode cX8_goOnFrom 211 = .ok (.iinc 5 1, 3) := by decide +kernel
theorem dX8_goOnFrom_214 : decode cX8_goOnFrom 214 = .ok (.goto (-110), 3) := by decide +kernel
theorem dX8_goOnFrom_217 : decode cX8_goOnFrom 217 = .ok (.return_, 1) := by decide +kernel
