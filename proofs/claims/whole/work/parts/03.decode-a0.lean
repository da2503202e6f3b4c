theorem dX0_isOf_0 : decode cX0_isOf 0 = .ok (.iload_n 0, 1) := by decide +kernel
theorem dX0_isOf_1 : decode cX0_isOf 1 = .ok (.istore_n 2, 1) := by decide +kernel
theorem dX0_isOf_2 : decode cX0_isOf 2 = .ok (.iconst 0, 1) := by decide +kernel
theorem dX0_isOf_3 : decode cX0_isOf 3 = .ok (.istore_n 3, 1) := by decide +kernel
theorem dX0_isOf_4 : decode cX0_isOf 4 = .ok (.iload_n 3, 1) := by decide +kernel
theorem dX0_isOf_5 : decode cX0_isOf 5 = .ok (.bipush 6, 2) := by decide +kernel
theorem dX0_isOf_7 : decode cX0_isOf 7 = .ok (.if_icmp .ge 26, 3) := by decide +kernel
theorem dX0_isOf_10 : decode cX0_isOf 10 = .ok (.iload_n 2, 1) := by decide +kernel
theorem dX0_isOf_11 : decode cX0_isOf 11 = .ok (.ifCond .lt 22, 3) := by decide +kernel
theorem dX0_isOf_14 : decode cX0_isOf 14 = .ok (.iload_n 2, 1) := by decide +kernel
theorem dX0_isOf_15 : decode cX0_isOf 15 = .ok (.iload_n 1, 1) := by decide +kernel
theorem dX0_isOf_16 : decode cX0_isOf 16 = .ok (.if_icmp .ne 5, 3) := by decide +kernel
theorem dX0_isOf_19 : decode cX0_isOf 19 = .ok (.iconst 1, 1) := by decide +kernel
theorem dX0_isOf_20 : decode cX0_isOf 20 = .ok (.ireturn, 1) := by decide +kernel
theorem dX0_isOf_21 : decode cX0_isOf 21 = .ok (.getstatic 9, 3) := by decide +kernel
theorem dX0_isOf_24 : decode cX0_isOf 24 = .ok (.iload_n 2, 1) := by decide +kernel
theorem dX0_isOf_25 : decode cX0_isOf 25 = .ok (.iaload, 1) := by decide +kernel
theorem dX0_isOf_26 : decode cX0_isOf 26 = .ok (.istore_n 2, 1) := by decide +kernel
theorem dX0_isOf_27 : decode cX0_isOf 27 = .ok (.iinc 3 1, 3) := by decide +kernel
theorem dX0_isOf_30 : decode cX0_isOf 30 = .ok (.goto (-26), 3) := by decide +kernel
theorem dX0_isOf_33 : decode cX0_isOf 33 = .ok (.iconst 0, 1) := by decide +kernel
theorem dX0_isOf_34 : decode cX0_isOf 34 = .ok (.ireturn, 1) := by decide +kernel
theorem dX0_feels_0 : decode cX0_feels 0 = .ok (.iload_n 0, 1) := by decide +kernel
theorem dX0_feels_1 : decode cX0_feels 1 = .ok (.tableswitch 59 1 5 #[35, 47, 40, 51, 57], 35) := by decide +kernel
theorem dX0_feels_36 : decode cX0_feels 36 = .ok (.iload_n 1, 1) := by decide +kernel
theorem dX0_feels_37 : decode cX0_feels 37 = .ok (.bipush 9, 2) := by decide +kernel
theorem dX0_feels_39 : decode cX0_feels 39 = .ok (.iadd, 1) := by decide +kernel
theorem dX0_feels_40 : decode cX0_feels 40 = .ok (.ireturn, 1) := by decide +kernel
theorem dX0_feels_41 : decode cX0_feels 41 = .ok (.iconst 2, 1) := by decide +kernel
theorem dX0_feels_42 : decode cX0_feels 42 = .ok (.iload_n 1, 1) := by decide +kernel
theorem dX0_feels_43 : decode cX0_feels 43 = .ok (.bipush 9, 2) := by decide +kernel
theorem dX0_feels_45 : decode cX0_feels 45 = .ok (.iadd, 1) := by decide +kernel
theorem dX0_feels_46 : decode cX0_feels 46 = .ok (.imul, 1) := by decide +kernel
theorem dX0_feels_47 : decode cX0_feels 47 = .ok (.ireturn, 1) := by decide +kernel
theorem dX0_feels_48 : decode cX0_feels 48 = .ok (.iload_n 1, 1) := by decide +kernel
theorem dX0_feels_49 : decode cX0_feels 49 = .ok (.iconst 2, 1) := by decide +kernel
theorem dX0_feels_50 : decode cX0_feels 50 = .ok (.idiv, 1) := by decide +kernel
theorem dX0_feels_51 : decode cX0_feels 51 = .ok (.ireturn, 1) := by decide +kernel
theorem dX0_feels_52 : decode cX0_feels 52 = .ok (.iload_n 1, 1) := by decide +kernel
theorem dX0_feels_53 : decode cX0_feels 53 = .ok (.iconst 2, 1) := by decide +kernel
theorem dX0_feels_54 : decode cX0_feels 54 = .ok (.idiv, 1) := by decide +kernel
theorem dX0_feels_55 : decode cX0_feels 55 = .ok (.iconst 3, 1) := by decide +kernel
theorem dX0_feels_56 : decode cX0_feels 56 = .ok (.iadd, 1) := by decide +kernel
theorem dX0_feels_57 : decode cX0_feels 57 = .ok (.ireturn, 1) := by decide +kernel
theorem dX0_feels_58 : decode cX0_feels 58 = .ok (.iconst 0, 1) := by decide +kernel
theorem dX0_feels_59 : decode cX0_feels 59 = .ok (.ireturn, 1) := by decide +kernel
theorem dX0_feels_60 : decode cX0_feels 60 = .ok (.iload_n 1, 1) := by decide +kernel
theorem dX0_feels_61 : decode cX0_feels 61 = .ok (.ireturn, 1) := by decide +kernel
theorem dX0_wears_0 : decode cX0_wears 0 = .ok (.iload_n 0, 1) := by decide +kernel
theorem dX0_wears_1 : decode cX0_wears 1 = .ok (.tableswitch 45 1 4 #[31, 35, 31, 39], 31) := by decide +kernel
theorem dX0_wears_32 : decode cX0_wears 32 = .ok (.iload_n 1, 1) := by decide +kernel
theorem dX0_wears_33 : decode cX0_wears 33 = .ok (.iconst 2, 1) := by decide +kernel
theorem dX0_wears_34 : decode cX0_wears 34 = .ok (.idiv, 1) := by decide +kernel
theorem dX0_wears_35 : decode cX0_wears 35 = .ok (.ireturn, 1) := by decide +kernel
theorem dX0_wears_36 : decode cX0_wears 36 = .ok (.iconst 2, 1) := by decide +kernel
theorem dX0_wears_37 : decode cX0_wears 37 = .ok (.iload_n 1, 1) := by decide +kernel
theorem dX0_wears_38 : decode cX0_wears 38 = .ok (.imul, 1) := by decide +kernel
theorem dX0_wears_39 : decode cX0_wears 39 = .ok (.ireturn, 1) := by decide +kernel
theorem dX0_wears_40 : decode cX0_wears 40 = .ok (.iconst 2, 1) := by decide +kernel
theorem dX0_wears_41 : decode cX0_wears 41 = .ok (.iload_n 1, 1) := by decide +kernel
theorem dX0_wears_42 : decode cX0_wears 42 = .ok (.imul, 1) := by decide +kernel
theorem dX0_wears_43 : decode cX0_wears 43 = .ok (.iconst 1, 1) := by decide +kernel
theorem dX0_wears_44 : decode cX0_wears 44 = .ok (.iadd, 1) := by decide +kernel
theorem dX0_wears_45 : decode cX0_wears 45 = .ok (.ireturn, 1) := by decide +kernel
theorem dX0_wears_46 : decode cX0_wears 46 = .ok (.iload_n 1, 1) := by decide +kernel
theorem dX0_wears_47 : decode cX0_wears 47 = .ok (.ireturn, 1) := by decide +kernel
theorem dX0_worth_0 : decode cX0_worth 0 = .ok (.iload_n 0, 1) := by decide +kernel
theorem dX0_worth_1 : decode cX0_worth 1 = .ok (.tableswitch 62 1 5 #[35, 45, 39, 51, 59], 35) := by decide +kernel
theorem dX0_worth_36 : decode cX0_worth 36 = .ok (.iload_n 1, 1) := by decide +kernel
theorem dX0_worth_37 : decode cX0_worth 37 = .ok (.iconst 4, 1) := by decide +kernel
theorem dX0_worth_38 : decode cX0_worth 38 = .ok (.iadd, 1) := by decide +kernel
theorem dX0_worth_39 : decode cX0_worth 39 = .ok (.ireturn, 1) := by decide +kernel
theorem dX0_worth_40 : decode cX0_worth 40 = .ok (.iconst 2, 1) := by decide +kernel
theorem dX0_worth_41 : decode cX0_worth 41 = .ok (.iload_n 1, 1) := by decide +kernel
theorem dX0_worth_42 : decode cX0_worth 42 = .ok (.iconst 4, 1) := by decide +kernel
theorem dX0_worth_43 : decode cX0_worth 43 = .ok (.iadd, 1) := by decide +kernel
theorem dX0_worth_44 : decode cX0_worth 44 = .ok (.imul, 1) := by decide +kernel
theorem dX0_worth_45 : decode cX0_worth 45 = .ok (.ireturn, 1) := by decide +kernel
theorem dX0_worth_46 : decode cX0_worth 46 = .ok (.sipush 300, 3) := by decide +kernel
theorem dX0_worth_49 : decode cX0_worth 49 = .ok (.iload_n 1, 1) := by decide +kernel
theorem dX0_worth_50 : decode cX0_worth 50 = .ok (.isub, 1) := by decide +kernel
theorem dX0_worth_51 : decode cX0_worth 51 = .ok (.ireturn, 1) := by decide +kernel
theorem dX0_worth_52 : decode cX0_worth 52 = .ok (.sipush 300, 3) := by decide +kernel
theorem dX0_worth_55 : decode cX0_worth 55 = .ok (.iload_n 1, 1) := by decide +kernel
theorem dX0_worth_56 : decode cX0_worth 56 = .ok (.isub, 1) := by decide +kernel
theorem dX0_worth_57 : decode cX0_worth 57 = .ok (.iconst 5, 1) := by decide +kernel
theorem dX0_worth_58 : decode cX0_worth 58 = .ok (.isub, 1) := by decide +kernel
theorem dX0_worth_59 : decode cX0_worth 59 = .ok (.ireturn, 1) := by decide +kernel
theorem dX0_worth_60 : decode cX0_worth 60 = .ok (.bipush 6, 2) := by decide +kernel
theorem dX0_worth_62 : decode cX0_worth 62 = .ok (.ireturn, 1) := by decide +kernel
theorem dX0_worth_63 : decode cX0_worth 63 = .ok (.iload_n 1, 1) := by decide +kernel
theorem dX0_worth_64 : decode cX0_worth 64 = .ok (.ireturn, 1) := by decide +kernel
theorem dX1_init_0 : decode cX1_init 0 = .ok (.aload_n 0, 1) := by decide +kernel
theorem dX1_init_1 : decode cX1_init 1 = .ok (.invokespecial 1, 3) := by decide +kernel
theorem dX1_init_4 : decode cX1_init 4 = .ok (.return_, 1) := by decide +kernel
theorem dX1_become_0 : decode cX1_become 0 = .ok (.aload_n 0, 1) := by decide +kernel
theorem dX1_become_1 : decode cX1_become 1 = .ok (.iload_n 1, 1) := by decide +kernel
theorem dX1_become_2 : decode cX1_become 2 = .ok (.putfield 7, 3) := by decide +kernel
theorem dX1_become_5 : decode cX1_become 5 = .ok (.aload_n 0, 1) := by decide +kernel
theorem dX1_become_6 : decode cX1_become 6 = .ok (.iload_n 2, 1) := by decide +kernel
theorem dX1_become_7 : decode cX1_become 7 = .ok (.putfield 13, 3) := by decide +kernel
theorem dX1_become_10 : decode cX1_become 10 = .ok (.aload_n 0, 1) := by decide +kernel
theorem dX1_become_11 : decode cX1_become 11 = .ok (.iload_n 3, 1) := by decide +kernel
theorem dX1_become_12 : decode cX1_become 12 = .ok (.putfield 16, 3) := by decide +kernel
theorem dX1_become_15 : decode cX1_become 15 = .ok (.aload_n 0, 1) := by decide +kernel
theorem dX1_become_16 : decode cX1_become 16 = .ok (.iload 4, 2) := by decide +kernel
theorem dX1_become_18 : decode cX1_become 18 = .ok (.putfield 19, 3) := by decide +kernel
theorem dX1_become_21 : decode cX1_become 21 = .ok (.aload_n 0, 1) := by decide +kernel
theorem dX1_become_22 : decode cX1_become 22 = .ok (.iconst 0, 1) := by decide +kernel
theorem dX1_become_23 : decode cX1_become 23 = .ok (.putfield 22, 3) := by decide +kernel
theorem dX1_become_26 : decode cX1_become 26 = .ok (.return_, 1) := by decide +kernel
theorem dX1_becomeAs_0 : decode cX1_becomeAs 0 = .ok (.aload_n 0, 1) := by decide +kernel
theorem dX1_becomeAs_1 : decode cX1_becomeAs 1 = .ok (.aload_n 1, 1) := by decide +kernel
theorem dX1_becomeAs_2 : decode cX1_becomeAs 2 = .ok (.getfield 7, 3) := by decide +kernel
theorem dX1_becomeAs_5 : decode cX1_becomeAs 5 = .ok (.aload_n 1, 1) := by decide +kernel
theorem dX1_becomeAs_6 : decode cX1_becomeAs 6 = .ok (.getfield 13, 3) := by decide +kernel
theorem dX1_becomeAs_9 : decode cX1_becomeAs 9 = .ok (.aload_n 1, 1) := by decide +kernel
theorem dX1_becomeAs_10 : decode cX1_becomeAs 10 = .ok (.getfield 16, 3) := by decide +kernel
theorem dX1_becomeAs_13 : decode cX1_becomeAs 13 = .ok (.aload_n 1, 1) := by decide +kernel
theorem dX1_becomeAs_14 : decode cX1_becomeAs 14 = .ok (.getfield 19, 3) := by decide +kernel
theorem dX1_becomeAs_17 : decode cX1_becomeAs 17 = .ok (.invokevirtual 26, 3) := by decide +kernel
theorem dX1_becomeAs_20 : decode cX1_becomeAs 20 = .ok (.aload_n 0, 1) := by decide +kernel
theorem dX1_becomeAs_21 : decode cX1_becomeAs 21 = .ok (.aload_n 1, 1) := by decide +kernel
theorem dX1_becomeAs_22 : decode cX1_becomeAs 22 = .ok (.getfield 22, 3) := by decide +kernel
theorem dX1_becomeAs_25 : decode cX1_becomeAs 25 = .ok (.putfield 22, 3) := by decide +kernel
theorem dX1_becomeAs_28 : decode cX1_becomeAs 28 = .ok (.return_, 1) := by decide +kernel
theorem dX1_opensFor_0 : decode cX1_opensFor 0 = .ok (.aload_n 0, 1) := by decide +kernel
theorem dX1_opensFor_1 : decode cX1_opensFor 1 = .ok (.getfield 22, 3) := by decide +kernel
theorem dX1_opensFor_4 : decode cX1_opensFor 4 = .ok (.ifCond .ne 22, 3) := by decide +kernel
theorem dX1_opensFor_7 : decode cX1_opensFor 7 = .ok (.aload_n 1, 1) := by decide +kernel
theorem dX1_opensFor_8 : decode cX1_opensFor 8 = .ok (.aload_n 0, 1) := by decide +kernel
theorem dX1_opensFor_9 : decode cX1_opensFor 9 = .ok (.getfield 16, 3) := by decide +kernel
theorem dX1_opensFor_12 : decode cX1_opensFor 12 = .ok (.invokevirtual 30, 3) := by decide +kernel
theorem dX1_opensFor_15 : decode cX1_opensFor 15 = .ok (.aload_n 0, 1) := by decide +kernel
theorem dX1_opensFor_16 : decode cX1_opensFor 16 = .ok (.getfield 19, 3) := by decide +kernel
theorem dX1_opensFor_19 : decode cX1_opensFor 19 = .ok (.if_icmp .lt 7, 3) := by decide +kernel
theorem dX1_opensFor_22 : decode cX1_opensFor 22 = .ok (.iconst 1, 1) := by decide +kernel
theorem dX1_opensFor_23 : decode cX1_opensFor 23 = .ok (.goto 4, 3) := by decide +kernel
theorem dX1_opensFor_26 : decode cX1_opensFor 26 = .ok (.iconst 0, 1) := by decide +kernel
theorem dX1_opensFor_27 : decode cX1_opensFor 27 = .ok (.ireturn, 1) := by decide +kernel
theorem dX3_init_0 : decode cX3_init 0 = .ok (.aload_n 0, 1) := by decide +kernel
theorem dX3_init_1 : decode cX3_init 1 = .ok (.invokespecial 3, 3) := by decide +kernel
theorem dX3_init_4 : decode cX3_init 4 = .ok (.aload_n 0, 1) := by decide +kernel
theorem dX3_init_5 : decode cX3_init 5 = .ok (.iconst 3, 1) := by decide +kernel
theorem dX3_init_6 : decode cX3_init 6 = .ok (.newarray .int, 2) := by decide +kernel
theorem dX3_init_8 : decode cX3_init 8 = .ok (.putfield 9, 3) := by decide +kernel
theorem dX3_init_11 : decode cX3_init 11 = .ok (.return_, 1) := by decide +kernel
theorem dX3_become_0 : decode cX3_become 0 = .ok (.aload_n 0, 1) := by decide +kernel
theorem dX3_become_1 : decode cX3_become 1 = .ok (.iload_n 1, 1) := by decide +kernel
theorem dX3_become_2 : decode cX3_become 2 = .ok (.putfield 15, 3) := by decide +kernel
theorem dX3_become_5 : decode cX3_become 5 = .ok (.aload_n 0, 1) := by decide +kernel
theorem dX3_become_6 : decode cX3_become 6 = .ok (.iload_n 2, 1) := by decide +kernel
theorem dX3_become_7 : decode cX3_become 7 = .ok (.putfield 19, 3) := by decide +kernel
theorem dX3_become_10 : decode cX3_become 10 = .ok (.aload_n 0, 1) := by decide +kernel
theorem dX3_become_11 : decode cX3_become 11 = .ok (.getfield 9, 3) := by decide +kernel
theorem dX3_become_14 : decode cX3_become 14 = .ok (.iconst 0, 1) := by decide +kernel
theorem dX3_become_15 : decode cX3_become 15 = .ok (.iload_n 3, 1) := by decide +kernel
theorem dX3_become_16 : decode cX3_become 16 = .ok (.iastore, 1) := by decide +kernel
theorem dX3_become_17 : decode cX3_become 17 = .ok (.aload_n 0, 1) := by decide +kernel
theorem dX3_become_18 : decode cX3_become 18 = .ok (.getfield 9, 3) := by decide +kernel
theorem dX3_become_21 : decode cX3_become 21 = .ok (.iconst 1, 1) := by decide +kernel
theorem dX3_become_22 : decode cX3_become 22 = .ok (.iload 4, 2) := by decide +kernel
theorem dX3_become_24 : decode cX3_become 24 = .ok (.iastore, 1) := by decide +kernel
theorem dX3_become_25 : decode cX3_become 25 = .ok (.aload_n 0, 1) := by decide +kernel
theorem dX3_become_26 : decode cX3_become 26 = .ok (.getfield 9, 3) := by decide +kernel
theorem dX3_become_29 : decode cX3_become 29 = .ok (.iconst 2, 1) := by decide +kernel
theorem dX3_become_30 : decode cX3_become 30 = .ok (.iload 5, 2) := by decide +kernel
theorem dX3_become_32 : decode cX3_become 32 = .ok (.iastore, 1) := by decide +kernel
theorem dX3_become_33 : decode cX3_become 33 = .ok (.return_, 1) := by decide +kernel
theorem dX3_becomeAs_0 : decode cX3_becomeAs 0 = .ok (.aload_n 0, 1) := by decide +kernel
theorem dX3_becomeAs_1 : decode cX3_becomeAs 1 = .ok (.aload_n 1, 1) := by decide +kernel
theorem dX3_becomeAs_2 : decode cX3_becomeAs 2 = .ok (.getfield 15, 3) := by decide +kernel
theorem dX3_becomeAs_5 : decode cX3_becomeAs 5 = .ok (.aload_n 1, 1) := by decide +kernel
theorem dX3_becomeAs_6 : decode cX3_becomeAs 6 = .ok (.getfield 19, 3) := by decide +kernel
theorem dX3_becomeAs_9 : decode cX3_becomeAs 9 = .ok (.aload_n 1, 1) := by decide +kernel
theorem dX3_becomeAs_10 : decode cX3_becomeAs 10 = .ok (.getfield 9, 3) := by decide +kernel
theorem dX3_becomeAs_13 : decode cX3_becomeAs 13 = .ok (.iconst 0, 1) := by decide +kernel
theorem dX3_becomeAs_14 : decode cX3_becomeAs 14 = .ok (.iaload, 1) := by decide +kernel
theorem dX3_becomeAs_15 : decode cX3_becomeAs 15 = .ok (.aload_n 1, 1) := by decide +kernel
theorem dX3_becomeAs_16 : decode cX3_becomeAs 16 = .ok (.getfield 9, 3) := by decide +kernel
theorem dX3_becomeAs_19 : decode cX3_becomeAs 19 = .ok (.iconst 1, 1) := by decide +kernel
theorem dX3_becomeAs_20 : decode cX3_becomeAs 20 = .ok (.iaload, 1) := by decide +kernel
theorem dX3_becomeAs_21 : decode cX3_becomeAs 21 = .ok (.aload_n 1, 1) := by decide +kernel
theorem dX3_becomeAs_22 : decode cX3_becomeAs 22 = .ok (.getfield 9, 3) := by decide +kernel
theorem dX3_becomeAs_25 : decode cX3_becomeAs 25 = .ok (.iconst 2, 1) := by decide +kernel
theorem dX3_becomeAs_26 : decode cX3_becomeAs 26 = .ok (.iaload, 1) := by decide +kernel
theorem dX3_becomeAs_27 : decode cX3_becomeAs 27 = .ok (.invokevirtual 22, 3) := by decide +kernel
theorem dX3_becomeAs_30 : decode cX3_becomeAs 30 = .ok (.return_, 1) := by decide +kernel
theorem dX3_feelsOf_0 : decode cX3_feelsOf 0 = .ok (.aload_n 0, 1) := by decide +kernel
theorem dX3_feelsOf_1 : decode cX3_feelsOf 1 = .ok (.getfield 15, 3) := by decide +kernel
theorem dX3_feelsOf_4 : decode cX3_feelsOf 4 = .ok (.aload_n 0, 1) := by decide +kernel
theorem dX3_feelsOf_5 : decode cX3_feelsOf 5 = .ok (.getfield 9, 3) := by decide +kernel
theorem dX3_feelsOf_8 : decode cX3_feelsOf 8 = .ok (.iload_n 1, 1) := by decide +kernel
theorem dX3_feelsOf_9 : decode cX3_feelsOf 9 = .ok (.iaload, 1) := by decide +kernel
theorem dX3_feelsOf_10 : decode cX3_feelsOf 10 = .ok (.invokestatic 26, 3) := by decide +kernel
theorem dX3_feelsOf_13 : decode cX3_feelsOf 13 = .ok (.ireturn, 1) := by decide +kernel
theorem dX3_allRegrets_0 : decode cX3_allRegrets 0 = .ok (.aload_n 0, 1) := by decide +kernel
theorem dX3_allRegrets_1 : decode cX3_allRegrets 1 = .ok (.getfield 9, 3) := by decide +kernel
theorem dX3_allRegrets_4 : decode cX3_allRegrets 4 = .ok (.iconst 0, 1) := by decide +kernel
theorem dX3_allRegrets_5 : decode cX3_allRegrets 5 = .ok (.iaload, 1) := by decide +kernel
theorem dX3_allRegrets_6 : decode cX3_allRegrets 6 = .ok (.aload_n 0, 1) := by decide +kernel
theorem dX3_allRegrets_7 : decode cX3_allRegrets 7 = .ok (.getfield 9, 3) := by decide +kernel
theorem dX3_allRegrets_10 : decode cX3_allRegrets 10 = .ok (.iconst 1, 1) := by decide +kernel
theorem dX3_allRegrets_11 : decode cX3_allRegrets 11 = .ok (.iaload, 1) := by decide +kernel
theorem dX3_allRegrets_12 : decode cX3_allRegrets 12 = .ok (.iadd, 1) := by decide +kernel
theorem dX3_allRegrets_13 : decode cX3_allRegrets 13 = .ok (.aload_n 0, 1) := by decide +kernel
theorem dX3_allRegrets_14 : decode cX3_allRegrets 14 = .ok (.getfield 9, 3) := by decide +kernel
theorem dX3_allRegrets_17 : decode cX3_allRegrets 17 = .ok (.iconst 2, 1) := by decide +kernel
theorem dX3_allRegrets_18 : decode cX3_allRegrets 18 = .ok (.iaload, 1) := by decide +kernel
theorem dX3_allRegrets_19 : decode cX3_allRegrets 19 = .ok (.iadd, 1) := by decide +kernel
theorem dX3_allRegrets_20 : decode cX3_allRegrets 20 = .ok (.ireturn, 1) := by decide +kernel
theorem dX3_worth_0 : decode cX3_worth 0 = .ok (.aload_n 0, 1) := by decide +kernel
theorem dX3_worth_1 : decode cX3_worth 1 = .ok (.getfield 15, 3) := by decide +kernel
theorem dX3_worth_4 : decode cX3_worth 4 = .ok (.aload_n 0, 1) := by decide +kernel
theorem dX3_worth_5 : decode cX3_worth 5 = .ok (.invokevirtual 32, 3) := by decide +kernel
theorem dX3_worth_8 : decode cX3_worth 8 = .ok (.invokestatic 36, 3) := by decide +kernel
theorem dX3_worth_11 : decode cX3_worth 11 = .ok (.ireturn, 1) := by decide +kernel
theorem dX3_regretMore_0 : decode cX3_regretMore 0 = .ok (.aload_n 0, 1) := by decide +kernel
theorem dX3_regretMore_1 : decode cX3_regretMore 1 = .ok (.getfield 9, 3) := by decide +kernel
theorem dX3_regretMore_4 : decode cX3_regretMore 4 = .ok (.iload_n 1, 1) := by decide +kernel
theorem dX3_regretMore_5 : decode cX3_regretMore 5 = .ok (.bipush 99, 2) := by decide +kernel
theorem dX3_regretMore_7 : decode cX3_regretMore 7 = .ok (.aload_n 0, 1) := by decide +kernel
theorem dX3_regretMore_8 : decode cX3_regretMore 8 = .ok (.getfield 9, 3) := by decide +kernel
theorem dX3_regretMore_11 : decode cX3_regretMore 11 = .ok (.iload_n 1, 1) := by decide +kernel
theorem dX3_regretMore_12 : decode cX3_regretMore 12 = .ok (.iaload, 1) := by decide +kernel
theorem dX3_regretMore_13 : decode cX3_regretMore 13 = .ok (.iload_n 2, 1) := by decide +kernel
theorem dX3_regretMore_14 : decode cX3_regretMore 14 = .ok (.iadd, 1) := by decide +kernel
theorem dX3_regretMore_15 : decode cX3_regretMore 15 = .ok (.invokestatic 39, 3) := by decide +kernel
theorem dX3_regretMore_18 : decode cX3_regretMore 18 = .ok (.iastore, 1) := by decide +kernel
theorem dX3_regretMore_19 : decode cX3_regretMore 19 = .ok (.return_, 1) := by decide +kernel
theorem dX3_regretHalf_0 : decode cX3_regretHalf 0 = .ok (.iconst 0, 1) := by decide +kernel
theorem dX3_regretHalf_1 : decode cX3_regretHalf 1 = .ok (.istore_n 1, 1) := by decide +kernel
theorem dX3_regretHalf_2 : decode cX3_regretHalf 2 = .ok (.iload_n 1, 1) := by decide +kernel
theorem dX3_regretHalf_3 : decode cX3_regretHalf 3 = .ok (.iconst 3, 1) := by decide +kernel
theorem dX3_regretHalf_4 : decode cX3_regretHalf 4 = .ok (.if_icmp .ge 19, 3) := by decide +kernel
theorem dX3_regretHalf_7 : decode cX3_regretHalf 7 = .ok (.aload_n 0, 1) := by decide +kernel
theorem dX3_regretHalf_8 : decode cX3_regretHalf 8 = .ok (.getfield 9, 3) := by decide +kernel
theorem dX3_regretHalf_11 : decode cX3_regretHalf 11 = .ok (.iload_n 1, 1) := by decide +kernel
theorem dX3_regretHalf_12 : decode cX3_regretHalf 12 = .ok (.dup2, 1) := by decide +kernel
theorem dX3_regretHalf_13 : decode cX3_regretHalf 13 = .ok (.iaload, 1) := by decide +kernel
theorem dX3_regretHalf_14 : decode cX3_regretHalf 14 = .ok (.iconst 2, 1) := by decide +kernel
theorem dX3_regretHalf_15 : decode cX3_regretHalf 15 = .ok (.idiv, 1) := by decide +kernel
theorem dX3_regretHalf_16 : decode cX3_regretHalf 16 = .ok (.iastore, 1) := by decide +kernel
theorem dX3_regretHalf_17 : decode cX3_regretHalf 17 = .ok (.iinc 1 1, 3) := by decide +kernel
theorem dX3_regretHalf_20 : decode cX3_regretHalf 20 = .ok (.goto (-18), 3) := by decide +kernel
theorem dX3_regretHalf_23 : decode cX3_regretHalf 23 = .ok (.return_, 1) := by decide +kernel
theorem dX4_init_0 : decode cX4_init 0 = .ok (.aload_n 0, 1) := by decide +kernel
theorem dX4_init_1 : decode cX4_init 1 = .ok (.invokespecial 3, 3) := by decide +kernel
theorem dX4_init_4 : decode cX4_init 4 = .ok (.aload_n 0, 1) := by decide +kernel
theorem dX4_init_5 : decode cX4_init 5 = .ok (.iconst (-1), 1) := by decide +kernel
theorem dX4_init_6 : decode cX4_init 6 = .ok (.putfield 11, 3) := by decide +kernel
theorem dX4_init_9 : decode cX4_init 9 = .ok (.aload_n 0, 1) := by decide +kernel
theorem dX4_init_10 : decode cX4_init 10 = .ok (.bipush 24, 2) := by decide +kernel
theorem dX4_init_12 : decode cX4_init 12 = .ok (.newarray .int, 2) := by decide +kernel
theorem dX4_init_14 : decode cX4_init 14 = .ok (.putfield 15, 3) := by decide +kernel
theorem dX4_init_17 : decode cX4_init 17 = .ok (.return_, 1) := by decide +kernel
theorem dX4_become_0 : decode cX4_become 0 = .ok (.aload_n 0, 1) := by decide +kernel
theorem dX4_become_1 : decode cX4_become 1 = .ok (.iload_n 1, 1) := by decide +kernel
theorem dX4_become_2 : decode cX4_become 2 = .ok (.putfield 11, 3) := by decide +kernel
theorem dX4_become_5 : decode cX4_become 5 = .ok (.aload_n 0, 1) := by decide +kernel
theorem dX4_become_6 : decode cX4_become 6 = .ok (.iload_n 2, 1) := by decide +kernel
theorem dX4_become_7 : decode cX4_become 7 = .ok (.putfield 19, 3) := by decide +kernel
theorem dX4_become_10 : decode cX4_become 10 = .ok (.aload_n 0, 1) := by decide +kernel
theorem dX4_become_11 : decode cX4_become 11 = .ok (.getfield 15, 3) := by decide +kernel
theorem dX4_become_14 : decode cX4_become 14 = .ok (.iconst 0, 1) := by decide +kernel
theorem dX4_become_15 : decode cX4_become 15 = .ok (.invokestatic 22, 3) := by decide +kernel
theorem dX4_become_18 : decode cX4_become 18 = .ok (.return_, 1) := by decide +kernel
theorem dX4_becomeAs_0 : decode cX4_becomeAs 0 = .ok (.aload_n 0, 1) := by decide +kernel
theorem dX4_becomeAs_1 : decode cX4_becomeAs 1 = .ok (.aload_n 1, 1) := by decide +kernel
theorem dX4_becomeAs_2 : decode cX4_becomeAs 2 = .ok (.getfield 11, 3) := by decide +kernel
theorem dX4_becomeAs_5 : decode cX4_becomeAs 5 = .ok (.putfield 11, 3) := by decide +kernel
theorem dX4_becomeAs_8 : decode cX4_becomeAs 8 = .ok (.aload_n 0, 1) := by decide +kernel
theorem dX4_becomeAs_9 : decode cX4_becomeAs 9 = .ok (.aload_n 1, 1) := by decide +kernel
theorem dX4_becomeAs_10 : decode cX4_becomeAs 10 = .ok (.getfield 19, 3) := by decide +kernel
theorem dX4_becomeAs_13 : decode cX4_becomeAs 13 = .ok (.putfield 19, 3) := by decide +kernel
theorem dX4_becomeAs_16 : decode cX4_becomeAs 16 = .ok (.aload_n 1, 1) := by decide +kernel
theorem dX4_becomeAs_17 : decode cX4_becomeAs 17 = .ok (.getfield 15, 3) := by decide +kernel
theorem dX4_becomeAs_20 : decode cX4_becomeAs 20 = .ok (.iconst 0, 1) := by decide +kernel
theorem dX4_becomeAs_21 : decode cX4_becomeAs 21 = .ok (.aload_n 0, 1) := by decide +kernel
theorem dX4_becomeAs_22 : decode cX4_becomeAs 22 = .ok (.getfield 15, 3) := by decide +kernel
theorem dX4_becomeAs_25 : decode cX4_becomeAs 25 = .ok (.iconst 0, 1) := by decide +kernel
theorem dX4_becomeAs_26 : decode cX4_becomeAs 26 = .ok (.bipush 24, 2) := by decide +kernel
theorem dX4_becomeAs_28 : decode cX4_becomeAs 28 = .ok (.invokestatic 28, 3) := by decide +kernel
theorem dX4_becomeAs_31 : decode cX4_becomeAs 31 = .ok (.return_, 1) := by decide +kernel
theorem dX4_isMissing_0 : decode cX4_isMissing 0 = .ok (.aload_n 0, 1) := by decide +kernel
theorem dX4_isMissing_1 : decode cX4_isMissing 1 = .ok (.getfield 11, 3) := by decide +kernel
theorem dX4_isMissing_4 : decode cX4_isMissing 4 = .ok (.iconst (-1), 1) := by decide +kernel
theorem dX4_isMissing_5 : decode cX4_isMissing 5 = .ok (.if_icmp .ne 7, 3) := by decide +kernel
theorem dX4_isMissing_8 : decode cX4_isMissing 8 = .ok (.iconst 1, 1) := by decide +kernel
theorem dX4_isMissing_9 : decode cX4_isMissing 9 = .ok (.goto 4, 3) := by decide +kernel
theorem dX4_isMissing_12 : decode cX4_isMissing 12 = .ok (.iconst 0, 1) := by decide +kernel
theorem dX4_isMissing_13 : decode cX4_isMissing 13 = .ok (.ireturn, 1) := by decide +kernel
theorem dX4_hasPlace_0 : decode cX4_hasPlace 0 = .ok (.iload_n 1, 1) := by decide +kernel
theorem dX4_hasPlace_1 : decode cX4_hasPlace 1 = .ok (.ifCond .lt 15, 3) := by decide +kernel
theorem dX4_hasPlace_4 : decode cX4_hasPlace 4 = .ok (.iload_n 1, 1) := by decide +kernel
theorem dX4_hasPlace_5 : decode cX4_hasPlace 5 = .ok (.aload_n 0, 1) := by decide +kernel
theorem dX4_hasPlace_6 : decode cX4_hasPlace 6 = .ok (.getfield 19, 3) := by decide +kernel
theorem dX4_hasPlace_9 : decode cX4_hasPlace 9 = .ok (.if_icmp .ge 7, 3) := by decide +kernel
theorem dX4_hasPlace_12 : decode cX4_hasPlace 12 = .ok (.iconst 1, 1) := by decide +kernel
theorem dX4_hasPlace_13 : decode cX4_hasPlace 13 = .ok (.goto 4, 3) := by decide +kernel
theorem dX4_hasPlace_16 : decode cX4_hasPlace 16 = .ok (.iconst 0, 1) := by decide +kernel
theorem dX4_hasPlace_17 : decode cX4_hasPlace 17 = .ok (.ireturn, 1) := by decide +kernel
theorem dX4_hasPlaces_0 : decode cX4_hasPlaces 0 = .ok (.iload_n 1, 1) := by decide +kernel
theorem dX4_hasPlaces_1 : decode cX4_hasPlaces 1 = .ok (.ifCond .lt 29, 3) := by decide +kernel
theorem dX4_hasPlaces_4 : decode cX4_hasPlaces 4 = .ok (.iload_n 2, 1) := by decide +kernel
theorem dX4_hasPlaces_5 : decode cX4_hasPlaces 5 = .ok (.ifCond .lt 25, 3) := by decide +kernel
theorem dX4_hasPlaces_8 : decode cX4_hasPlaces 8 = .ok (.iload_n 2, 1) := by decide +kernel
theorem dX4_hasPlaces_9 : decode cX4_hasPlaces 9 = .ok (.aload_n 0, 1) := by decide +kernel
theorem dX4_hasPlaces_10 : decode cX4_hasPlaces 10 = .ok (.getfield 19, 3) := by decide +kernel
theorem dX4_hasPlaces_13 : decode cX4_hasPlaces 13 = .ok (.if_icmp .gt 17, 3) := by decide +kernel
theorem dX4_hasPlaces_16 : decode cX4_hasPlaces 16 = .ok (.iload_n 1, 1) := by decide +kernel
theorem dX4_hasPlaces_17 : decode cX4_hasPlaces 17 = .ok (.aload_n 0, 1) := by decide +kernel
theorem dX4_hasPlaces_18 : decode cX4_hasPlaces 18 = .ok (.getfield 19, 3) := by decide +kernel
theorem dX4_hasPlaces_21 : decode cX4_hasPlaces 21 = .ok (.iload_n 2, 1) := by decide +kernel
theorem dX4_hasPlaces_22 : decode cX4_hasPlaces 22 = .ok (.isub, 1) := by decide +kernel
theorem dX4_hasPlaces_23 : decode cX4_hasPlaces 23 = .ok (.if_icmp .gt 7, 3) := by decide +kernel
theorem dX4_hasPlaces_26 : decode cX4_hasPlaces 26 = .ok (.iconst 1, 1) := by decide +kernel
theorem dX4_hasPlaces_27 : decode cX4_hasPlaces 27 = .ok (.goto 4, 3) := by decide +kernel
theorem dX4_hasPlaces_30 : decode cX4_hasPlaces 30 = .ok (.iconst 0, 1) := by decide +kernel
theorem dX4_hasPlaces_31 : decode cX4_hasPlaces 31 = .ok (.ireturn, 1) := by decide +kernel
theorem dX4_isNumber_0 : decode cX4_isNumber 0 = .ok (.aload_n 0, 1) := by decide +kernel
theorem dX4_isNumber_1 : decode cX4_isNumber 1 = .ok (.getfield 15, 3) := by decide +kernel
theorem dX4_isNumber_4 : decode cX4_isNumber 4 = .ok (.iload_n 1, 1) := by decide +kernel
theorem dX4_isNumber_5 : decode cX4_isNumber 5 = .ok (.iaload, 1) := by decide +kernel
theorem dX4_isNumber_6 : decode cX4_isNumber 6 = .ok (.ldc 34, 2) := by decide +kernel
theorem dX4_isNumber_8 : decode cX4_isNumber 8 = .ok (.if_icmp .eq 7, 3) := by decide +kernel
theorem dX4_isNumber_11 : decode cX4_isNumber 11 = .ok (.iconst 1, 1) := by decide +kernel
theorem dX4_isNumber_12 : decode cX4_isNumber 12 = .ok (.goto 4, 3) := by decide +kernel
theorem dX4_isNumber_15 : decode cX4_isNumber 15 = .ok (.iconst 0, 1) := by decide +kernel
theorem dX4_isNumber_16 : decode cX4_isNumber 16 = .ok (.ireturn, 1) := by decide +kernel
theorem dX5_init_0 : decode cX5_init 0 = .ok (.aload_n 0, 1) := by decide +kernel
theorem dX5_init_1 : decode cX5_init 1 = .ok (.invokespecial 1, 3) := by decide +kernel
theorem dX5_init_4 : decode cX5_init 4 = .ok (.aload_n 0, 1) := by decide +kernel
theorem dX5_init_5 : decode cX5_init 5 = .ok (.iconst 0, 1) := by decide +kernel
theorem dX5_init_6 : decode cX5_init 6 = .ok (.putfield 9, 3) := by decide +kernel
theorem dX5_init_9 : decode cX5_init 9 = .ok (.aload_n 0, 1) := by decide +kernel
theorem dX5_init_10 : decode cX5_init 10 = .ok (.new 13, 3) := by decide +kernel
theorem dX5_init_13 : decode cX5_init 13 = .ok (.dup, 1) := by decide +kernel
theorem dX5_init_14 : decode cX5_init 14 = .ok (.invokespecial 15, 3) := by decide +kernel
theorem dX5_init_17 : decode cX5_init 17 = .ok (.putfield 16, 3) := by decide +kernel
theorem dX5_init_20 : decode cX5_init 20 = .ok (.aload_n 0, 1) := by decide +kernel
theorem dX5_init_21 : decode cX5_init 21 = .ok (.new 20, 3) := by decide +kernel
theorem dX5_init_24 : decode cX5_init 24 = .ok (.dup, 1) := by decide +kernel
theorem dX5_init_25 : decode cX5_init 25 = .ok (.invokespecial 22, 3) := by decide +kernel
theorem dX5_init_28 : decode cX5_init 28 = .ok (.putfield 23, 3) := by decide +kernel
theorem dX5_init_31 : decode cX5_init 31 = .ok (.return_, 1) := by decide +kernel
theorem dX6_init_0 : decode cX6_init 0 = .ok (.aload_n 0, 1) := by decide +kernel
theorem dX6_init_1 : decode cX6_init 1 = .ok (.invokespecial 1, 3) := by decide +kernel
theorem dX6_init_4 : decode cX6_init 4 = .ok (.aload_n 0, 1) := by decide +kernel
theorem dX6_init_5 : decode cX6_init 5 = .ok (.iload_n 1, 1) := by decide +kernel
theorem dX6_init_6 : decode cX6_init 6 = .ok (.putfield 7, 3) := by decide +kernel
theorem dX6_init_9 : decode cX6_init 9 = .ok (.aload_n 0, 1) := by decide +kernel
theorem dX6_init_10 : decode cX6_init 10 = .ok (.iload_n 2, 1) := by decide +kernel
theorem dX6_init_11 : decode cX6_init 11 = .ok (.putfield 13, 3) := by decide +kernel
theorem dX6_init_14 : decode cX6_init 14 = .ok (.aload_n 0, 1) := by decide +kernel
theorem dX6_init_15 : decode cX6_init 15 = .ok (.iload_n 3, 1) := by decide +kernel
theorem dX6_init_16 : decode cX6_init 16 = .ok (.putfield 16, 3) := by decide +kernel
theorem dX6_init_19 : decode cX6_init 19 = .ok (.aload_n 0, 1) := by decide +kernel
theorem dX6_init_20 : decode cX6_init 20 = .ok (.aload 4, 2) := by decide +kernel
theorem dX6_init_22 : decode cX6_init 22 = .ok (.putfield 19, 3) := by decide +kernel
theorem dX6_init_25 : decode cX6_init 25 = .ok (.aload_n 0, 1) := by decide +kernel
theorem dX6_init_26 : decode cX6_init 26 = .ok (.iload_n 3, 1) := by decide +kernel
theorem dX6_init_27 : decode cX6_init 27 = .ok (.newarray .int, 2) := by decide +kernel
theorem dX6_init_29 : decode cX6_init 29 = .ok (.putfield 23, 3) := by decide +kernel
theorem dX6_init_32 : decode cX6_init 32 = .ok (.return_, 1) := by decide +kernel
theorem dX6_value_0 : decode cX6_value 0 = .ok (.iconst (-1), 1) := by decide +kernel
theorem dX6_value_1 : decode cX6_value 1 = .ok (.istore 4, 2) := by decide +kernel
theorem dX6_value_3 : decode cX6_value 3 = .ok (.iconst 0, 1) := by decide +kernel
theorem dX6_value_4 : decode cX6_value 4 = .ok (.istore 5, 2) := by decide +kernel
theorem dX6_value_6 : decode cX6_value 6 = .ok (.iload 5, 2) := by decide +kernel
theorem dX6_value_8 : decode cX6_value 8 = .ok (.aload_n 0, 1) := by decide +kernel
theorem dX6_value_9 : decode cX6_value 9 = .ok (.getfield 19, 3) := by decide +kernel
theorem dX6_value_12 : decode cX6_value 12 = .ok (.arraylength, 1) := by decide +kernel
theorem dX6_value_13 : decode cX6_value 13 = .ok (.if_icmp .ge 161, 3) := by decide +kernel
theorem dX6_value_16 : decode cX6_value 16 = .ok (.aload_n 0, 1) := by decide +kernel
theorem dX6_value_17 : decode cX6_value 17 = .ok (.getfield 19, 3) := by decide +kernel
theorem dX6_value_20 : decode cX6_value 20 = .ok (.iload 5, 2) := by decide +kernel
theorem dX6_value_22 : decode cX6_value 22 = .ok (.iaload, 1) := by decide +kernel
theorem dX6_value_23 : decode cX6_value 23 = .ok (.istore 6, 2) := by decide +kernel
theorem dX6_value_25 : decode cX6_value 25 = .ok (.iload 6, 2) := by decide +kernel
theorem dX6_value_27 : decode cX6_value 27 = .ok (.ifCond .lt 66, 3) := by decide +kernel
theorem dX6_value_30 : decode cX6_value 30 = .ok (.iinc 4 1, 3) := by decide +kernel
theorem dX6_value_33 : decode cX6_value 33 = .ok (.iload 4, 2) := by decide +kernel
theorem dX6_value_35 : decode cX6_value 35 = .ok (.aload_n 0, 1) := by decide +kernel
theorem dX6_value_36 : decode cX6_value 36 = .ok (.getfield 23, 3) := by decide +kernel
theorem dX6_value_39 : decode cX6_value 39 = .ok (.arraylength, 1) := by decide +kernel
theorem dX6_value_40 : decode cX6_value 40 = .ok (.if_icmp .lt 5, 3) := by decide +kernel
theorem dX6_value_43 : decode cX6_value 43 = .ok (.iconst 0, 1) := by decide +kernel
theorem dX6_value_44 : decode cX6_value 44 = .ok (.ireturn, 1) := by decide +kernel
theorem dX6_value_45 : decode cX6_value 45 = .ok (.iload 6, 2) := by decide +kernel
theorem dX6_value_47 : decode cX6_value 47 = .ok (.sipush 10000, 3) := by decide +kernel
theorem dX6_value_50 : decode cX6_value 50 = .ok (.isub, 1) := by decide +kernel
theorem dX6_value_51 : decode cX6_value 51 = .ok (.istore 7, 2) := by decide +kernel
theorem dX6_value_53 : decode cX6_value 53 = .ok (.aload_n 0, 1) := by decide +kernel
theorem dX6_value_54 : decode cX6_value 54 = .ok (.getfield 23, 3) := by decide +kernel
theorem dX6_value_57 : decode cX6_value 57 = .ok (.iload 4, 2) := by decide +kernel
theorem dX6_value_59 : decode cX6_value 59 = .ok (.iload 7, 2) := by decide +kernel
theorem dX6_value_61 : decode cX6_value 61 = .ok (.ifCond .ge 8, 3) := by decide +kernel
theorem dX6_value_64 : decode cX6_value 64 = .ok (.iload 6, 2) := by decide +kernel
theorem dX6_value_66 : decode cX6_value 66 = .ok (.goto 23, 3) := by decide +kernel
theorem dX6_value_69 : decode cX6_value 69 = .ok (.iload 7, 2) := by decide +kernel
theorem dX6_value_71 : decode cX6_value 71 = .ok (.ifCond .ne 7, 3) := by decide +kernel
theorem dX6_value_74 : decode cX6_value 74 = .ok (.iload_n 1, 1) := by decide +kernel
theorem dX6_value_75 : decode cX6_value 75 = .ok (.goto 14, 3) := by decide +kernel
theorem dX6_value_78 : decode cX6_value 78 = .ok (.iload 7, 2) := by decide +kernel
theorem dX6_value_80 : decode cX6_value 80 = .ok (.iconst 1, 1) := by decide +kernel
theorem dX6_value_81 : decode cX6_value 81 = .ok (.if_icmp .ne 7, 3) := by decide +kernel
theorem dX6_value_84 : decode cX6_value 84 = .ok (.iload_n 2, 1) := by decide +kernel
theorem dX6_value_85 : decode cX6_value 85 = .ok (.goto 4, 3) := by decide +kernel
theorem dX6_value_88 : decode cX6_value 88 = .ok (.iload_n 3, 1) := by decide +kernel
theorem dX6_value_89 : decode cX6_value 89 = .ok (.iastore, 1) := by decide +kernel
theorem dX6_value_90 : decode cX6_value 90 = .ok (.goto 78, 3) := by decide +kernel
theorem dX6_value_93 : decode cX6_value 93 = .ok (.iload 6, 2) := by decide +kernel
theorem dX6_value_95 : decode cX6_value 95 = .ok (.bipush (-33), 2) := by decide +kernel
theorem dX6_value_97 : decode cX6_value 97 = .ok (.if_icmp .ne 33, 3) := by decide +kernel
theorem dX6_value_100 : decode cX6_value 100 = .ok (.iload 4, 2) := by decide +kernel
theorem dX6_value_102 : decode cX6_value 102 = .ok (.ifCond .lt 28, 3) := by decide +kernel
theorem dX6_value_105 : decode cX6_value 105 = .ok (.aload_n 0, 1) := by decide +kernel
theorem dX6_value_106 : decode cX6_value 106 = .ok (.getfield 23, 3) := by decide +kernel
theorem dX6_value_109 : decode cX6_value 109 = .ok (.iload 4, 2) := by decide +kernel
theorem dX6_value_111 : decode cX6_value 111 = .ok (.aload_n 0, 1) := by decide +kernel
theorem dX6_value_112 : decode cX6_value 112 = .ok (.getfield 23, 3) := by decide +kernel
theorem dX6_value_115 : decode cX6_value 115 = .ok (.iload 4, 2) := by decide +kernel
theorem dX6_value_117 : decode cX6_value 117 = .ok (.iaload, 1) := by decide +kernel
theorem dX6_value_118 : decode cX6_value 118 = .ok (.ifCond .ne 7, 3) := by decide +kernel
theorem dX6_value_121 : decode cX6_value 121 = .ok (.iconst 1, 1) := by decide +kernel
theorem dX6_value_122 : decode cX6_value 122 = .ok (.goto 4, 3) := by decide +kernel
theorem dX6_value_125 : decode cX6_value 125 = .ok (.iconst 0, 1) := by decide +kernel
theorem dX6_value_126 : decode cX6_value 126 = .ok (.iastore, 1) := by decide +kernel
theorem dX6_value_127 : decode cX6_value 127 = .ok (.goto 41, 3) := by decide +kernel
theorem dX6_value_130 : decode cX6_value 130 = .ok (.iload 4, 2) := by decide +kernel
theorem dX6_value_132 : decode cX6_value 132 = .ok (.iconst 1, 1) := by decide +kernel
theorem dX6_value_133 : decode cX6_value 133 = .ok (.if_icmp .lt 35, 3) := by decide +kernel
theorem dX6_value_136 : decode cX6_value 136 = .ok (.iinc 4 (-1), 3) := by decide +kernel
theorem dX6_value_139 : decode cX6_value 139 = .ok (.aload_n 0, 1) := by decide +kernel
theorem dX6_value_140 : decode cX6_value 140 = .ok (.getfield 23, 3) := by decide +kernel
theorem dX6_value_143 : decode cX6_value 143 = .ok (.iload 4, 2) := by decide +kernel
theorem dX6_value_145 : decode cX6_value 145 = .ok (.iload 6, 2) := by decide +kernel
theorem dX6_value_147 : decode cX6_value 147 = .ok (.ineg, 1) := by decide +kernel
theorem dX6_value_148 : decode cX6_value 148 = .ok (.aload_n 0, 1) := by decide +kernel
theorem dX6_value_149 : decode cX6_value 149 = .ok (.getfield 23, 3) := by decide +kernel
theorem dX6_value_152 : decode cX6_value 152 = .ok (.iload 4, 2) := by decide +kernel
theorem dX6_value_154 : decode cX6_value 154 = .ok (.iaload, 1) := by decide +kernel
theorem dX6_value_155 : decode cX6_value 155 = .ok (.aload_n 0, 1) := by decide +kernel
theorem dX6_value_156 : decode cX6_value 156 = .ok (.getfield 23, 3) := by decide +kernel
theorem dX6_value_159 : decode cX6_value 159 = .ok (.iload 4, 2) := by decide +kernel
theorem dX6_value_161 : decode cX6_value 161 = .ok (.iconst 1, 1) := by decide +kernel
theorem dX6_value_162 : decode cX6_value 162 = .ok (.iadd, 1) := by decide +kernel
theorem dX6_value_163 : decode cX6_value 163 = .ok (.iaload, 1) := by decide +kernel
theorem dX6_value_164 : decode cX6_value 164 = .ok (.invokestatic 26, 3) := by decide +kernel
theorem dX6_value_167 : decode cX6_value 167 = .ok (.iastore, 1) := by decide +kernel
theorem dX6_value_168 : decode cX6_value 168 = .ok (.iinc 5 1, 3) := by decide +kernel
theorem dX6_value_171 : decode cX6_value 171 = .ok (.goto (-165), 3) := by decide +kernel
theorem dX6_value_174 : decode cX6_value 174 = .ok (.iload 4, 2) := by decide +kernel
theorem dX6_value_176 : decode cX6_value 176 = .ok (.ifCond .lt 13, 3) := by decide +kernel
theorem dX6_value_179 : decode cX6_value 179 = .ok (.aload_n 0, 1) := by decide +kernel
theorem dX6_value_180 : decode cX6_value 180 = .ok (.getfield 23, 3) := by decide +kernel
theorem dX6_value_183 : decode cX6_value 183 = .ok (.iload 4, 2) := by decide +kernel
theorem dX6_value_185 : decode cX6_value 185 = .ok (.iaload, 1) := by decide +kernel
theorem dX6_value_186 : decode cX6_value 186 = .ok (.goto 4, 3) := by decide +kernel
theorem dX6_value_189 : decode cX6_value 189 = .ok (.iconst 0, 1) := by decide +kernel
theorem dX6_value_190 : decode cX6_value 190 = .ok (.ireturn, 1) := by decide +kernel
theorem dX6_join_0 : decode cX6_join 0 = .ok (.iload_n 0, 1) := by decide +kernel
theorem dX6_join_1 : decode cX6_join 1 = .ok (.lookupswitch 148 #[(38, 89), (42, 144), (43, 136), (45, 140), (60, 103), (61, 114), (62, 125), (124, 75)], 75) := by decide +kernel
theorem dX6_join_76 : decode cX6_join 76 = .ok (.iload_n 1, 1) := by decide +kernel
theorem dX6_join_77 : decode cX6_join 77 = .ok (.ifCond .ne 7, 3) := by decide +kernel
theorem dX6_join_80 : decode cX6_join 80 = .ok (.iload_n 2, 1) := by decide +kernel
theorem dX6_join_81 : decode cX6_join 81 = .ok (.ifCond .eq 7, 3) := by decide +kernel
theorem dX6_join_84 : decode cX6_join 84 = .ok (.iconst 1, 1) := by decide +kernel
theorem dX6_join_85 : decode cX6_join 85 = .ok (.goto 4, 3) := by decide +kernel
theorem dX6_join_88 : decode cX6_join 88 = .ok (.iconst 0, 1) := by decide +kernel
theorem dX6_join_89 : decode cX6_join 89 = .ok (.ireturn, 1) := by decide +kernel
theorem dX6_join_90 : decode cX6_join 90 = .ok (.iload_n 1, 1) := by decide +kernel
theorem dX6_join_91 : decode cX6_join 91 = .ok (.ifCond .eq 11, 3) := by decide +kernel
theorem dX6_join_94 : decode cX6_join 94 = .ok (.iload_n 2, 1) := by decide +kernel
theorem dX6_join_95 : decode cX6_join 95 = .ok (.ifCond .eq 7, 3) := by decide +kernel
theorem dX6_join_98 : decode cX6_join 98 = .ok (.iconst 1, 1) := by decide +kernel
theorem dX6_join_99 : decode cX6_join 99 = .ok (.goto 4, 3) := by decide +kernel
theorem dX6_join_102 : decode cX6_join 102 = .ok (.iconst 0, 1) := by decide +kernel
theorem dX6_join_103 : decode cX6_join 103 = .ok (.ireturn, 1) := by decide +kernel
theorem dX6_join_104 : decode cX6_join 104 = .ok (.iload_n 1, 1) := by decide +kernel
theorem dX6_join_105 : decode cX6_join 105 = .ok (.iload_n 2, 1) := by decide +kernel
theorem dX6_join_106 : decode cX6_join 106 = .ok (.if_icmp .ge 7, 3) := by decide +kernel
theorem dX6_join_109 : decode cX6_join 109 = .ok (.iconst 1, 1) := by decide +kernel
theorem dX6_join_110 : decode cX6_join 110 = .ok (.goto 4, 3) := by decide +kernel
theorem dX6_join_113 : decode cX6_join 113 = .ok (.iconst 0, 1) := by decide +kernel
theorem dX6_join_114 : decode cX6_join 114 = .ok (.ireturn, 1) := by decide +kernel
theorem dX6_join_115 : decode cX6_join 115 = .ok (.iload_n 1, 1) := by decide +kernel
theorem dX6_join_116 : decode cX6_join 116 = .ok (.iload_n 2, 1) := by decide +kernel
theorem dX6_join_117 : decode cX6_join 117 = .ok (.if_icmp .ne 7, 3) := by decide +kernel
theorem dX6_join_120 : decode cX6_join 120 = .ok (.iconst 1, 1) := by decide +kernel
theorem dX6_join_121 : decode cX6_join 121 = .ok (.goto 4, 3) := by decide +kernel
theorem dX6_join_124 : decode cX6_join 124 = .ok (.iconst 0, 1) := by decide +kernel
theorem dX6_join_125 : decode cX6_join 125 = .ok (.ireturn, 1) := by decide +kernel
theorem dX6_join_126 : decode cX6_join 126 = .ok (.iload_n 1, 1) := by decide +kernel
theorem dX6_join_127 : decode cX6_join 127 = .ok (.iload_n 2, 1) := by decide +kernel
theorem dX6_join_128 : decode cX6_join 128 = .ok (.if_icmp .le 7, 3) := by decide +kernel
theorem dX6_join_131 : decode cX6_join 131 = .ok (.iconst 1, 1) := by decide +kernel
theorem dX6_join_132 : decode cX6_join 132 = .ok (.goto 4, 3) := by decide +kernel
theorem dX6_join_135 : decode cX6_join 135 = .ok (.iconst 0, 1) := by decide +kernel
theorem dX6_join_136 : decode cX6_join 136 = .ok (.ireturn, 1) := by decide +kernel
theorem dX6_join_137 : decode cX6_join 137 = .ok (.iload_n 1, 1) := by decide +kernel
theorem dX6_join_138 : decode cX6_join 138 = .ok (.iload_n 2, 1) := by decide +kernel
theorem dX6_join_139 : decode cX6_join 139 = .ok (.iadd, 1) := by decide +kernel
theorem dX6_join_140 : decode cX6_join 140 = .ok (.ireturn, 1) := by decide +kernel
theorem dX6_join_141 : decode cX6_join 141 = .ok (.iload_n 1, 1) := by decide +kernel
theorem dX6_join_142 : decode cX6_join 142 = .ok (.iload_n 2, 1) := by decide +kernel
theorem dX6_join_143 : decode cX6_join 143 = .ok (.isub, 1) := by decide +kernel
theorem dX6_join_144 : decode cX6_join 144 = .ok (.ireturn, 1) := by decide +kernel
theorem dX6_join_145 : decode cX6_join 145 = .ok (.iload_n 1, 1) := by decide +kernel
theorem dX6_join_146 : decode cX6_join 146 = .ok (.iload_n 2, 1) := by decide +kernel
theorem dX6_join_147 : decode cX6_join 147 = .ok (.imul, 1) := by decide +kernel
theorem dX6_join_148 : decode cX6_join 148 = .ok (.ireturn, 1) := by decide +kernel
theorem dX6_join_149 : decode cX6_join 149 = .ok (.iload_n 2, 1) := by decide +kernel
theorem dX6_join_150 : decode cX6_join 150 = .ok (.ifCond .ne 7, 3) := by decide +kernel
theorem dX6_join_153 : decode cX6_join 153 = .ok (.iconst 0, 1) := by decide +kernel
theorem dX6_join_154 : decode cX6_join 154 = .ok (.goto 6, 3) := by decide +kernel
theorem dX6_join_157 : decode cX6_join 157 = .ok (.iload_n 1, 1) := by decide +kernel
theorem dX6_join_158 : decode cX6_join 158 = .ok (.iload_n 2, 1) := by decide +kernel
theorem dX6_join_159 : decode cX6_join 159 = .ok (.idiv, 1) := by decide +kernel
theorem dX6_join_160 : decode cX6_join 160 = .ok (.ireturn, 1) := by decide +kernel
theorem dX7_init_0 : decode cX7_init 0 = .ok (.aload_n 0, 1) := by decide +kernel
theorem dX7_init_1 : decode cX7_init 1 = .ok (.invokespecial 3, 3) := by decide +kernel
theorem dX7_init_4 : decode cX7_init 4 = .ok (.aload_n 0, 1) := by decide +kernel
theorem dX7_init_5 : decode cX7_init 5 = .ok (.bipush 8, 2) := by decide +kernel
theorem dX7_init_7 : decode cX7_init 7 = .ok (.anewarray 9, 3) := by decide +kernel
theorem dX7_init_10 : decode cX7_init 10 = .ok (.putfield 11, 3) := by decide +kernel
theorem dX7_init_13 : decode cX7_init 13 = .ok (.aload_n 0, 1) := by decide +kernel
theorem dX7_init_14 : decode cX7_init 14 = .ok (.bipush 10, 2) := by decide +kernel
theorem dX7_init_16 : decode cX7_init 16 = .ok (.anewarray 17, 3) := by decide +kernel
theorem dX7_init_19 : decode cX7_init 19 = .ok (.putfield 19, 3) := by decide +kernel
theorem dX7_init_22 : decode cX7_init 22 = .ok (.aload_n 0, 1) := by decide +kernel
theorem dX7_init_23 : decode cX7_init 23 = .ok (.bipush 14, 2) := by decide +kernel
theorem dX7_init_25 : decode cX7_init 25 = .ok (.anewarray 23, 3) := by decide +kernel
theorem dX7_init_28 : decode cX7_init 28 = .ok (.putfield 25, 3) := by decide +kernel
theorem dX7_init_31 : decode cX7_init 31 = .ok (.aload_n 0, 1) := by decide +kernel
theorem dX7_init_32 : decode cX7_init 32 = .ok (.iconst 3, 1) := by decide +kernel
theorem dX7_init_33 : decode cX7_init 33 = .ok (.anewarray 23, 3) := by decide +kernel
theorem dX7_init_36 : decode cX7_init 36 = .ok (.putfield 29, 3) := by decide +kernel
theorem dX7_init_39 : decode cX7_init 39 = .ok (.aload_n 0, 1) := by decide +kernel
theorem dX7_init_40 : decode cX7_init 40 = .ok (.bipush 30, 2) := by decide +kernel
theorem dX7_init_42 : decode cX7_init 42 = .ok (.putfield 32, 3) := by decide +kernel
theorem dX7_init_45 : decode cX7_init 45 = .ok (.aload_n 0, 1) := by decide +kernel
theorem dX7_init_46 : decode cX7_init 46 = .ok (.bipush 10, 2) := by decide +kernel
theorem dX7_init_48 : decode cX7_init 48 = .ok (.putfield 36, 3) := by decide +kernel
theorem dX7_init_51 : decode cX7_init 51 = .ok (.aload_n 0, 1) := by decide +kernel
theorem dX7_init_52 : decode cX7_init 52 = .ok (.iconst 1, 1) := by decide +kernel
theorem dX7_init_53 : decode cX7_init 53 = .ok (.putfield 39, 3) := by decide +kernel
theorem dX7_init_56 : decode cX7_init 56 = .ok (.iconst 0, 1) := by decide +kernel
theorem dX7_init_57 : decode cX7_init 57 = .ok (.istore_n 1, 1) := by decide +kernel
theorem dX7_init_58 : decode cX7_init 58 = .ok (.iload_n 1, 1) := by decide +kernel
theorem dX7_init_59 : decode cX7_init 59 = .ok (.bipush 8, 2) := by decide +kernel
theorem dX7_init_61 : decode cX7_init 61 = .ok (.if_icmp .ge 22, 3) := by decide +kernel
theorem dX7_init_64 : decode cX7_init 64 = .ok (.aload_n 0, 1) := by decide +kernel
theorem dX7_init_65 : decode cX7_init 65 = .ok (.getfield 11, 3) := by decide +kernel
theorem dX7_init_68 : decode cX7_init 68 = .ok (.iload_n 1, 1) := by decide +kernel
theorem dX7_init_69 : decode cX7_init 69 = .ok (.new 9, 3) := by decide +kernel
theorem dX7_init_72 : decode cX7_init 72 = .ok (.dup, 1) := by decide +kernel
theorem dX7_init_73 : decode cX7_init 73 = .ok (.invokespecial 42, 3) := by decide +kernel
theorem dX7_init_76 : decode cX7_init 76 = .ok (.aastore, 1) := by decide +kernel
theorem dX7_init_77 : decode cX7_init 77 = .ok (.iinc 1 1, 3) := by decide +kernel
theorem dX7_init_80 : decode cX7_init 80 = .ok (.goto (-22), 3) := by decide +kernel
theorem dX7_init_83 : decode cX7_init 83 = .ok (.iconst 0, 1) := by decide +kernel
theorem dX7_init_84 : decode cX7_init 84 = .ok (.istore_n 1, 1) := by decide +kernel
theorem dX7_init_85 : decode cX7_init 85 = .ok (.iload_n 1, 1) := by decide +kernel
theorem dX7_init_86 : decode cX7_init 86 = .ok (.bipush 10, 2) := by decide +kernel
theorem dX7_init_88 : decode cX7_init 88 = .ok (.if_icmp .ge 22, 3) := by decide +kernel
theorem dX7_init_91 : decode cX7_init 91 = .ok (.aload_n 0, 1) := by decide +kernel
theorem dX7_init_92 : decode cX7_init 92 = .ok (.getfield 19, 3) := by decide +kernel
theorem dX7_init_95 : decode cX7_init 95 = .ok (.iload_n 1, 1) := by decide +kernel
theorem dX7_init_96 : decode cX7_init 96 = .ok (.new 17, 3) := by decide +kernel
theorem dX7_init_99 : decode cX7_init 99 = .ok (.dup, 1) := by decide +kernel
theorem dX7_init_100 : decode cX7_init 100 = .ok (.invokespecial 43, 3) := by decide +kernel
theorem dX7_init_103 : decode cX7_init 103 = .ok (.aastore, 1) := by decide +kernel
theorem dX7_init_104 : decode cX7_init 104 = .ok (.iinc 1 1, 3) := by decide +kernel
theorem dX7_init_107 : decode cX7_init 107 = .ok (.goto (-22), 3) := by decide +kernel
theorem dX7_init_110 : decode cX7_init 110 = .ok (.return_, 1) := by decide +kernel
theorem dX7_becomeAs_0 : decode cX7_becomeAs 0 = .ok (.aload_n 0, 1) := by decide +kernel
theorem dX7_becomeAs_1 : decode cX7_becomeAs 1 = .ok (.aload_n 1, 1) := by decide +kernel
theorem dX7_becomeAs_2 : decode cX7_becomeAs 2 = .ok (.getfield 44, 3) := by decide +kernel
theorem dX7_becomeAs_5 : decode cX7_becomeAs 5 = .ok (.putfield 44, 3) := by decide +kernel
theorem dX7_becomeAs_8 : decode cX7_becomeAs 8 = .ok (.iconst 0, 1) := by decide +kernel
theorem dX7_becomeAs_9 : decode cX7_becomeAs 9 = .ok (.istore_n 2, 1) := by decide +kernel
theorem dX7_becomeAs_10 : decode cX7_becomeAs 10 = .ok (.iload_n 2, 1) := by decide +kernel
theorem dX7_becomeAs_11 : decode cX7_becomeAs 11 = .ok (.aload_n 0, 1) := by decide +kernel
theorem dX7_becomeAs_12 : decode cX7_becomeAs 12 = .ok (.getfield 44, 3) := by decide +kernel
theorem dX7_becomeAs_15 : decode cX7_becomeAs 15 = .ok (.if_icmp .ge 24, 3) := by decide +kernel
theorem dX7_becomeAs_18 : decode cX7_becomeAs 18 = .ok (.aload_n 0, 1) := by decide +kernel
theorem dX7_becomeAs_19 : decode cX7_becomeAs 19 = .ok (.getfield 11, 3) := by decide +kernel
theorem dX7_becomeAs_22 : decode cX7_becomeAs 22 = .ok (.iload_n 2, 1) := by decide +kernel
theorem dX7_becomeAs_23 : decode cX7_becomeAs 23 = .ok (.aaload, 1) := by decide +kernel
theorem dX7_becomeAs_24 : decode cX7_becomeAs 24 = .ok (.aload_n 1, 1) := by decide +kernel
theorem dX7_becomeAs_25 : decode cX7_becomeAs 25 = .ok (.getfield 11, 3) := by decide +kernel
theorem dX7_becomeAs_28 : decode cX7_becomeAs 28 = .ok (.iload_n 2, 1) := by decide +kernel
theorem dX7_becomeAs_29 : decode cX7_becomeAs 29 = .ok (.aaload, 1) := by decide +kernel
theorem dX7_becomeAs_30 : decode cX7_becomeAs 30 = .ok (.invokevirtual 47, 3) := by decide +kernel
theorem dX7_becomeAs_33 : decode cX7_becomeAs 33 = .ok (.iinc 2 1, 3) := by decide +kernel
theorem dX7_becomeAs_36 : decode cX7_becomeAs 36 = .ok (.goto (-26), 3) := by decide +kernel
theorem dX7_becomeAs_39 : decode cX7_becomeAs 39 = .ok (.aload_n 0, 1) := by decide +kernel
theorem dX7_becomeAs_40 : decode cX7_becomeAs 40 = .ok (.aload_n 1, 1) := by decide +kernel
theorem dX7_becomeAs_41 : decode cX7_becomeAs 41 = .ok (.getfield 51, 3) := by decide +kernel
theorem dX7_becomeAs_44 : decode cX7_becomeAs 44 = .ok (.putfield 51, 3) := by decide +kernel
theorem dX7_becomeAs_47 : decode cX7_becomeAs 47 = .ok (.iconst 0, 1) := by decide +kernel
theorem dX7_becomeAs_48 : decode cX7_becomeAs 48 = .ok (.istore_n 2, 1) := by decide +kernel
theorem dX7_becomeAs_49 : decode cX7_becomeAs 49 = .ok (.iload_n 2, 1) := by decide +kernel
theorem dX7_becomeAs_50 : decode cX7_becomeAs 50 = .ok (.aload_n 0, 1) := by decide +kernel
theorem dX7_becomeAs_51 : decode cX7_becomeAs 51 = .ok (.getfield 51, 3) := by decide +kernel
theorem dX7_becomeAs_54 : decode cX7_becomeAs 54 = .ok (.if_icmp .ge 24, 3) := by decide +kernel
theorem dX7_becomeAs_57 : decode cX7_becomeAs 57 = .ok (.aload_n 0, 1) := by decide +kernel
theorem dX7_becomeAs_58 : decode cX7_becomeAs 58 = .ok (.getfield 19, 3) := by decide +kernel
theorem dX7_becomeAs_61 : decode cX7_becomeAs 61 = .ok (.iload_n 2, 1) := by decide +kernel
theorem dX7_becomeAs_62 : decode cX7_becomeAs 62 = .ok (.aaload, 1) := by decide +kernel
theorem dX7_becomeAs_63 : decode cX7_becomeAs 63 = .ok (.aload_n 1, 1) := by decide +kernel
theorem dX7_becomeAs_64 : decode cX7_becomeAs 64 = .ok (.getfield 19, 3) := by decide +kernel
theorem dX7_becomeAs_67 : decode cX7_becomeAs 67 = .ok (.iload_n 2, 1) := by decide +kernel
theorem dX7_becomeAs_68 : decode cX7_becomeAs 68 = .ok (.aaload, 1) := by decide +kernel
theorem dX7_becomeAs_69 : decode cX7_becomeAs 69 = .ok (.invokevirtual 54, 3) := by decide +kernel
theorem dX7_becomeAs_72 : decode cX7_becomeAs 72 = .ok (.iinc 2 1, 3) := by decide +kernel
theorem dX7_becomeAs_75 : decode cX7_becomeAs 75 = .ok (.goto (-26), 3) := by decide +kernel
theorem dX7_becomeAs_78 : decode cX7_becomeAs 78 = .ok (.aload_n 0, 1) := by decide +kernel
theorem dX7_becomeAs_79 : decode cX7_becomeAs 79 = .ok (.aload_n 1, 1) := by decide +kernel
theorem dX7_becomeAs_80 : decode cX7_becomeAs 80 = .ok (.getfield 57, 3) := by decide +kernel
theorem dX7_becomeAs_83 : decode cX7_becomeAs 83 = .ok (.putfield 57, 3) := by decide +kernel
theorem dX7_becomeAs_86 : decode cX7_becomeAs 86 = .ok (.iconst 0, 1) := by decide +kernel
theorem dX7_becomeAs_87 : decode cX7_becomeAs 87 = .ok (.istore_n 2, 1) := by decide +kernel
theorem dX7_becomeAs_88 : decode cX7_becomeAs 88 = .ok (.iload_n 2, 1) := by decide +kernel
theorem dX7_becomeAs_89 : decode cX7_becomeAs 89 = .ok (.bipush 14, 2) := by decide +kernel
theorem dX7_becomeAs_91 : decode cX7_becomeAs 91 = .ok (.if_icmp .ge 21, 3) := by decide +kernel
theorem dX7_becomeAs_94 : decode cX7_becomeAs 94 = .ok (.aload_n 0, 1) := by decide +kernel
theorem dX7_becomeAs_95 : decode cX7_becomeAs 95 = .ok (.getfield 25, 3) := by decide +kernel
theorem dX7_becomeAs_98 : decode cX7_becomeAs 98 = .ok (.iload_n 2, 1) := by decide +kernel
theorem dX7_becomeAs_99 : decode cX7_becomeAs 99 = .ok (.aload_n 1, 1) := by decide +kernel
theorem dX7_becomeAs_100 : decode cX7_becomeAs 100 = .ok (.getfield 25, 3) := by decide +kernel
theorem dX7_becomeAs_103 : decode cX7_becomeAs 103 = .ok (.iload_n 2, 1) := by decide +kernel
theorem dX7_becomeAs_104 : decode cX7_becomeAs 104 = .ok (.aaload, 1) := by decide +kernel
theorem dX7_becomeAs_105 : decode cX7_becomeAs 105 = .ok (.aastore, 1) := by decide +kernel
theorem dX7_becomeAs_106 : decode cX7_becomeAs 106 = .ok (.iinc 2 1, 3) := by decide +kernel
theorem dX7_becomeAs_109 : decode cX7_becomeAs 109 = .ok (.goto (-21), 3) := by decide +kernel
theorem dX7_becomeAs_112 : decode cX7_becomeAs 112 = .ok (.iconst 0, 1) := by decide +kernel
theorem dX7_becomeAs_113 : decode cX7_becomeAs 113 = .ok (.istore_n 2, 1) := by decide +kernel
theorem dX7_becomeAs_114 : decode cX7_becomeAs 114 = .ok (.iload_n 2, 1) := by decide +kernel
theorem dX7_becomeAs_115 : decode cX7_becomeAs 115 = .ok (.iconst 3, 1) := by decide +kernel
theorem dX7_becomeAs_116 : decode cX7_becomeAs 116 = .ok (.if_icmp .ge 21, 3) := by decide +kernel
theorem dX7_becomeAs_119 : decode cX7_becomeAs 119 = .ok (.aload_n 0, 1) := by decide +kernel
theorem dX7_becomeAs_120 : decode cX7_becomeAs 120 = .ok (.getfield 29, 3) := by decide +kernel
theorem dX7_becomeAs_123 : decode cX7_becomeAs 123 = .ok (.iload_n 2, 1) := by decide +kernel
theorem dX7_becomeAs_124 : decode cX7_becomeAs 124 = .ok (.aload_n 1, 1) := by decide +kernel
theorem dX7_becomeAs_125 : decode cX7_becomeAs 125 = .ok (.getfield 29, 3) := by decide +kernel
theorem dX7_becomeAs_128 : decode cX7_becomeAs 128 = .ok (.iload_n 2, 1) := by decide +kernel
theorem dX7_becomeAs_129 : decode cX7_becomeAs 129 = .ok (.aaload, 1) := by decide +kernel
theorem dX7_becomeAs_130 : decode cX7_becomeAs 130 = .ok (.aastore, 1) := by decide +kernel
theorem dX7_becomeAs_131 : decode cX7_becomeAs 131 = .ok (.iinc 2 1, 3) := by decide +kernel
theorem dX7_becomeAs_134 : decode cX7_becomeAs 134 = .ok (.goto (-20), 3) := by decide +kernel
theorem dX7_becomeAs_137 : decode cX7_becomeAs 137 = .ok (.aload_n 0, 1) := by decide +kernel
theorem dX7_becomeAs_138 : decode cX7_becomeAs 138 = .ok (.aload_n 1, 1) := by decide +kernel
theorem dX7_becomeAs_139 : decode cX7_becomeAs 139 = .ok (.getfield 32, 3) := by decide +kernel
theorem dX7_becomeAs_142 : decode cX7_becomeAs 142 = .ok (.putfield 32, 3) := by decide +kernel
theorem dX7_becomeAs_145 : decode cX7_becomeAs 145 = .ok (.aload_n 0, 1) := by decide +kernel
theorem dX7_becomeAs_146 : decode cX7_becomeAs 146 = .ok (.aload_n 1, 1) := by decide +kernel
theorem dX7_becomeAs_147 : decode cX7_becomeAs 147 = .ok (.getfield 36, 3) := by decide +kernel
theorem dX7_becomeAs_150 : decode cX7_becomeAs 150 = .ok (.putfield 36, 3) := by decide +kernel
theorem dX7_becomeAs_153 : decode cX7_becomeAs 153 = .ok (.aload_n 0, 1) := by decide +kernel
theorem dX7_becomeAs_154 : decode cX7_becomeAs 154 = .ok (.aload_n 1, 1) := by decide +kernel
theorem dX7_becomeAs_155 : decode cX7_becomeAs 155 = .ok (.getfield 60, 3) := by decide +kernel
theorem dX7_becomeAs_158 : decode cX7_becomeAs 158 = .ok (.putfield 60, 3) := by decide +kernel
theorem dX7_becomeAs_161 : decode cX7_becomeAs 161 = .ok (.aload_n 0, 1) := by decide +kernel
theorem dX7_becomeAs_162 : decode cX7_becomeAs 162 = .ok (.aload_n 1, 1) := by decide +kernel
theorem dX7_becomeAs_163 : decode cX7_becomeAs 163 = .ok (.getfield 63, 3) := by decide +kernel
theorem dX7_becomeAs_166 : decode cX7_becomeAs 166 = .ok (.putfield 63, 3) := by decide +kernel
theorem dX7_becomeAs_169 : decode cX7_becomeAs 169 = .ok (.aload_n 0, 1) := by decide +kernel
theorem dX7_becomeAs_170 : decode cX7_becomeAs 170 = .ok (.aload_n 1, 1) := by decide +kernel
theorem dX7_becomeAs_171 : decode cX7_becomeAs 171 = .ok (.getfield 66, 3) := by decide +kernel
theorem dX7_becomeAs_174 : decode cX7_becomeAs 174 = .ok (.putfield 66, 3) := by decide +kernel
theorem dX7_becomeAs_177 : decode cX7_becomeAs 177 = .ok (.aload_n 0, 1) := by decide +kernel
theorem dX7_becomeAs_178 : decode cX7_becomeAs 178 = .ok (.aload_n 1, 1) := by decide +kernel
theorem dX7_becomeAs_179 : decode cX7_becomeAs 179 = .ok (.getfield 69, 3) := by decide +kernel
theorem dX7_becomeAs_182 : decode cX7_becomeAs 182 = .ok (.putfield 69, 3) := by decide +kernel
theorem dX7_becomeAs_185 : decode cX7_becomeAs 185 = .ok (.aload_n 0, 1) := by decide +kernel
theorem dX7_becomeAs_186 : decode cX7_becomeAs 186 = .ok (.aload_n 1, 1) := by decide +kernel
theorem dX7_becomeAs_187 : decode cX7_becomeAs 187 = .ok (.getfield 39, 3) := by decide +kernel
theorem dX7_becomeAs_190 : decode cX7_becomeAs 190 = .ok (.putfield 39, 3) := by decide +kernel
theorem dX7_becomeAs_193 : decode cX7_becomeAs 193 = .ok (.return_, 1) := by decide +kernel
theorem dX7_draw_0 : decode cX7_draw 0 = .ok (.aload_n 0, 1) := by decide +kernel
theorem dX7_draw_1 : decode cX7_draw 1 = .ok (.aload_n 0, 1) := by decide +kernel
theorem dX7_draw_2 : decode cX7_draw 2 = .ok (.getfield 39, 3) := by decide +kernel
theorem dX7_draw_5 : decode cX7_draw 5 = .ok (.ldc 72, 2) := by decide +kernel
theorem dX7_draw_7 : decode cX7_draw 7 = .ok (.imul, 1) := by decide +kernel
theorem dX7_draw_8 : decode cX7_draw 8 = .ok (.sipush 12345, 3) := by decide +kernel
theorem dX7_draw_11 : decode cX7_draw 11 = .ok (.iadd, 1) := by decide +kernel
theorem dX7_draw_12 : decode cX7_draw 12 = .ok (.putfield 39, 3) := by decide +kernel
theorem dX7_draw_15 : decode cX7_draw 15 = .ok (.aload_n 0, 1) := by decide +kernel
theorem dX7_draw_16 : decode cX7_draw 16 = .ok (.getfield 39, 3) := by decide +kernel
theorem dX7_draw_19 : decode cX7_draw 19 = .ok (.bipush 8, 2) := by decide +kernel
theorem dX7_draw_21 : decode cX7_draw 21 = .ok (.iushr, 1) := by decide +kernel
theorem dX7_draw_22 : decode cX7_draw 22 = .ok (.ireturn, 1) := by decide +kernel
theorem dX7_drawPerson_0 : decode cX7_drawPerson 0 = .ok (.aload_n 0, 1) := by decide +kernel
theorem dX7_drawPerson_1 : decode cX7_drawPerson 1 = .ok (.getfield 44, 3) := by decide +kernel
theorem dX7_drawPerson_4 : decode cX7_drawPerson 4 = .ok (.bipush 8, 2) := by decide +kernel
theorem dX7_drawPerson_6 : decode cX7_drawPerson 6 = .ok (.if_icmp .lt 4, 3) := by decide +kernel
theorem dX7_drawPerson_9 : decode cX7_drawPerson 9 = .ok (.return_, 1) := by decide +kernel
theorem dX7_drawPerson_10 : decode cX7_drawPerson 10 = .ok (.aload_n 0, 1) := by decide +kernel
theorem dX7_drawPerson_11 : decode cX7_drawPerson 11 = .ok (.invokevirtual 73, 3) := by decide +kernel
theorem dX7_drawPerson_14 : decode cX7_drawPerson 14 = .ok (.bipush 6, 2) := by decide +kernel
theorem dX7_drawPerson_16 : decode cX7_drawPerson 16 = .ok (.irem, 1) := by decide +kernel
theorem dX7_drawPerson_17 : decode cX7_drawPerson 17 = .ok (.istore_n 1, 1) := by decide +kernel
theorem dX7_drawPerson_18 : decode cX7_drawPerson 18 = .ok (.aload_n 0, 1) := by decide +kernel
theorem dX7_drawPerson_19 : decode cX7_drawPerson 19 = .ok (.invokevirtual 73, 3) := by decide +kernel
theorem dX7_drawPerson_22 : decode cX7_drawPerson 22 = .ok (.bipush 8, 2) := by decide +kernel
theorem dX7_drawPerson_24 : decode cX7_drawPerson 24 = .ok (.irem, 1) := by decide +kernel
theorem dX7_drawPerson_25 : decode cX7_drawPerson 25 = .ok (.istore_n 2, 1) := by decide +kernel
theorem dX7_drawPerson_26 : decode cX7_drawPerson 26 = .ok (.aload_n 0, 1) := by decide +kernel
theorem dX7_drawPerson_27 : decode cX7_drawPerson 27 = .ok (.invokevirtual 73, 3) := by decide +kernel
theorem dX7_drawPerson_30 : decode cX7_drawPerson 30 = .ok (.bipush 60, 2) := by decide +kernel
theorem dX7_drawPerson_32 : decode cX7_drawPerson 32 = .ok (.irem, 1) := by decide +kernel
theorem dX7_drawPerson_33 : decode cX7_drawPerson 33 = .ok (.istore_n 3, 1) := by decide +kernel
theorem dX7_drawPerson_34 : decode cX7_drawPerson 34 = .ok (.aload_n 0, 1) := by decide +kernel
theorem dX7_drawPerson_35 : decode cX7_drawPerson 35 = .ok (.invokevirtual 73, 3) := by decide +kernel
theorem dX7_drawPerson_38 : decode cX7_drawPerson 38 = .ok (.bipush 60, 2) := by decide +kernel
theorem dX7_drawPerson_40 : decode cX7_drawPerson 40 = .ok (.irem, 1) := by decide +kernel
theorem dX7_drawPerson_41 : decode cX7_drawPerson 41 = .ok (.istore 4, 2) := by decide +kernel
theorem dX7_drawPerson_43 : decode cX7_drawPerson 43 = .ok (.aload_n 0, 1) := by decide +kernel
theorem dX7_drawPerson_44 : decode cX7_drawPerson 44 = .ok (.invokevirtual 73, 3) := by decide +kernel
theorem dX7_drawPerson_47 : decode cX7_drawPerson 47 = .ok (.bipush 60, 2) := by decide +kernel
theorem dX7_drawPerson_49 : decode cX7_drawPerson 49 = .ok (.irem, 1) := by decide +kernel
theorem dX7_drawPerson_50 : decode cX7_drawPerson 50 = .ok (.istore 5, 2) := by decide +kernel
theorem dX7_drawPerson_52 : decode cX7_drawPerson 52 = .ok (.aload_n 0, 1) := by decide +kernel
theorem dX7_drawPerson_53 : decode cX7_drawPerson 53 = .ok (.getfield 11, 3) := by decide +kernel
theorem dX7_drawPerson_56 : decode cX7_drawPerson 56 = .ok (.aload_n 0, 1) := by decide +kernel
theorem dX7_drawPerson_57 : decode cX7_drawPerson 57 = .ok (.getfield 44, 3) := by decide +kernel
theorem dX7_drawPerson_60 : decode cX7_drawPerson 60 = .ok (.aaload, 1) := by decide +kernel
theorem dX7_drawPerson_61 : decode cX7_drawPerson 61 = .ok (.iload_n 1, 1) := by decide +kernel
theorem dX7_drawPerson_62 : decode cX7_drawPerson 62 = .ok (.iload_n 2, 1) := by decide +kernel
theorem dX7_drawPerson_63 : decode cX7_drawPerson 63 = .ok (.iload_n 3, 1) := by decide +kernel
theorem dX7_drawPerson_64 : decode cX7_drawPerson 64 = .ok (.iload 4, 2) := by decide +kernel
theorem dX7_drawPerson_66 : decode cX7_drawPerson 66 = .ok (.iload 5, 2) := by decide +kernel
theorem dX7_drawPerson_68 : decode cX7_drawPerson 68 = .ok (.invokevirtual 79, 3) := by decide +kernel
theorem dX7_drawPerson_71 : decode cX7_drawPerson 71 = .ok (.aload_n 0, 1) := by decide +kernel
theorem dX7_drawPerson_72 : decode cX7_drawPerson 72 = .ok (.dup, 1) := by decide +kernel
theorem dX7_drawPerson_73 : decode cX7_drawPerson 73 = .ok (.getfield 44, 3) := by decide +kernel
theorem dX7_drawPerson_76 : decode cX7_drawPerson 76 = .ok (.iconst 1, 1) := by decide +kernel
theorem dX7_drawPerson_77 : decode cX7_drawPerson 77 = .ok (.iadd, 1) := by decide +kernel
theorem dX7_drawPerson_78 : decode cX7_drawPerson 78 = .ok (.putfield 44, 3) := by decide +kernel
theorem dX7_drawPerson_81 : decode cX7_drawPerson 81 = .ok (.return_, 1) := by decide +kernel
theorem dX7_liveDay_0 : decode cX7_liveDay 0 = .ok (.iconst 0, 1) := by decide +kernel
theorem dX7_liveDay_1 : decode cX7_liveDay 1 = .ok (.istore_n 1, 1) := by decide +kernel
theorem dX7_liveDay_2 : decode cX7_liveDay 2 = .ok (.iload_n 1, 1) := by decide +kernel
theorem dX7_liveDay_3 : decode cX7_liveDay 3 = .ok (.aload_n 0, 1) := by decide +kernel
theorem dX7_liveDay_4 : decode cX7_liveDay 4 = .ok (.getfield 44, 3) := by decide +kernel
theorem dX7_liveDay_7 : decode cX7_liveDay 7 = .ok (.if_icmp .ge 42, 3) := by decide +kernel
theorem dX7_liveDay_10 : decode cX7_liveDay 10 = .ok (.aload_n 0, 1) := by decide +kernel
theorem dX7_liveDay_11 : decode cX7_liveDay 11 = .ok (.getfield 11, 3) := by decide +kernel
theorem dX7_liveDay_14 : decode cX7_liveDay 14 = .ok (.iload_n 1, 1) := by decide +kernel
theorem dX7_liveDay_15 : decode cX7_liveDay 15 = .ok (.aaload, 1) := by decide +kernel
theorem dX7_liveDay_16 : decode cX7_liveDay 16 = .ok (.getfield 83, 3) := by decide +kernel
theorem dX7_liveDay_19 : decode cX7_liveDay 19 = .ok (.iconst 5, 1) := by decide +kernel
theorem dX7_liveDay_20 : decode cX7_liveDay 20 = .ok (.if_icmp .ne 13, 3) := by decide +kernel
theorem dX7_liveDay_23 : decode cX7_liveDay 23 = .ok (.aload_n 0, 1) := by decide +kernel
theorem dX7_liveDay_24 : decode cX7_liveDay 24 = .ok (.aload_n 0, 1) := by decide +kernel
theorem dX7_liveDay_25 : decode cX7_liveDay 25 = .ok (.getfield 11, 3) := by decide +kernel
theorem dX7_liveDay_28 : decode cX7_liveDay 28 = .ok (.iload_n 1, 1) := by decide +kernel
theorem dX7_liveDay_29 : decode cX7_liveDay 29 = .ok (.aaload, 1) := by decide +kernel
theorem dX7_liveDay_30 : decode cX7_liveDay 30 = .ok (.invokevirtual 86, 3) := by decide +kernel
theorem dX7_liveDay_33 : decode cX7_liveDay 33 = .ok (.aload_n 0, 1) := by decide +kernel
theorem dX7_liveDay_34 : decode cX7_liveDay 34 = .ok (.aload_n 0, 1) := by decide +kernel
theorem dX7_liveDay_35 : decode cX7_liveDay 35 = .ok (.getfield 11, 3) := by decide +kernel
theorem dX7_liveDay_38 : decode cX7_liveDay 38 = .ok (.iload_n 1, 1) := by decide +kernel
theorem dX7_liveDay_39 : decode cX7_liveDay 39 = .ok (.aaload, 1) := by decide +kernel
theorem dX7_liveDay_40 : decode cX7_liveDay 40 = .ok (.invokevirtual 89, 3) := by decide +kernel
theorem dX7_liveDay_43 : decode cX7_liveDay 43 = .ok (.iinc 1 1, 3) := by decide +kernel
theorem dX7_liveDay_46 : decode cX7_liveDay 46 = .ok (.goto (-44), 3) := by decide +kernel
theorem dX7_liveDay_49 : decode cX7_liveDay 49 = .ok (.aload_n 0, 1) := by decide +kernel
theorem dX7_liveDay_50 : decode cX7_liveDay 50 = .ok (.invokevirtual 92, 3) := by decide +kernel
theorem dX7_liveDay_53 : decode cX7_liveDay 53 = .ok (.aload_n 0, 1) := by decide +kernel
theorem dX7_liveDay_54 : decode cX7_liveDay 54 = .ok (.invokevirtual 95, 3) := by decide +kernel
theorem dX7_liveDay_57 : decode cX7_liveDay 57 = .ok (.aload_n 0, 1) := by decide +kernel
theorem dX7_liveDay_58 : decode cX7_liveDay 58 = .ok (.getfield 69, 3) := by decide +kernel
theorem dX7_liveDay_61 : decode cX7_liveDay 61 = .ok (.iconst 5, 1) := by decide +kernel
theorem dX7_liveDay_62 : decode cX7_liveDay 62 = .ok (.irem, 1) := by decide +kernel
theorem dX7_liveDay_63 : decode cX7_liveDay 63 = .ok (.iconst 4, 1) := by decide +kernel
theorem dX7_liveDay_64 : decode cX7_liveDay 64 = .ok (.if_icmp .ne 7, 3) := by decide +kernel
theorem dX7_liveDay_67 : decode cX7_liveDay 67 = .ok (.aload_n 0, 1) := by decide +kernel
theorem dX7_liveDay_68 : decode cX7_liveDay 68 = .ok (.invokevirtual 98, 3) := by decide +kernel
theorem dX7_liveDay_71 : decode cX7_liveDay 71 = .ok (.aload_n 0, 1) := by decide +kernel
theorem dX7_liveDay_72 : decode cX7_liveDay 72 = .ok (.dup, 1) := by decide +kernel
theorem dX7_liveDay_73 : decode cX7_liveDay 73 = .ok (.getfield 69, 3) := by decide +kernel
theorem dX7_liveDay_76 : decode cX7_liveDay 76 = .ok (.iconst 1, 1) := by decide +kernel
theorem dX7_liveDay_77 : decode cX7_liveDay 77 = .ok (.iadd, 1) := by decide +kernel
theorem dX7_liveDay_78 : decode cX7_liveDay 78 = .ok (.putfield 69, 3) := by decide +kernel
theorem dX7_liveDay_81 : decode cX7_liveDay 81 = .ok (.return_, 1) := by decide +kernel
theorem dX7_tryFalsely_0 : decode cX7_tryFalsely 0 = .ok (.iconst 0, 1) := by decide +kernel
theorem dX7_tryFalsely_1 : decode cX7_tryFalsely 1 = .ok (.istore_n 2, 1) := by decide +kernel
theorem dX7_tryFalsely_2 : decode cX7_tryFalsely 2 = .ok (.iload_n 2, 1) := by decide +kernel
theorem dX7_tryFalsely_3 : decode cX7_tryFalsely 3 = .ok (.aload_n 0, 1) := by decide +kernel
theorem dX7_tryFalsely_4 : decode cX7_tryFalsely 4 = .ok (.getfield 51, 3) := by decide +kernel
theorem dX7_tryFalsely_7 : decode cX7_tryFalsely 7 = .ok (.if_icmp .ge 70, 3) := by decide +kernel
theorem dX7_tryFalsely_10 : decode cX7_tryFalsely 10 = .ok (.aload_n 0, 1) := by decide +kernel
theorem dX7_tryFalsely_11 : decode cX7_tryFalsely 11 = .ok (.getfield 19, 3) := by decide +kernel
theorem dX7_tryFalsely_14 : decode cX7_tryFalsely 14 = .ok (.iload_n 2, 1) := by decide +kernel
theorem dX7_tryFalsely_15 : decode cX7_tryFalsely 15 = .ok (.aaload, 1) := by decide +kernel
theorem dX7_tryFalsely_16 : decode cX7_tryFalsely 16 = .ok (.getfield 101, 3) := by decide +kernel
theorem dX7_tryFalsely_19 : decode cX7_tryFalsely 19 = .ok (.aload_n 1, 1) := by decide +kernel
theorem dX7_tryFalsely_20 : decode cX7_tryFalsely 20 = .ok (.getfield 104, 3) := by decide +kernel
theorem dX7_tryFalsely_23 : decode cX7_tryFalsely 23 = .ok (.if_icmp .ne 48, 3) := by decide +kernel
theorem dX7_tryFalsely_26 : decode cX7_tryFalsely 26 = .ok (.aload_n 0, 1) := by decide +kernel
theorem dX7_tryFalsely_27 : decode cX7_tryFalsely 27 = .ok (.getfield 19, 3) := by decide +kernel
theorem dX7_tryFalsely_30 : decode cX7_tryFalsely 30 = .ok (.iload_n 2, 1) := by decide +kernel
theorem dX7_tryFalsely_31 : decode cX7_tryFalsely 31 = .ok (.aaload, 1) := by decide +kernel
theorem dX7_tryFalsely_32 : decode cX7_tryFalsely 32 = .ok (.getfield 107, 3) := by decide +kernel
theorem dX7_tryFalsely_35 : decode cX7_tryFalsely 35 = .ok (.ifCond .ne 36, 3) := by decide +kernel
theorem dX7_tryFalsely_38 : decode cX7_tryFalsely 38 = .ok (.aload_n 0, 1) := by decide +kernel
theorem dX7_tryFalsely_39 : decode cX7_tryFalsely 39 = .ok (.invokevirtual 73, 3) := by decide +kernel
theorem dX7_tryFalsely_42 : decode cX7_tryFalsely 42 = .ok (.bipush 100, 2) := by decide +kernel
theorem dX7_tryFalsely_44 : decode cX7_tryFalsely 44 = .ok (.irem, 1) := by decide +kernel
theorem dX7_tryFalsely_45 : decode cX7_tryFalsely 45 = .ok (.bipush 30, 2) := by decide +kernel
theorem dX7_tryFalsely_47 : decode cX7_tryFalsely 47 = .ok (.if_icmp .ge 23, 3) := by decide +kernel
theorem dX7_tryFalsely_50 : decode cX7_tryFalsely 50 = .ok (.aload_n 0, 1) := by decide +kernel
theorem dX7_tryFalsely_51 : decode cX7_tryFalsely 51 = .ok (.getfield 19, 3) := by decide +kernel
theorem dX7_tryFalsely_54 : decode cX7_tryFalsely 54 = .ok (.iload_n 2, 1) := by decide +kernel
theorem dX7_tryFalsely_55 : decode cX7_tryFalsely 55 = .ok (.aaload, 1) := by decide +kernel
theorem dX7_tryFalsely_56 : decode cX7_tryFalsely 56 = .ok (.iconst 1, 1) := by decide +kernel
theorem dX7_tryFalsely_57 : decode cX7_tryFalsely 57 = .ok (.putfield 107, 3) := by decide +kernel
theorem dX7_tryFalsely_60 : decode cX7_tryFalsely 60 = .ok (.aload_n 0, 1) := by decide +kernel
theorem dX7_tryFalsely_61 : decode cX7_tryFalsely 61 = .ok (.dup, 1) := by decide +kernel
theorem dX7_tryFalsely_62 : decode cX7_tryFalsely 62 = .ok (.getfield 66, 3) := by decide +kernel
theorem dX7_tryFalsely_65 : decode cX7_tryFalsely 65 = .ok (.iconst 1, 1) := by decide +kernel
theorem dX7_tryFalsely_66 : decode cX7_tryFalsely 66 = .ok (.iadd, 1) := by decide +kernel
theorem dX7_tryFalsely_67 : decode cX7_tryFalsely 67 = .ok (.putfield 66, 3) := by decide +kernel
theorem dX7_tryFalsely_70 : decode cX7_tryFalsely 70 = .ok (.return_, 1) := by decide +kernel
theorem dX7_tryFalsely_71 : decode cX7_tryFalsely 71 = .ok (.iinc 2 1, 3) := by decide +kernel
theorem dX7_tryFalsely_74 : decode cX7_tryFalsely 74 = .ok (.goto (-72), 3) := by decide +kernel
theorem dX7_tryFalsely_77 : decode cX7_tryFalsely 77 = .ok (.return_, 1) := by decide +kernel
theorem dX7_goOn_0 : decode cX7_goOn 0 = .ok (.iconst 0, 1) := by decide +kernel
theorem dX7_goOn_1 : decode cX7_goOn 1 = .ok (.istore_n 2, 1) := by decide +kernel
theorem dX7_goOn_2 : decode cX7_goOn 2 = .ok (.iload_n 2, 1) := by decide +kernel
theorem dX7_goOn_3 : decode cX7_goOn 3 = .ok (.aload_n 0, 1) := by decide +kernel
theorem dX7_goOn_4 : decode cX7_goOn 4 = .ok (.getfield 51, 3) := by decide +kernel
theorem dX7_goOn_7 : decode cX7_goOn 7 = .ok (.if_icmp .ge 50, 3) := by decide +kernel
theorem dX7_goOn_10 : decode cX7_goOn 10 = .ok (.aload_n 0, 1) := by decide +kernel
theorem dX7_goOn_11 : decode cX7_goOn 11 = .ok (.getfield 19, 3) := by decide +kernel
theorem dX7_goOn_14 : decode cX7_goOn 14 = .ok (.iload_n 2, 1) := by decide +kernel
theorem dX7_goOn_15 : decode cX7_goOn 15 = .ok (.aaload, 1) := by decide +kernel
theorem dX7_goOn_16 : decode cX7_goOn 16 = .ok (.getfield 101, 3) := by decide +kernel
theorem dX7_goOn_19 : decode cX7_goOn 19 = .ok (.aload_n 1, 1) := by decide +kernel
theorem dX7_goOn_20 : decode cX7_goOn 20 = .ok (.getfield 104, 3) := by decide +kernel
theorem dX7_goOn_23 : decode cX7_goOn 23 = .ok (.if_icmp .ne 28, 3) := by decide +kernel
theorem dX7_goOn_26 : decode cX7_goOn 26 = .ok (.aload_n 0, 1) := by decide +kernel
theorem dX7_goOn_27 : decode cX7_goOn 27 = .ok (.getfield 19, 3) := by decide +kernel
theorem dX7_goOn_30 : decode cX7_goOn 30 = .ok (.iload_n 2, 1) := by decide +kernel
theorem dX7_goOn_31 : decode cX7_goOn 31 = .ok (.aaload, 1) := by decide +kernel
theorem dX7_goOn_32 : decode cX7_goOn 32 = .ok (.aload_n 1, 1) := by decide +kernel
theorem dX7_goOn_33 : decode cX7_goOn 33 = .ok (.invokevirtual 111, 3) := by decide +kernel
theorem dX7_goOn_36 : decode cX7_goOn 36 = .ok (.ifCond .eq 15, 3) := by decide +kernel
theorem dX7_goOn_39 : decode cX7_goOn 39 = .ok (.aload_n 0, 1) := by decide +kernel
theorem dX7_goOn_40 : decode cX7_goOn 40 = .ok (.aload_n 1, 1) := by decide +kernel
theorem dX7_goOn_41 : decode cX7_goOn 41 = .ok (.aload_n 0, 1) := by decide +kernel
theorem dX7_goOn_42 : decode cX7_goOn 42 = .ok (.getfield 19, 3) := by decide +kernel
theorem dX7_goOn_45 : decode cX7_goOn 45 = .ok (.iload_n 2, 1) := by decide +kernel
theorem dX7_goOn_46 : decode cX7_goOn 46 = .ok (.aaload, 1) := by decide +kernel
theorem dX7_goOn_47 : decode cX7_goOn 47 = .ok (.invokevirtual 115, 3) := by decide +kernel
theorem dX7_goOn_50 : decode cX7_goOn 50 = .ok (.return_, 1) := by decide +kernel
theorem dX7_goOn_51 : decode cX7_goOn 51 = .ok (.iinc 2 1, 3) := by decide +kernel
theorem dX7_goOn_54 : decode cX7_goOn 54 = .ok (.goto (-52), 3) := by decide +kernel
theorem dX7_goOn_57 : decode cX7_goOn 57 = .ok (.aload_n 0, 1) := by decide +kernel
theorem dX7_goOn_58 : decode cX7_goOn 58 = .ok (.dup, 1) := by decide +kernel
theorem dX7_goOn_59 : decode cX7_goOn 59 = .ok (.getfield 63, 3) := by decide +kernel
theorem dX7_goOn_62 : decode cX7_goOn 62 = .ok (.iconst 1, 1) := by decide +kernel
theorem dX7_goOn_63 : decode cX7_goOn 63 = .ok (.iadd, 1) := by decide +kernel
theorem dX7_goOn_64 : decode cX7_goOn 64 = .ok (.putfield 63, 3) := by decide +kernel
theorem dX7_goOn_67 : decode cX7_goOn 67 = .ok (.aload_n 1, 1) := by decide +kernel
theorem dX7_goOn_68 : decode cX7_goOn 68 = .ok (.aload_n 0, 1) := by decide +kernel
theorem dX7_goOn_69 : decode cX7_goOn 69 = .ok (.getfield 69, 3) := by decide +kernel
theorem dX7_goOn_72 : decode cX7_goOn 72 = .ok (.iconst 3, 1) := by decide +kernel
theorem dX7_goOn_73 : decode cX7_goOn 73 = .ok (.irem, 1) := by decide +kernel
theorem dX7_goOn_74 : decode cX7_goOn 74 = .ok (.iconst 1, 1) := by decide +kernel
theorem dX7_goOn_75 : decode cX7_goOn 75 = .ok (.invokevirtual 119, 3) := by decide +kernel
theorem dX7_goOn_78 : decode cX7_goOn 78 = .ok (.return_, 1) := by decide +kernel
theorem dX7_goThrough_0 : decode cX7_goThrough 0 = .ok (.aload_n 1, 1) := by decide +kernel
theorem dX7_goThrough_1 : decode cX7_goThrough 1 = .ok (.getfield 123, 3) := by decide +kernel
theorem dX7_goThrough_4 : decode cX7_goThrough 4 = .ok (.aload_n 2, 1) := by decide +kernel
theorem dX7_goThrough_5 : decode cX7_goThrough 5 = .ok (.getfield 127, 3) := by decide +kernel
theorem dX7_goThrough_8 : decode cX7_goThrough 8 = .ok (.aload_n 0, 1) := by decide +kernel
theorem dX7_goThrough_9 : decode cX7_goThrough 9 = .ok (.aload_n 1, 1) := by decide +kernel
theorem dX7_goThrough_10 : decode cX7_goThrough 10 = .ok (.getfield 83, 3) := by decide +kernel
theorem dX7_goThrough_13 : decode cX7_goThrough 13 = .ok (.aload_n 2, 1) := by decide +kernel
theorem dX7_goThrough_14 : decode cX7_goThrough 14 = .ok (.getfield 127, 3) := by decide +kernel
theorem dX7_goThrough_17 : decode cX7_goThrough 17 = .ok (.aload_n 1, 1) := by decide +kernel
theorem dX7_goThrough_18 : decode cX7_goThrough 18 = .ok (.getfield 123, 3) := by decide +kernel
theorem dX7_goThrough_21 : decode cX7_goThrough 21 = .ok (.aload_n 2, 1) := by decide +kernel
theorem dX7_goThrough_22 : decode cX7_goThrough 22 = .ok (.getfield 127, 3) := by decide +kernel
theorem dX7_goThrough_25 : decode cX7_goThrough 25 = .ok (.iaload, 1) := by decide +kernel
theorem dX7_goThrough_26 : decode cX7_goThrough 26 = .ok (.invokevirtual 130, 3) := by decide +kernel
theorem dX7_goThrough_29 : decode cX7_goThrough 29 = .ok (.iastore, 1) := by decide +kernel
theorem dX7_goThrough_30 : decode cX7_goThrough 30 = .ok (.aload_n 1, 1) := by decide +kernel
theorem dX7_goThrough_31 : decode cX7_goThrough 31 = .ok (.aload_n 2, 1) := by decide +kernel
theorem dX7_goThrough_32 : decode cX7_goThrough 32 = .ok (.getfield 134, 3) := by decide +kernel
theorem dX7_goThrough_35 : decode cX7_goThrough 35 = .ok (.putfield 104, 3) := by decide +kernel
theorem dX7_goThrough_38 : decode cX7_goThrough 38 = .ok (.aload_n 0, 1) := by decide +kernel
theorem dX7_goThrough_39 : decode cX7_goThrough 39 = .ok (.dup, 1) := by decide +kernel
theorem dX7_goThrough_40 : decode cX7_goThrough 40 = .ok (.getfield 60, 3) := by decide +kernel
theorem dX7_goThrough_43 : decode cX7_goThrough 43 = .ok (.iconst 1, 1) := by decide +kernel
theorem dX7_goThrough_44 : decode cX7_goThrough 44 = .ok (.iadd, 1) := by decide +kernel
theorem dX7_goThrough_45 : decode cX7_goThrough 45 = .ok (.putfield 60, 3) := by decide +kernel
theorem dX7_goThrough_48 : decode cX7_goThrough 48 = .ok (.return_, 1) := by decide +kernel
theorem dX7_leftOf_0 : decode cX7_leftOf 0 = .ok (.aload_n 0, 1) := by decide +kernel
theorem dX7_leftOf_1 : decode cX7_leftOf 1 = .ok (.getfield 29, 3) := by decide +kernel
theorem dX7_leftOf_4 : decode cX7_leftOf 4 = .ok (.iconst 0, 1) := by decide +kernel
theorem dX7_leftOf_5 : decode cX7_leftOf 5 = .ok (.aaload, 1) := by decide +kernel
theorem dX7_leftOf_6 : decode cX7_leftOf 6 = .ok (.astore 4, 2) := by decide +kernel
theorem dX7_leftOf_8 : decode cX7_leftOf 8 = .ok (.aload 4, 2) := by decide +kernel
theorem dX7_leftOf_10 : decode cX7_leftOf 10 = .ok (.ifnonnull 7, 3) := by decide +kernel
theorem dX7_leftOf_13 : decode cX7_leftOf 13 = .ok (.iconst 2, 1) := by decide +kernel
theorem dX7_leftOf_14 : decode cX7_leftOf 14 = .ok (.goto 19, 3) := by decide +kernel
theorem dX7_leftOf_17 : decode cX7_leftOf 17 = .ok (.aload 4, 2) := by decide +kernel
theorem dX7_leftOf_19 : decode cX7_leftOf 19 = .ok (.iload_n 3, 1) := by decide +kernel
theorem dX7_leftOf_20 : decode cX7_leftOf 20 = .ok (.iload_n 2, 1) := by decide +kernel
theorem dX7_leftOf_21 : decode cX7_leftOf 21 = .ok (.aload_n 0, 1) := by decide +kernel
theorem dX7_leftOf_22 : decode cX7_leftOf 22 = .ok (.getfield 69, 3) := by decide +kernel
theorem dX7_leftOf_25 : decode cX7_leftOf 25 = .ok (.invokevirtual 137, 3) := by decide +kernel
theorem dX7_leftOf_28 : decode cX7_leftOf 28 = .ok (.bipush 99, 2) := by decide +kernel
theorem dX7_leftOf_30 : decode cX7_leftOf 30 = .ok (.invokestatic 140, 3) := by decide +kernel
theorem dX7_leftOf_33 : decode cX7_leftOf 33 = .ok (.istore 5, 2) := by decide +kernel
theorem dX7_leftOf_35 : decode cX7_leftOf 35 = .ok (.iconst 0, 1) := by decide +kernel
theorem dX7_leftOf_36 : decode cX7_leftOf 36 = .ok (.iload_n 3, 1) := by decide +kernel
theorem dX7_leftOf_37 : decode cX7_leftOf 37 = .ok (.iload_n 1, 1) := by decide +kernel
theorem dX7_leftOf_38 : decode cX7_leftOf 38 = .ok (.iload 5, 2) := by decide +kernel
theorem dX7_leftOf_40 : decode cX7_leftOf 40 = .ok (.invokestatic 144, 3) := by decide +kernel
theorem dX7_leftOf_43 : decode cX7_leftOf 43 = .ok (.isub, 1) := by decide +kernel
theorem dX7_leftOf_44 : decode cX7_leftOf 44 = .ok (.invokestatic 147, 3) := by decide +kernel
theorem dX7_leftOf_47 : decode cX7_leftOf 47 = .ok (.ireturn, 1) := by decide +kernel
theorem dX7_sufferDeed_0 : decode cX7_sufferDeed 0 = .ok (.aload_n 0, 1) := by decide +kernel
theorem dX7_sufferDeed_1 : decode cX7_sufferDeed 1 = .ok (.invokevirtual 73, 3) := by decide +kernel
theorem dX7_sufferDeed_4 : decode cX7_sufferDeed 4 = .ok (.bipush 100, 2) := by decide +kernel
theorem dX7_sufferDeed_6 : decode cX7_sufferDeed 6 = .ok (.irem, 1) := by decide +kernel
theorem dX7_sufferDeed_7 : decode cX7_sufferDeed 7 = .ok (.aload_n 0, 1) := by decide +kernel
theorem dX7_sufferDeed_8 : decode cX7_sufferDeed 8 = .ok (.getfield 32, 3) := by decide +kernel
theorem dX7_sufferDeed_11 : decode cX7_sufferDeed 11 = .ok (.if_icmp .ge 39, 3) := by decide +kernel
theorem dX7_sufferDeed_14 : decode cX7_sufferDeed 14 = .ok (.aload_n 0, 1) := by decide +kernel
theorem dX7_sufferDeed_15 : decode cX7_sufferDeed 15 = .ok (.getfield 44, 3) := by decide +kernel
theorem dX7_sufferDeed_18 : decode cX7_sufferDeed 18 = .ok (.ifCond .le 32, 3) := by decide +kernel
theorem dX7_sufferDeed_21 : decode cX7_sufferDeed 21 = .ok (.aload_n 0, 1) := by decide +kernel
theorem dX7_sufferDeed_22 : decode cX7_sufferDeed 22 = .ok (.invokevirtual 73, 3) := by decide +kernel
theorem dX7_sufferDeed_25 : decode cX7_sufferDeed 25 = .ok (.aload_n 0, 1) := by decide +kernel
theorem dX7_sufferDeed_26 : decode cX7_sufferDeed 26 = .ok (.getfield 44, 3) := by decide +kernel
theorem dX7_sufferDeed_29 : decode cX7_sufferDeed 29 = .ok (.irem, 1) := by decide +kernel
theorem dX7_sufferDeed_30 : decode cX7_sufferDeed 30 = .ok (.istore_n 1, 1) := by decide +kernel
theorem dX7_sufferDeed_31 : decode cX7_sufferDeed 31 = .ok (.aload_n 0, 1) := by decide +kernel
theorem dX7_sufferDeed_32 : decode cX7_sufferDeed 32 = .ok (.invokevirtual 73, 3) := by decide +kernel
theorem dX7_sufferDeed_35 : decode cX7_sufferDeed 35 = .ok (.iconst 3, 1) := by decide +kernel
theorem dX7_sufferDeed_36 : decode cX7_sufferDeed 36 = .ok (.irem, 1) := by decide +kernel
theorem dX7_sufferDeed_37 : decode cX7_sufferDeed 37 = .ok (.istore_n 2, 1) := by decide +kernel
theorem dX7_sufferDeed_38 : decode cX7_sufferDeed 38 = .ok (.aload_n 0, 1) := by decide +kernel
theorem dX7_sufferDeed_39 : decode cX7_sufferDeed 39 = .ok (.getfield 11, 3) := by decide +kernel
theorem dX7_sufferDeed_42 : decode cX7_sufferDeed 42 = .ok (.iload_n 1, 1) := by decide +kernel
theorem dX7_sufferDeed_43 : decode cX7_sufferDeed 43 = .ok (.aaload, 1) := by decide +kernel
theorem dX7_sufferDeed_44 : decode cX7_sufferDeed 44 = .ok (.iload_n 2, 1) := by decide +kernel
theorem dX7_sufferDeed_45 : decode cX7_sufferDeed 45 = .ok (.bipush 10, 2) := by decide +kernel
theorem dX7_sufferDeed_47 : decode cX7_sufferDeed 47 = .ok (.invokevirtual 119, 3) := by decide +kernel
theorem dX7_sufferDeed_50 : decode cX7_sufferDeed 50 = .ok (.return_, 1) := by decide +kernel
theorem dX7_sufferPardon_0 : decode cX7_sufferPardon 0 = .ok (.aload_n 0, 1) := by decide +kernel
theorem dX7_sufferPardon_1 : decode cX7_sufferPardon 1 = .ok (.invokevirtual 73, 3) := by decide +kernel
theorem dX7_sufferPardon_4 : decode cX7_sufferPardon 4 = .ok (.bipush 100, 2) := by decide +kernel
theorem dX7_sufferPardon_6 : decode cX7_sufferPardon 6 = .ok (.irem, 1) := by decide +kernel
theorem dX7_sufferPardon_7 : decode cX7_sufferPardon 7 = .ok (.aload_n 0, 1) := by decide +kernel
theorem dX7_sufferPardon_8 : decode cX7_sufferPardon 8 = .ok (.getfield 36, 3) := by decide +kernel
theorem dX7_sufferPardon_11 : decode cX7_sufferPardon 11 = .ok (.if_icmp .ge 27, 3) := by decide +kernel
theorem dX7_sufferPardon_14 : decode cX7_sufferPardon 14 = .ok (.aload_n 0, 1) := by decide +kernel
theorem dX7_sufferPardon_15 : decode cX7_sufferPardon 15 = .ok (.getfield 44, 3) := by decide +kernel
theorem dX7_sufferPardon_18 : decode cX7_sufferPardon 18 = .ok (.ifCond .le 20, 3) := by decide +kernel
theorem dX7_sufferPardon_21 : decode cX7_sufferPardon 21 = .ok (.aload_n 0, 1) := by decide +kernel
theorem dX7_sufferPardon_22 : decode cX7_sufferPardon 22 = .ok (.getfield 11, 3) := by decide +kernel
theorem dX7_sufferPardon_25 : decode cX7_sufferPardon 25 = .ok (.aload_n 0, 1) := by decide +kernel
theorem dX7_sufferPardon_26 : decode cX7_sufferPardon 26 = .ok (.invokevirtual 73, 3) := by decide +kernel
theorem dX7_sufferPardon_29 : decode cX7_sufferPardon 29 = .ok (.aload_n 0, 1) := by decide +kernel
theorem dX7_sufferPardon_30 : decode cX7_sufferPardon 30 = .ok (.getfield 44, 3) := by decide +kernel
theorem dX7_sufferPardon_33 : decode cX7_sufferPardon 33 = .ok (.irem, 1) := by decide +kernel
theorem dX7_sufferPardon_34 : decode cX7_sufferPardon 34 = .ok (.aaload, 1) := by decide +kernel
theorem dX7_sufferPardon_35 : decode cX7_sufferPardon 35 = .ok (.invokevirtual 152, 3) := by decide +kernel
theorem dX7_sufferPardon_38 : decode cX7_sufferPardon 38 = .ok (.return_, 1) := by decide +kernel
theorem dX7_mendAll_0 : decode cX7_mendAll 0 = .ok (.iconst 0, 1) := by decide +kernel
theorem dX7_mendAll_1 : decode cX7_mendAll 1 = .ok (.istore_n 1, 1) := by decide +kernel
theorem dX7_mendAll_2 : decode cX7_mendAll 2 = .ok (.iload_n 1, 1) := by decide +kernel
theorem dX7_mendAll_3 : decode cX7_mendAll 3 = .ok (.aload_n 0, 1) := by decide +kernel
theorem dX7_mendAll_4 : decode cX7_mendAll 4 = .ok (.getfield 51, 3) := by decide +kernel
theorem dX7_mendAll_7 : decode cX7_mendAll 7 = .ok (.if_icmp .ge 19, 3) := by decide +kernel
theorem dX7_mendAll_10 : decode cX7_mendAll 10 = .ok (.aload_n 0, 1) := by decide +kernel
theorem dX7_mendAll_11 : decode cX7_mendAll 11 = .ok (.getfield 19, 3) := by decide +kernel
theorem dX7_mendAll_14 : decode cX7_mendAll 14 = .ok (.iload_n 1, 1) := by decide +kernel
theorem dX7_mendAll_15 : decode cX7_mendAll 15 = .ok (.aaload, 1) := by decide +kernel
theorem dX7_mendAll_16 : decode cX7_mendAll 16 = .ok (.iconst 0, 1) := by decide +kernel
theorem dX7_mendAll_17 : decode cX7_mendAll 17 = .ok (.putfield 107, 3) := by decide +kernel
theorem dX7_mendAll_20 : decode cX7_mendAll 20 = .ok (.iinc 1 1, 3) := by decide +kernel
theorem dX7_mendAll_23 : decode cX7_mendAll 23 = .ok (.goto (-21), 3) := by decide +kernel
theorem dX7_mendAll_26 : decode cX7_mendAll 26 = .ok (.return_, 1) := by decide +kernel
theorem dX7_allRegrets_0 : decode cX7_allRegrets 0 = .ok (.iconst 0, 1) := by decide +kernel
theorem dX7_allRegrets_1 : decode cX7_allRegrets 1 = .ok (.istore_n 1, 1) := by decide +kernel
theorem dX7_allRegrets_2 : decode cX7_allRegrets 2 = .ok (.iconst 0, 1) := by decide +kernel
theorem dX7_allRegrets_3 : decode cX7_allRegrets 3 = .ok (.istore_n 2, 1) := by decide +kernel
theorem dX7_allRegrets_4 : decode cX7_allRegrets 4 = .ok (.iload_n 2, 1) := by decide +kernel
theorem dX7_allRegrets_5 : decode cX7_allRegrets 5 = .ok (.aload_n 0, 1) := by decide +kernel
theorem dX7_allRegrets_6 : decode cX7_allRegrets 6 = .ok (.getfield 44, 3) := by decide +kernel
theorem dX7_allRegrets_9 : decode cX7_allRegrets 9 = .ok (.if_icmp .ge 21, 3) := by decide +kernel
theorem dX7_allRegrets_12 : decode cX7_allRegrets 12 = .ok (.iload_n 1, 1) := by decide +kernel
theorem dX7_allRegrets_13 : decode cX7_allRegrets 13 = .ok (.aload_n 0, 1) := by decide +kernel
theorem dX7_allRegrets_14 : decode cX7_allRegrets 14 = .ok (.getfield 11, 3) := by decide +kernel
theorem dX7_allRegrets_17 : decode cX7_allRegrets 17 = .ok (.iload_n 2, 1) := by decide +kernel
theorem dX7_allRegrets_18 : decode cX7_allRegrets 18 = .ok (.aaload, 1) := by decide +kernel
theorem dX7_allRegrets_19 : decode cX7_allRegrets 19 = .ok (.invokevirtual 155, 3) := by decide +kernel
theorem dX7_allRegrets_22 : decode cX7_allRegrets 22 = .ok (.iadd, 1) := by decide +kernel
theorem dX7_allRegrets_23 : decode cX7_allRegrets 23 = .ok (.istore_n 1, 1) := by decide +kernel
theorem dX7_allRegrets_24 : decode cX7_allRegrets 24 = .ok (.iinc 2 1, 3) := by decide +kernel
theorem dX7_allRegrets_27 : decode cX7_allRegrets 27 = .ok (.goto (-23), 3) := by decide +kernel
theorem dX7_allRegrets_30 : decode cX7_allRegrets 30 = .ok (.iload_n 1, 1) := by decide +kernel
theorem dX7_allRegrets_31 : decode cX7_allRegrets 31 = .ok (.ireturn, 1) := by decide +kernel
theorem dX7_jammedLocks_0 : decode cX7_jammedLocks 0 = .ok (.iconst 0, 1) := by decide +kernel
theorem dX7_jammedLocks_1 : decode cX7_jammedLocks 1 = .ok (.istore_n 1, 1) := by decide +kernel
theorem dX7_jammedLocks_2 : decode cX7_jammedLocks 2 = .ok (.iconst 0, 1) := by decide +kernel
theorem dX7_jammedLocks_3 : decode cX7_jammedLocks 3 = .ok (.istore_n 2, 1) := by decide +kernel
theorem dX7_jammedLocks_4 : decode cX7_jammedLocks 4 = .ok (.iload_n 2, 1) := by decide +kernel
theorem dX7_jammedLocks_5 : decode cX7_jammedLocks 5 = .ok (.aload_n 0, 1) := by decide +kernel
theorem dX7_jammedLocks_6 : decode cX7_jammedLocks 6 = .ok (.getfield 51, 3) := by decide +kernel
theorem dX7_jammedLocks_9 : decode cX7_jammedLocks 9 = .ok (.if_icmp .ge 27, 3) := by decide +kernel
theorem dX7_jammedLocks_12 : decode cX7_jammedLocks 12 = .ok (.aload_n 0, 1) := by decide +kernel
theorem dX7_jammedLocks_13 : decode cX7_jammedLocks 13 = .ok (.getfield 19, 3) := by decide +kernel
theorem dX7_jammedLocks_16 : decode cX7_jammedLocks 16 = .ok (.iload_n 2, 1) := by decide +kernel
theorem dX7_jammedLocks_17 : decode cX7_jammedLocks 17 = .ok (.aaload, 1) := by decide +kernel
theorem dX7_jammedLocks_18 : decode cX7_jammedLocks 18 = .ok (.getfield 107, 3) := by decide +kernel
theorem dX7_jammedLocks_21 : decode cX7_jammedLocks 21 = .ok (.ifCond .eq 9, 3) := by decide +kernel
theorem dX7_jammedLocks_24 : decode cX7_jammedLocks 24 = .ok (.iload_n 1, 1) := by decide +kernel
theorem dX7_jammedLocks_25 : decode cX7_jammedLocks 25 = .ok (.iconst 1, 1) := by decide +kernel
theorem dX7_jammedLocks_26 : decode cX7_jammedLocks 26 = .ok (.iload_n 2, 1) := by decide +kernel
theorem dX7_jammedLocks_27 : decode cX7_jammedLocks 27 = .ok (.ishl, 1) := by decide +kernel
theorem dX7_jammedLocks_28 : decode cX7_jammedLocks 28 = .ok (.ior, 1) := by decide +kernel
theorem dX7_jammedLocks_29 : decode cX7_jammedLocks 29 = .ok (.istore_n 1, 1) := by decide +kernel
theorem dX7_jammedLocks_30 : decode cX7_jammedLocks 30 = .ok (.iinc 2 1, 3) := by decide +kernel
theorem dX7_jammedLocks_33 : decode cX7_jammedLocks 33 = .ok (.goto (-29), 3) := by decide +kernel
theorem dX7_jammedLocks_36 : decode cX7_jammedLocks 36 = .ok (.iload_n 1, 1) := by decide +kernel
theorem dX7_jammedLocks_37 : decode cX7_jammedLocks 37 = .ok (.ireturn, 1) := by decide +kernel
theorem dX7_thoseWhoOpen_0 : decode cX7_thoseWhoOpen 0 = .ok (.aload_n 1, 1) := by decide +kernel
theorem dX7_thoseWhoOpen_1 : decode cX7_thoseWhoOpen 1 = .ok (.getfield 107, 3) := by decide +kernel
theorem dX7_thoseWhoOpen_4 : decode cX7_thoseWhoOpen 4 = .ok (.ifCond .eq 7, 3) := by decide +kernel
theorem dX7_thoseWhoOpen_7 : decode cX7_thoseWhoOpen 7 = .ok (.iconst 0, 1) := by decide +kernel
theorem dX7_thoseWhoOpen_8 : decode cX7_thoseWhoOpen 8 = .ok (.goto 15, 3) := by decide +kernel
theorem dX7_thoseWhoOpen_11 : decode cX7_thoseWhoOpen 11 = .ok (.aload_n 0, 1) := by decide +kernel
theorem dX7_thoseWhoOpen_12 : decode cX7_thoseWhoOpen 12 = .ok (.aload_n 1, 1) := by decide +kernel
theorem dX7_thoseWhoOpen_13 : decode cX7_thoseWhoOpen 13 = .ok (.getfield 127, 3) := by decide +kernel
theorem dX7_thoseWhoOpen_16 : decode cX7_thoseWhoOpen 16 = .ok (.aload_n 1, 1) := by decide +kernel
theorem dX7_thoseWhoOpen_17 : decode cX7_thoseWhoOpen 17 = .ok (.getfield 158, 3) := by decide +kernel
theorem dX7_thoseWhoOpen_20 : decode cX7_thoseWhoOpen 20 = .ok (.invokevirtual 161, 3) := by decide +kernel
theorem dX7_thoseWhoOpen_23 : decode cX7_thoseWhoOpen 23 = .ok (.ireturn, 1) := by decide +kernel
theorem dX7_thoseWhoFeel_0 : decode cX7_thoseWhoFeel 0 = .ok (.iconst 0, 1) := by decide +kernel
theorem dX7_thoseWhoFeel_1 : decode cX7_thoseWhoFeel 1 = .ok (.istore_n 3, 1) := by decide +kernel
theorem dX7_thoseWhoFeel_2 : decode cX7_thoseWhoFeel 2 = .ok (.iconst 0, 1) := by decide +kernel
theorem dX7_thoseWhoFeel_3 : decode cX7_thoseWhoFeel 3 = .ok (.istore 4, 2) := by decide +kernel
theorem dX7_thoseWhoFeel_5 : decode cX7_thoseWhoFeel 5 = .ok (.iload 4, 2) := by decide +kernel
theorem dX7_thoseWhoFeel_7 : decode cX7_thoseWhoFeel 7 = .ok (.aload_n 0, 1) := by decide +kernel
theorem dX7_thoseWhoFeel_8 : decode cX7_thoseWhoFeel 8 = .ok (.getfield 44, 3) := by decide +kernel
theorem dX7_thoseWhoFeel_11 : decode cX7_thoseWhoFeel 11 = .ok (.if_icmp .ge 31, 3) := by decide +kernel
theorem dX7_thoseWhoFeel_14 : decode cX7_thoseWhoFeel 14 = .ok (.aload_n 0, 1) := by decide +kernel
theorem dX7_thoseWhoFeel_15 : decode cX7_thoseWhoFeel 15 = .ok (.getfield 11, 3) := by decide +kernel
theorem dX7_thoseWhoFeel_18 : decode cX7_thoseWhoFeel 18 = .ok (.iload 4, 2) := by decide +kernel
theorem dX7_thoseWhoFeel_20 : decode cX7_thoseWhoFeel 20 = .ok (.aaload, 1) := by decide +kernel
theorem dX7_thoseWhoFeel_21 : decode cX7_thoseWhoFeel 21 = .ok (.iload_n 1, 1) := by decide +kernel
theorem dX7_thoseWhoFeel_22 : decode cX7_thoseWhoFeel 22 = .ok (.invokevirtual 164, 3) := by decide +kernel
theorem dX7_thoseWhoFeel_25 : decode cX7_thoseWhoFeel 25 = .ok (.iload_n 2, 1) := by decide +kernel
theorem dX7_thoseWhoFeel_26 : decode cX7_thoseWhoFeel 26 = .ok (.if_icmp .lt 10, 3) := by decide +kernel
theorem dX7_thoseWhoFeel_29 : decode cX7_thoseWhoFeel 29 = .ok (.iload_n 3, 1) := by decide +kernel
theorem dX7_thoseWhoFeel_30 : decode cX7_thoseWhoFeel 30 = .ok (.iconst 1, 1) := by decide +kernel
theorem dX7_thoseWhoFeel_31 : decode cX7_thoseWhoFeel 31 = .ok (.iload 4, 2) := by decide +kernel
theorem dX7_thoseWhoFeel_33 : decode cX7_thoseWhoFeel 33 = .ok (.ishl, 1) := by decide +kernel
theorem dX7_thoseWhoFeel_34 : decode cX7_thoseWhoFeel 34 = .ok (.ior, 1) := by decide +kernel
theorem dX7_thoseWhoFeel_35 : decode cX7_thoseWhoFeel 35 = .ok (.istore_n 3, 1) := by decide +kernel
theorem dX7_thoseWhoFeel_36 : decode cX7_thoseWhoFeel 36 = .ok (.iinc 4 1, 3) := by decide +kernel
theorem dX7_thoseWhoFeel_39 : decode cX7_thoseWhoFeel 39 = .ok (.goto (-34), 3) := by decide +kernel
theorem dX7_thoseWhoFeel_42 : decode cX7_thoseWhoFeel 42 = .ok (.iload_n 3, 1) := by decide +kernel
theorem dX7_thoseWhoFeel_43 : decode cX7_thoseWhoFeel 43 = .ok (.ireturn, 1) := by decide +kernel
theorem dX8_init_0 : decode cX8_init 0 = .ok (.aload_n 0, 1) := by decide +kernel
theorem dX8_init_1 : decode cX8_init 1 = .ok (.invokespecial 3, 3) := by decide +kernel
theorem dX8_init_4 : decode cX8_init 4 = .ok (.aload_n 0, 1) := by decide +kernel
theorem dX8_init_5 : decode cX8_init 5 = .ok (.bipush 8, 2) := by decide +kernel
theorem dX8_init_7 : decode cX8_init 7 = .ok (.newarray .int, 2) := by decide +kernel
theorem dX8_init_9 : decode cX8_init 9 = .ok (.putfield 9, 3) := by decide +kernel
theorem dX8_init_12 : decode cX8_init 12 = .ok (.aload_n 0, 1) := by decide +kernel
theorem dX8_init_13 : decode cX8_init 13 = .ok (.sipush 729, 3) := by decide +kernel
theorem dX8_init_16 : decode cX8_init 16 = .ok (.newarray .int, 2) := by decide +kernel
theorem dX8_init_18 : decode cX8_init 18 = .ok (.putfield 15, 3) := by decide +kernel
theorem dX8_init_21 : decode cX8_init 21 = .ok (.aload_n 0, 1) := by decide +kernel
theorem dX8_init_22 : decode cX8_init 22 = .ok (.iconst 3, 1) := by decide +kernel
theorem dX8_init_23 : decode cX8_init 23 = .ok (.bipush 9, 2) := by decide +kernel
theorem dX8_init_25 : decode cX8_init 25 = .ok (.multianewarray 18 2, 4) := by decide +kernel
theorem dX8_init_29 : decode cX8_init 29 = .ok (.putfield 20, 3) := by decide +kernel
theorem dX8_init_32 : decode cX8_init 32 = .ok (.aload_n 0, 1) := by decide +kernel
theorem dX8_init_33 : decode cX8_init 33 = .ok (.iconst 3, 1) := by decide +kernel
theorem dX8_init_34 : decode cX8_init 34 = .ok (.newarray .int, 2) := by decide +kernel
theorem dX8_init_36 : decode cX8_init 36 = .ok (.putfield 23, 3) := by decide +kernel
theorem dX8_init_39 : decode cX8_init 39 = .ok (.return_, 1) := by decide +kernel
theorem dX8_find_0 : decode cX8_find 0 = .ok (.aload_n 0, 1) := by decide +kernel
theorem dX8_find_1 : decode cX8_find 1 = .ok (.getfield 9, 3) := by decide +kernel
theorem dX8_find_4 : decode cX8_find 4 = .ok (.ldc 26, 2) := by decide +kernel
theorem dX8_find_6 : decode cX8_find 6 = .ok (.invokestatic 27, 3) := by decide +kernel
theorem dX8_find_9 : decode cX8_find 9 = .ok (.aload_n 0, 1) := by decide +kernel
