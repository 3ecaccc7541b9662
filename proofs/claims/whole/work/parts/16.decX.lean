theorem dX0_init_0 : decode cX0_init 0 = .ok (.aload_n 0, 1) := by decide +kernel
theorem dX0_init_1 : decode cX0_init 1 = .ok (.invokespecial 3, 3) := by decide +kernel
theorem dX0_init_4 : decode cX0_init 4 = .ok (.aload_n 0, 1) := by decide +kernel
theorem dX0_init_5 : decode cX0_init 5 = .ok (.bipush 30, 2) := by decide +kernel
theorem dX0_init_7 : decode cX0_init 7 = .ok (.newarray .int, 2) := by decide +kernel
theorem dX0_init_9 : decode cX0_init 9 = .ok (.putfield 9, 3) := by decide +kernel
theorem dX0_init_12 : decode cX0_init 12 = .ok (.aload_n 0, 1) := by decide +kernel
theorem dX0_init_13 : decode cX0_init 13 = .ok (.iconst 0, 1) := by decide +kernel
theorem dX0_init_14 : decode cX0_init 14 = .ok (.putfield 15, 3) := by decide +kernel
theorem dX0_init_17 : decode cX0_init 17 = .ok (.aload_n 0, 1) := by decide +kernel
theorem dX0_init_18 : decode cX0_init 18 = .ok (.iconst 4, 1) := by decide +kernel
theorem dX0_init_19 : decode cX0_init 19 = .ok (.newarray .int, 2) := by decide +kernel
theorem dX0_init_21 : decode cX0_init 21 = .ok (.putfield 19, 3) := by decide +kernel
theorem dX0_init_24 : decode cX0_init 24 = .ok (.return_, 1) := by decide +kernel
theorem dX0_begin_0 : decode cX0_begin 0 = .ok (.aload_n 0, 1) := by decide +kernel
theorem dX0_begin_1 : decode cX0_begin 1 = .ok (.iconst 0, 1) := by decide +kernel
theorem dX0_begin_2 : decode cX0_begin 2 = .ok (.putfield 15, 3) := by decide +kernel
theorem dX0_begin_5 : decode cX0_begin 5 = .ok (.aload_n 0, 1) := by decide +kernel
theorem dX0_begin_6 : decode cX0_begin 6 = .ok (.getfield 19, 3) := by decide +kernel
theorem dX0_begin_9 : decode cX0_begin 9 = .ok (.iconst 0, 1) := by decide +kernel
theorem dX0_begin_10 : decode cX0_begin 10 = .ok (.invokestatic 22, 3) := by decide +kernel
theorem dX0_begin_13 : decode cX0_begin 13 = .ok (.return_, 1) := by decide +kernel
theorem dX0_copyFrom_0 : decode cX0_copyFrom 0 = .ok (.aload_n 1, 1) := by decide +kernel
theorem dX0_copyFrom_1 : decode cX0_copyFrom 1 = .ok (.getfield 9, 3) := by decide +kernel
theorem dX0_copyFrom_4 : decode cX0_copyFrom 4 = .ok (.iconst 0, 1) := by decide +kernel
theorem dX0_copyFrom_5 : decode cX0_copyFrom 5 = .ok (.aload_n 0, 1) := by decide +kernel
theorem dX0_copyFrom_6 : decode cX0_copyFrom 6 = .ok (.getfield 9, 3) := by decide +kernel
theorem dX0_copyFrom_9 : decode cX0_copyFrom 9 = .ok (.iconst 0, 1) := by decide +kernel
theorem dX0_copyFrom_10 : decode cX0_copyFrom 10 = .ok (.aload_n 0, 1) := by decide +kernel
theorem dX0_copyFrom_11 : decode cX0_copyFrom 11 = .ok (.getfield 9, 3) := by decide +kernel
theorem dX0_copyFrom_14 : decode cX0_copyFrom 14 = .ok (.arraylength, 1) := by decide +kernel
theorem dX0_copyFrom_15 : decode cX0_copyFrom 15 = .ok (.invokestatic 28, 3) := by decide +kernel
theorem dX0_copyFrom_18 : decode cX0_copyFrom 18 = .ok (.aload_n 0, 1) := by decide +kernel
theorem dX0_copyFrom_19 : decode cX0_copyFrom 19 = .ok (.aload_n 1, 1) := by decide +kernel
theorem dX0_copyFrom_20 : decode cX0_copyFrom 20 = .ok (.getfield 15, 3) := by decide +kernel
theorem dX0_copyFrom_23 : decode cX0_copyFrom 23 = .ok (.putfield 15, 3) := by decide +kernel
theorem dX0_copyFrom_26 : decode cX0_copyFrom 26 = .ok (.aload_n 1, 1) := by decide +kernel
theorem dX0_copyFrom_27 : decode cX0_copyFrom 27 = .ok (.getfield 19, 3) := by decide +kernel
theorem dX0_copyFrom_30 : decode cX0_copyFrom 30 = .ok (.iconst 0, 1) := by decide +kernel
theorem dX0_copyFrom_31 : decode cX0_copyFrom 31 = .ok (.aload_n 0, 1) := by decide +kernel
theorem dX0_copyFrom_32 : decode cX0_copyFrom 32 = .ok (.getfield 19, 3) := by decide +kernel
theorem dX0_copyFrom_35 : decode cX0_copyFrom 35 = .ok (.iconst 0, 1) := by decide +kernel
theorem dX0_copyFrom_36 : decode cX0_copyFrom 36 = .ok (.aload_n 0, 1) := by decide +kernel
theorem dX0_copyFrom_37 : decode cX0_copyFrom 37 = .ok (.getfield 19, 3) := by decide +kernel
theorem dX0_copyFrom_40 : decode cX0_copyFrom 40 = .ok (.arraylength, 1) := by decide +kernel
theorem dX0_copyFrom_41 : decode cX0_copyFrom 41 = .ok (.invokestatic 28, 3) := by decide +kernel
theorem dX0_copyFrom_44 : decode cX0_copyFrom 44 = .ok (.return_, 1) := by decide +kernel
theorem dX0_addPlan_0 : decode cX0_addPlan 0 = .ok (.aload_n 0, 1) := by decide +kernel
theorem dX0_addPlan_1 : decode cX0_addPlan 1 = .ok (.getfield 15, 3) := by decide +kernel
theorem dX0_addPlan_4 : decode cX0_addPlan 4 = .ok (.bipush 30, 2) := by decide +kernel
theorem dX0_addPlan_6 : decode cX0_addPlan 6 = .ok (.if_icmp .lt 5, 3) := by decide +kernel
theorem dX0_addPlan_9 : decode cX0_addPlan 9 = .ok (.iconst (-1), 1) := by decide +kernel
theorem dX0_addPlan_10 : decode cX0_addPlan 10 = .ok (.ireturn, 1) := by decide +kernel
theorem dX0_addPlan_11 : decode cX0_addPlan 11 = .ok (.aload_n 0, 1) := by decide +kernel
theorem dX0_addPlan_12 : decode cX0_addPlan 12 = .ok (.getfield 9, 3) := by decide +kernel
theorem dX0_addPlan_15 : decode cX0_addPlan 15 = .ok (.aload_n 0, 1) := by decide +kernel
theorem dX0_addPlan_16 : decode cX0_addPlan 16 = .ok (.getfield 15, 3) := by decide +kernel
theorem dX0_addPlan_19 : decode cX0_addPlan 19 = .ok (.iload_n 1, 1) := by decide +kernel
theorem dX0_addPlan_20 : decode cX0_addPlan 20 = .ok (.iastore, 1) := by decide +kernel
theorem dX0_addPlan_21 : decode cX0_addPlan 21 = .ok (.aload_n 0, 1) := by decide +kernel
theorem dX0_addPlan_22 : decode cX0_addPlan 22 = .ok (.dup, 1) := by decide +kernel
theorem dX0_addPlan_23 : decode cX0_addPlan 23 = .ok (.getfield 15, 3) := by decide +kernel
theorem dX0_addPlan_26 : decode cX0_addPlan 26 = .ok (.iconst 1, 1) := by decide +kernel
theorem dX0_addPlan_27 : decode cX0_addPlan 27 = .ok (.iadd, 1) := by decide +kernel
theorem dX0_addPlan_28 : decode cX0_addPlan 28 = .ok (.putfield 15, 3) := by decide +kernel
theorem dX0_addPlan_31 : decode cX0_addPlan 31 = .ok (.aload_n 0, 1) := by decide +kernel
theorem dX0_addPlan_32 : decode cX0_addPlan 32 = .ok (.getfield 15, 3) := by decide +kernel
theorem dX0_addPlan_35 : decode cX0_addPlan 35 = .ok (.ireturn, 1) := by decide +kernel
theorem dX0_planOf_0 : decode cX0_planOf 0 = .ok (.iload_n 1, 1) := by decide +kernel
theorem dX0_planOf_1 : decode cX0_planOf 1 = .ok (.ifCond .lt 11, 3) := by decide +kernel
theorem dX0_planOf_4 : decode cX0_planOf 4 = .ok (.iload_n 1, 1) := by decide +kernel
theorem dX0_planOf_5 : decode cX0_planOf 5 = .ok (.aload_n 0, 1) := by decide +kernel
theorem dX0_planOf_6 : decode cX0_planOf 6 = .ok (.getfield 15, 3) := by decide +kernel
theorem dX0_planOf_9 : decode cX0_planOf 9 = .ok (.if_icmp .lt 7, 3) := by decide +kernel
theorem dX0_planOf_12 : decode cX0_planOf 12 = .ok (.iconst 0, 1) := by decide +kernel
theorem dX0_planOf_13 : decode cX0_planOf 13 = .ok (.goto 9, 3) := by decide +kernel
theorem dX0_planOf_16 : decode cX0_planOf 16 = .ok (.aload_n 0, 1) := by decide +kernel
theorem dX0_planOf_17 : decode cX0_planOf 17 = .ok (.getfield 9, 3) := by decide +kernel
theorem dX0_planOf_20 : decode cX0_planOf 20 = .ok (.iload_n 1, 1) := by decide +kernel
theorem dX0_planOf_21 : decode cX0_planOf 21 = .ok (.iaload, 1) := by decide +kernel
theorem dX0_planOf_22 : decode cX0_planOf 22 = .ok (.ireturn, 1) := by decide +kernel
theorem dX0_addRecord_0 : decode cX0_addRecord 0 = .ok (.aload_n 0, 1) := by decide +kernel
theorem dX0_addRecord_1 : decode cX0_addRecord 1 = .ok (.invokevirtual 34, 3) := by decide +kernel
theorem dX0_addRecord_4 : decode cX0_addRecord 4 = .ok (.bipush 60, 2) := by decide +kernel
theorem dX0_addRecord_6 : decode cX0_addRecord 6 = .ok (.if_icmp .lt 5, 3) := by decide +kernel
theorem dX0_addRecord_9 : decode cX0_addRecord 9 = .ok (.iconst (-1), 1) := by decide +kernel
theorem dX0_addRecord_10 : decode cX0_addRecord 10 = .ok (.ireturn, 1) := by decide +kernel
theorem dX0_addRecord_11 : decode cX0_addRecord 11 = .ok (.aload_n 0, 1) := by decide +kernel
theorem dX0_addRecord_12 : decode cX0_addRecord 12 = .ok (.getfield 19, 3) := by decide +kernel
theorem dX0_addRecord_15 : decode cX0_addRecord 15 = .ok (.iload_n 1, 1) := by decide +kernel
theorem dX0_addRecord_16 : decode cX0_addRecord 16 = .ok (.iload_n 2, 1) := by decide +kernel
theorem dX0_addRecord_17 : decode cX0_addRecord 17 = .ok (.invokestatic 38, 3) := by decide +kernel
theorem dX0_addRecord_20 : decode cX0_addRecord 20 = .ok (.dup2, 1) := by decide +kernel
theorem dX0_addRecord_21 : decode cX0_addRecord 21 = .ok (.iaload, 1) := by decide +kernel
theorem dX0_addRecord_22 : decode cX0_addRecord 22 = .ok (.iconst 1, 1) := by decide +kernel
theorem dX0_addRecord_23 : decode cX0_addRecord 23 = .ok (.iadd, 1) := by decide +kernel
theorem dX0_addRecord_24 : decode cX0_addRecord 24 = .ok (.iastore, 1) := by decide +kernel
theorem dX0_addRecord_25 : decode cX0_addRecord 25 = .ok (.aload_n 0, 1) := by decide +kernel
theorem dX0_addRecord_26 : decode cX0_addRecord 26 = .ok (.invokevirtual 34, 3) := by decide +kernel
theorem dX0_addRecord_29 : decode cX0_addRecord 29 = .ok (.ireturn, 1) := by decide +kernel
theorem dX0_records_0 : decode cX0_records 0 = .ok (.aload_n 0, 1) := by decide +kernel
theorem dX0_records_1 : decode cX0_records 1 = .ok (.getfield 19, 3) := by decide +kernel
theorem dX0_records_4 : decode cX0_records 4 = .ok (.iconst 0, 1) := by decide +kernel
theorem dX0_records_5 : decode cX0_records 5 = .ok (.iaload, 1) := by decide +kernel
theorem dX0_records_6 : decode cX0_records 6 = .ok (.aload_n 0, 1) := by decide +kernel
theorem dX0_records_7 : decode cX0_records 7 = .ok (.getfield 19, 3) := by decide +kernel
theorem dX0_records_10 : decode cX0_records 10 = .ok (.iconst 1, 1) := by decide +kernel
theorem dX0_records_11 : decode cX0_records 11 = .ok (.iaload, 1) := by decide +kernel
theorem dX0_records_12 : decode cX0_records 12 = .ok (.iadd, 1) := by decide +kernel
theorem dX0_records_13 : decode cX0_records 13 = .ok (.aload_n 0, 1) := by decide +kernel
theorem dX0_records_14 : decode cX0_records 14 = .ok (.getfield 19, 3) := by decide +kernel
theorem dX0_records_17 : decode cX0_records 17 = .ok (.iconst 2, 1) := by decide +kernel
theorem dX0_records_18 : decode cX0_records 18 = .ok (.iaload, 1) := by decide +kernel
theorem dX0_records_19 : decode cX0_records 19 = .ok (.iadd, 1) := by decide +kernel
theorem dX0_records_20 : decode cX0_records 20 = .ok (.aload_n 0, 1) := by decide +kernel
theorem dX0_records_21 : decode cX0_records 21 = .ok (.getfield 19, 3) := by decide +kernel
theorem dX0_records_24 : decode cX0_records 24 = .ok (.iconst 3, 1) := by decide +kernel
theorem dX0_records_25 : decode cX0_records 25 = .ok (.iaload, 1) := by decide +kernel
theorem dX0_records_26 : decode cX0_records 26 = .ok (.iadd, 1) := by decide +kernel
theorem dX0_records_27 : decode cX0_records 27 = .ok (.ireturn, 1) := by decide +kernel
theorem dX0_recordsOf_0 : decode cX0_recordsOf 0 = .ok (.aload_n 0, 1) := by decide +kernel
theorem dX0_recordsOf_1 : decode cX0_recordsOf 1 = .ok (.getfield 19, 3) := by decide +kernel
theorem dX0_recordsOf_4 : decode cX0_recordsOf 4 = .ok (.iload_n 1, 1) := by decide +kernel
theorem dX0_recordsOf_5 : decode cX0_recordsOf 5 = .ok (.iload_n 2, 1) := by decide +kernel
theorem dX0_recordsOf_6 : decode cX0_recordsOf 6 = .ok (.invokestatic 38, 3) := by decide +kernel
theorem dX0_recordsOf_9 : decode cX0_recordsOf 9 = .ok (.iaload, 1) := by decide +kernel
theorem dX0_recordsOf_10 : decode cX0_recordsOf 10 = .ok (.ireturn, 1) := by decide +kernel
theorem dX0_kindOf_0 : decode cX0_kindOf 0 = .ok (.iload_n 0, 1) := by decide +kernel
theorem dX0_kindOf_1 : decode cX0_kindOf 1 = .ok (.ifCond .eq 7, 3) := by decide +kernel
theorem dX0_kindOf_4 : decode cX0_kindOf 4 = .ok (.iconst 2, 1) := by decide +kernel
theorem dX0_kindOf_5 : decode cX0_kindOf 5 = .ok (.goto 4, 3) := by decide +kernel
theorem dX0_kindOf_8 : decode cX0_kindOf 8 = .ok (.iconst 0, 1) := by decide +kernel
theorem dX0_kindOf_9 : decode cX0_kindOf 9 = .ok (.iload_n 1, 1) := by decide +kernel
theorem dX0_kindOf_10 : decode cX0_kindOf 10 = .ok (.ifCond .eq 7, 3) := by decide +kernel
theorem dX0_kindOf_13 : decode cX0_kindOf 13 = .ok (.iconst 1, 1) := by decide +kernel
theorem dX0_kindOf_14 : decode cX0_kindOf 14 = .ok (.goto 4, 3) := by decide +kernel
theorem dX0_kindOf_17 : decode cX0_kindOf 17 = .ok (.iconst 0, 1) := by decide +kernel
theorem dX0_kindOf_18 : decode cX0_kindOf 18 = .ok (.iadd, 1) := by decide +kernel
theorem dX0_kindOf_19 : decode cX0_kindOf 19 = .ok (.ireturn, 1) := by decide +kernel
theorem dX1_init_0 : decode cX1_init 0 = .ok (.aload_n 0, 1) := by decide +kernel
theorem dX1_init_1 : decode cX1_init 1 = .ok (.invokespecial 1, 3) := by decide +kernel
theorem dX1_init_4 : decode cX1_init 4 = .ok (.return_, 1) := by decide +kernel
theorem dX2_init_0 : decode cX2_init 0 = .ok (.aload_n 0, 1) := by decide +kernel
theorem dX2_init_1 : decode cX2_init 1 = .ok (.invokespecial 3, 3) := by decide +kernel
theorem dX2_init_4 : decode cX2_init 4 = .ok (.aload_n 0, 1) := by decide +kernel
theorem dX2_init_5 : decode cX2_init 5 = .ok (.iconst 2, 1) := by decide +kernel
theorem dX2_init_6 : decode cX2_init 6 = .ok (.anewarray 11, 3) := by decide +kernel
theorem dX2_init_9 : decode cX2_init 9 = .ok (.putfield 13, 3) := by decide +kernel
theorem dX2_init_12 : decode cX2_init 12 = .ok (.aload_n 0, 1) := by decide +kernel
theorem dX2_init_13 : decode cX2_init 13 = .ok (.iconst 2, 1) := by decide +kernel
theorem dX2_init_14 : decode cX2_init 14 = .ok (.anewarray 17, 3) := by decide +kernel
theorem dX2_init_17 : decode cX2_init 17 = .ok (.putfield 19, 3) := by decide +kernel
theorem dX2_init_20 : decode cX2_init 20 = .ok (.aload_n 0, 1) := by decide +kernel
theorem dX2_init_21 : decode cX2_init 21 = .ok (.iconst 0, 1) := by decide +kernel
theorem dX2_init_22 : decode cX2_init 22 = .ok (.putfield 23, 3) := by decide +kernel
theorem dX2_init_25 : decode cX2_init 25 = .ok (.aload_n 0, 1) := by decide +kernel
theorem dX2_init_26 : decode cX2_init 26 = .ok (.aload_n 1, 1) := by decide +kernel
theorem dX2_init_27 : decode cX2_init 27 = .ok (.putfield 27, 3) := by decide +kernel
theorem dX2_init_30 : decode cX2_init 30 = .ok (.iconst 0, 1) := by decide +kernel
theorem dX2_init_31 : decode cX2_init 31 = .ok (.istore_n 2, 1) := by decide +kernel
theorem dX2_init_32 : decode cX2_init 32 = .ok (.iload_n 2, 1) := by decide +kernel
theorem dX2_init_33 : decode cX2_init 33 = .ok (.iconst 2, 1) := by decide +kernel
theorem dX2_init_34 : decode cX2_init 34 = .ok (.if_icmp .ge 36, 3) := by decide +kernel
theorem dX2_init_37 : decode cX2_init 37 = .ok (.aload_n 0, 1) := by decide +kernel
theorem dX2_init_38 : decode cX2_init 38 = .ok (.getfield 13, 3) := by decide +kernel
theorem dX2_init_41 : decode cX2_init 41 = .ok (.iload_n 2, 1) := by decide +kernel
theorem dX2_init_42 : decode cX2_init 42 = .ok (.new 11, 3) := by decide +kernel
theorem dX2_init_45 : decode cX2_init 45 = .ok (.dup, 1) := by decide +kernel
theorem dX2_init_46 : decode cX2_init 46 = .ok (.aload_n 1, 1) := by decide +kernel
theorem dX2_init_47 : decode cX2_init 47 = .ok (.invokespecial 31, 3) := by decide +kernel
theorem dX2_init_50 : decode cX2_init 50 = .ok (.aastore, 1) := by decide +kernel
theorem dX2_init_51 : decode cX2_init 51 = .ok (.aload_n 0, 1) := by decide +kernel
theorem dX2_init_52 : decode cX2_init 52 = .ok (.getfield 19, 3) := by decide +kernel
theorem dX2_init_55 : decode cX2_init 55 = .ok (.iload_n 2, 1) := by decide +kernel
theorem dX2_init_56 : decode cX2_init 56 = .ok (.new 17, 3) := by decide +kernel
theorem dX2_init_59 : decode cX2_init 59 = .ok (.dup, 1) := by decide +kernel
theorem dX2_init_60 : decode cX2_init 60 = .ok (.invokespecial 34, 3) := by decide +kernel
theorem dX2_init_63 : decode cX2_init 63 = .ok (.aastore, 1) := by decide +kernel
theorem dX2_init_64 : decode cX2_init 64 = .ok (.iinc 2 1, 3) := by decide +kernel
theorem dX2_init_67 : decode cX2_init 67 = .ok (.goto (-35), 3) := by decide +kernel
theorem dX2_init_70 : decode cX2_init 70 = .ok (.return_, 1) := by decide +kernel
theorem dX2_mostOf_0 : decode cX2_mostOf 0 = .ok (.iload_n 2, 1) := by decide +kernel
theorem dX2_mostOf_1 : decode cX2_mostOf 1 = .ok (.iconst 1, 1) := by decide +kernel
theorem dX2_mostOf_2 : decode cX2_mostOf 2 = .ok (.if_icmp .lt 17, 3) := by decide +kernel
theorem dX2_mostOf_5 : decode cX2_mostOf 5 = .ok (.iload_n 2, 1) := by decide +kernel
theorem dX2_mostOf_6 : decode cX2_mostOf 6 = .ok (.iconst 2, 1) := by decide +kernel
theorem dX2_mostOf_7 : decode cX2_mostOf 7 = .ok (.if_icmp .gt 12, 3) := by decide +kernel
theorem dX2_mostOf_10 : decode cX2_mostOf 10 = .ok (.aload_n 1, 1) := by decide +kernel
theorem dX2_mostOf_11 : decode cX2_mostOf 11 = .ok (.getfield 35, 3) := by decide +kernel
theorem dX2_mostOf_14 : decode cX2_mostOf 14 = .ok (.bipush 30, 2) := by decide +kernel
theorem dX2_mostOf_16 : decode cX2_mostOf 16 = .ok (.if_icmp .lt 5, 3) := by decide +kernel
theorem dX2_mostOf_19 : decode cX2_mostOf 19 = .ok (.lconst 0, 1) := by decide +kernel
theorem dX2_mostOf_20 : decode cX2_mostOf 20 = .ok (.lreturn, 1) := by decide +kernel
theorem dX2_mostOf_21 : decode cX2_mostOf 21 = .ok (.iload_n 2, 1) := by decide +kernel
theorem dX2_mostOf_22 : decode cX2_mostOf 22 = .ok (.iconst 1, 1) := by decide +kernel
theorem dX2_mostOf_23 : decode cX2_mostOf 23 = .ok (.if_icmp .ne 12, 3) := by decide +kernel
theorem dX2_mostOf_26 : decode cX2_mostOf 26 = .ok (.aload_n 1, 1) := by decide +kernel
theorem dX2_mostOf_27 : decode cX2_mostOf 27 = .ok (.invokevirtual 38, 3) := by decide +kernel
theorem dX2_mostOf_30 : decode cX2_mostOf 30 = .ok (.ifCond .ne 5, 3) := by decide +kernel
theorem dX2_mostOf_33 : decode cX2_mostOf 33 = .ok (.lconst 0, 1) := by decide +kernel
theorem dX2_mostOf_34 : decode cX2_mostOf 34 = .ok (.lreturn, 1) := by decide +kernel
theorem dX2_mostOf_35 : decode cX2_mostOf 35 = .ok (.aload_n 1, 1) := by decide +kernel
theorem dX2_mostOf_36 : decode cX2_mostOf 36 = .ok (.iconst 3, 1) := by decide +kernel
theorem dX2_mostOf_37 : decode cX2_mostOf 37 = .ok (.invokevirtual 42, 3) := by decide +kernel
theorem dX2_mostOf_40 : decode cX2_mostOf 40 = .ok (.istore_n 3, 1) := by decide +kernel
theorem dX2_mostOf_41 : decode cX2_mostOf 41 = .ok (.iconst 1, 1) := by decide +kernel
theorem dX2_mostOf_42 : decode cX2_mostOf 42 = .ok (.iload_n 3, 1) := by decide +kernel
theorem dX2_mostOf_43 : decode cX2_mostOf 43 = .ok (.invokestatic 46, 3) := by decide +kernel
theorem dX2_mostOf_46 : decode cX2_mostOf 46 = .ok (.ishl, 1) := by decide +kernel
theorem dX2_mostOf_47 : decode cX2_mostOf 47 = .ok (.istore 4, 2) := by decide +kernel
theorem dX2_mostOf_49 : decode cX2_mostOf 49 = .ok (.iconst 0, 1) := by decide +kernel
theorem dX2_mostOf_50 : decode cX2_mostOf 50 = .ok (.istore 5, 2) := by decide +kernel
theorem dX2_mostOf_52 : decode cX2_mostOf 52 = .ok (.ldc2_w 51, 3) := by decide +kernel
theorem dX2_mostOf_55 : decode cX2_mostOf 55 = .ok (.lstore 6, 2) := by decide +kernel
theorem dX2_mostOf_57 : decode cX2_mostOf 57 = .ok (.iconst 0, 1) := by decide +kernel
theorem dX2_mostOf_58 : decode cX2_mostOf 58 = .ok (.istore 8, 2) := by decide +kernel
theorem dX2_mostOf_60 : decode cX2_mostOf 60 = .ok (.iconst 0, 1) := by decide +kernel
theorem dX2_mostOf_61 : decode cX2_mostOf 61 = .ok (.istore 9, 2) := by decide +kernel
theorem dX2_mostOf_63 : decode cX2_mostOf 63 = .ok (.iload 9, 2) := by decide +kernel
theorem dX2_mostOf_65 : decode cX2_mostOf 65 = .ok (.iload 4, 2) := by decide +kernel
theorem dX2_mostOf_67 : decode cX2_mostOf 67 = .ok (.if_icmp .ge 64, 3) := by decide +kernel
theorem dX2_mostOf_70 : decode cX2_mostOf 70 = .ok (.iload 8, 2) := by decide +kernel
theorem dX2_mostOf_72 : decode cX2_mostOf 72 = .ok (.invokestatic 46, 3) := by decide +kernel
theorem dX2_mostOf_75 : decode cX2_mostOf 75 = .ok (.aload_n 0, 1) := by decide +kernel
theorem dX2_mostOf_76 : decode cX2_mostOf 76 = .ok (.getfield 27, 3) := by decide +kernel
theorem dX2_mostOf_79 : decode cX2_mostOf 79 = .ok (.getfield 53, 3) := by decide +kernel
theorem dX2_mostOf_82 : decode cX2_mostOf 82 = .ok (.if_icmp .gt 14, 3) := by decide +kernel
theorem dX2_mostOf_85 : decode cX2_mostOf 85 = .ok (.aload_n 0, 1) := by decide +kernel
theorem dX2_mostOf_86 : decode cX2_mostOf 86 = .ok (.aload_n 1, 1) := by decide +kernel
theorem dX2_mostOf_87 : decode cX2_mostOf 87 = .ok (.iload 8, 2) := by decide +kernel
theorem dX2_mostOf_89 : decode cX2_mostOf 89 = .ok (.iload_n 2, 1) := by decide +kernel
theorem dX2_mostOf_90 : decode cX2_mostOf 90 = .ok (.invokevirtual 58, 3) := by decide +kernel
theorem dX2_mostOf_93 : decode cX2_mostOf 93 = .ok (.goto 6, 3) := by decide +kernel
theorem dX2_mostOf_96 : decode cX2_mostOf 96 = .ok (.ldc2_w 51, 3) := by decide +kernel
theorem dX2_mostOf_99 : decode cX2_mostOf 99 = .ok (.lstore 10, 2) := by decide +kernel
theorem dX2_mostOf_101 : decode cX2_mostOf 101 = .ok (.lload 10, 2) := by decide +kernel
theorem dX2_mostOf_103 : decode cX2_mostOf 103 = .ok (.lload 6, 2) := by decide +kernel
theorem dX2_mostOf_105 : decode cX2_mostOf 105 = .ok (.lcmp, 1) := by decide +kernel
theorem dX2_mostOf_106 : decode cX2_mostOf 106 = .ok (.ifCond .le 11, 3) := by decide +kernel
theorem dX2_mostOf_109 : decode cX2_mostOf 109 = .ok (.lload 10, 2) := by decide +kernel
theorem dX2_mostOf_111 : decode cX2_mostOf 111 = .ok (.lstore 6, 2) := by decide +kernel
theorem dX2_mostOf_113 : decode cX2_mostOf 113 = .ok (.iload 8, 2) := by decide +kernel
theorem dX2_mostOf_115 : decode cX2_mostOf 115 = .ok (.istore 5, 2) := by decide +kernel
theorem dX2_mostOf_117 : decode cX2_mostOf 117 = .ok (.iload 8, 2) := by decide +kernel
theorem dX2_mostOf_119 : decode cX2_mostOf 119 = .ok (.iload_n 3, 1) := by decide +kernel
theorem dX2_mostOf_120 : decode cX2_mostOf 120 = .ok (.isub, 1) := by decide +kernel
theorem dX2_mostOf_121 : decode cX2_mostOf 121 = .ok (.iload_n 3, 1) := by decide +kernel
theorem dX2_mostOf_122 : decode cX2_mostOf 122 = .ok (.iand, 1) := by decide +kernel
theorem dX2_mostOf_123 : decode cX2_mostOf 123 = .ok (.istore 8, 2) := by decide +kernel
theorem dX2_mostOf_125 : decode cX2_mostOf 125 = .ok (.iinc 9 1, 3) := by decide +kernel
theorem dX2_mostOf_128 : decode cX2_mostOf 128 = .ok (.goto (-65), 3) := by decide +kernel
theorem dX2_mostOf_131 : decode cX2_mostOf 131 = .ok (.aload_n 0, 1) := by decide +kernel
theorem dX2_mostOf_132 : decode cX2_mostOf 132 = .ok (.iload 5, 2) := by decide +kernel
theorem dX2_mostOf_134 : decode cX2_mostOf 134 = .ok (.putfield 23, 3) := by decide +kernel
theorem dX2_mostOf_137 : decode cX2_mostOf 137 = .ok (.lload 6, 2) := by decide +kernel
theorem dX2_mostOf_139 : decode cX2_mostOf 139 = .ok (.lreturn, 1) := by decide +kernel
theorem dX2_sumOf_0 : decode cX2_sumOf 0 = .ok (.iload_n 3, 1) := by decide +kernel
theorem dX2_sumOf_1 : decode cX2_sumOf 1 = .ok (.iconst 1, 1) := by decide +kernel
theorem dX2_sumOf_2 : decode cX2_sumOf 2 = .ok (.if_icmp .lt 17, 3) := by decide +kernel
theorem dX2_sumOf_5 : decode cX2_sumOf 5 = .ok (.iload_n 3, 1) := by decide +kernel
theorem dX2_sumOf_6 : decode cX2_sumOf 6 = .ok (.iconst 2, 1) := by decide +kernel
theorem dX2_sumOf_7 : decode cX2_sumOf 7 = .ok (.if_icmp .gt 12, 3) := by decide +kernel
theorem dX2_sumOf_10 : decode cX2_sumOf 10 = .ok (.aload_n 1, 1) := by decide +kernel
theorem dX2_sumOf_11 : decode cX2_sumOf 11 = .ok (.getfield 35, 3) := by decide +kernel
theorem dX2_sumOf_14 : decode cX2_sumOf 14 = .ok (.bipush 30, 2) := by decide +kernel
theorem dX2_sumOf_16 : decode cX2_sumOf 16 = .ok (.if_icmp .lt 5, 3) := by decide +kernel
theorem dX2_sumOf_19 : decode cX2_sumOf 19 = .ok (.lconst 0, 1) := by decide +kernel
theorem dX2_sumOf_20 : decode cX2_sumOf 20 = .ok (.lreturn, 1) := by decide +kernel
theorem dX2_sumOf_21 : decode cX2_sumOf 21 = .ok (.aload_n 0, 1) := by decide +kernel
theorem dX2_sumOf_22 : decode cX2_sumOf 22 = .ok (.getfield 13, 3) := by decide +kernel
theorem dX2_sumOf_25 : decode cX2_sumOf 25 = .ok (.iload_n 3, 1) := by decide +kernel
theorem dX2_sumOf_26 : decode cX2_sumOf 26 = .ok (.iconst 1, 1) := by decide +kernel
theorem dX2_sumOf_27 : decode cX2_sumOf 27 = .ok (.isub, 1) := by decide +kernel
theorem dX2_sumOf_28 : decode cX2_sumOf 28 = .ok (.aaload, 1) := by decide +kernel
theorem dX2_sumOf_29 : decode cX2_sumOf 29 = .ok (.astore 4, 2) := by decide +kernel
theorem dX2_sumOf_31 : decode cX2_sumOf 31 = .ok (.aload_n 0, 1) := by decide +kernel
theorem dX2_sumOf_32 : decode cX2_sumOf 32 = .ok (.getfield 19, 3) := by decide +kernel
theorem dX2_sumOf_35 : decode cX2_sumOf 35 = .ok (.iload_n 3, 1) := by decide +kernel
theorem dX2_sumOf_36 : decode cX2_sumOf 36 = .ok (.iconst 1, 1) := by decide +kernel
theorem dX2_sumOf_37 : decode cX2_sumOf 37 = .ok (.isub, 1) := by decide +kernel
theorem dX2_sumOf_38 : decode cX2_sumOf 38 = .ok (.aaload, 1) := by decide +kernel
theorem dX2_sumOf_39 : decode cX2_sumOf 39 = .ok (.astore 5, 2) := by decide +kernel
theorem dX2_sumOf_41 : decode cX2_sumOf 41 = .ok (.lconst 0, 1) := by decide +kernel
theorem dX2_sumOf_42 : decode cX2_sumOf 42 = .ok (.lstore 6, 2) := by decide +kernel
theorem dX2_sumOf_44 : decode cX2_sumOf 44 = .ok (.iconst 0, 1) := by decide +kernel
theorem dX2_sumOf_45 : decode cX2_sumOf 45 = .ok (.istore 8, 2) := by decide +kernel
theorem dX2_sumOf_47 : decode cX2_sumOf 47 = .ok (.iconst 0, 1) := by decide +kernel
theorem dX2_sumOf_48 : decode cX2_sumOf 48 = .ok (.istore 9, 2) := by decide +kernel
theorem dX2_sumOf_50 : decode cX2_sumOf 50 = .ok (.iload 9, 2) := by decide +kernel
theorem dX2_sumOf_52 : decode cX2_sumOf 52 = .ok (.bipush 10, 2) := by decide +kernel
theorem dX2_sumOf_54 : decode cX2_sumOf 54 = .ok (.if_icmp .ge 171, 3) := by decide +kernel
theorem dX2_sumOf_57 : decode cX2_sumOf 57 = .ok (.iload 8, 2) := by decide +kernel
theorem dX2_sumOf_59 : decode cX2_sumOf 59 = .ok (.aload_n 0, 1) := by decide +kernel
theorem dX2_sumOf_60 : decode cX2_sumOf 60 = .ok (.getfield 27, 3) := by decide +kernel
theorem dX2_sumOf_63 : decode cX2_sumOf 63 = .ok (.getfield 62, 3) := by decide +kernel
theorem dX2_sumOf_66 : decode cX2_sumOf 66 = .ok (.aload_n 1, 1) := by decide +kernel
theorem dX2_sumOf_67 : decode cX2_sumOf 67 = .ok (.getfield 35, 3) := by decide +kernel
theorem dX2_sumOf_70 : decode cX2_sumOf 70 = .ok (.bipush 10, 2) := by decide +kernel
theorem dX2_sumOf_72 : decode cX2_sumOf 72 = .ok (.imul, 1) := by decide +kernel
theorem dX2_sumOf_73 : decode cX2_sumOf 73 = .ok (.iload 9, 2) := by decide +kernel
theorem dX2_sumOf_75 : decode cX2_sumOf 75 = .ok (.iadd, 1) := by decide +kernel
theorem dX2_sumOf_76 : decode cX2_sumOf 76 = .ok (.iaload, 1) := by decide +kernel
theorem dX2_sumOf_77 : decode cX2_sumOf 77 = .ok (.iadd, 1) := by decide +kernel
theorem dX2_sumOf_78 : decode cX2_sumOf 78 = .ok (.istore 8, 2) := by decide +kernel
theorem dX2_sumOf_80 : decode cX2_sumOf 80 = .ok (.iload 8, 2) := by decide +kernel
theorem dX2_sumOf_82 : decode cX2_sumOf 82 = .ok (.ifCond .eq 137, 3) := by decide +kernel
theorem dX2_sumOf_85 : decode cX2_sumOf 85 = .ok (.iload 9, 2) := by decide +kernel
theorem dX2_sumOf_87 : decode cX2_sumOf 87 = .ok (.bipush 9, 2) := by decide +kernel
theorem dX2_sumOf_89 : decode cX2_sumOf 89 = .ok (.if_icmp .ge 20, 3) := by decide +kernel
theorem dX2_sumOf_92 : decode cX2_sumOf 92 = .ok (.aload_n 1, 1) := by decide +kernel
theorem dX2_sumOf_93 : decode cX2_sumOf 93 = .ok (.iload_n 2, 1) := by decide +kernel
theorem dX2_sumOf_94 : decode cX2_sumOf 94 = .ok (.iload 9, 2) := by decide +kernel
theorem dX2_sumOf_96 : decode cX2_sumOf 96 = .ok (.iload 9, 2) := by decide +kernel
theorem dX2_sumOf_98 : decode cX2_sumOf 98 = .ok (.iconst 1, 1) := by decide +kernel
theorem dX2_sumOf_99 : decode cX2_sumOf 99 = .ok (.iadd, 1) := by decide +kernel
theorem dX2_sumOf_100 : decode cX2_sumOf 100 = .ok (.invokevirtual 66, 3) := by decide +kernel
theorem dX2_sumOf_103 : decode cX2_sumOf 103 = .ok (.ifCond .eq 6, 3) := by decide +kernel
theorem dX2_sumOf_106 : decode cX2_sumOf 106 = .ok (.goto 113, 3) := by decide +kernel
theorem dX2_sumOf_109 : decode cX2_sumOf 109 = .ok (.aload 5, 2) := by decide +kernel
theorem dX2_sumOf_111 : decode cX2_sumOf 111 = .ok (.invokevirtual 70, 3) := by decide +kernel
theorem dX2_sumOf_114 : decode cX2_sumOf 114 = .ok (.iconst 1, 1) := by decide +kernel
theorem dX2_sumOf_115 : decode cX2_sumOf 115 = .ok (.istore 10, 2) := by decide +kernel
theorem dX2_sumOf_117 : decode cX2_sumOf 117 = .ok (.iconst 0, 1) := by decide +kernel
theorem dX2_sumOf_118 : decode cX2_sumOf 118 = .ok (.istore 11, 2) := by decide +kernel
theorem dX2_sumOf_120 : decode cX2_sumOf 120 = .ok (.iload 11, 2) := by decide +kernel
theorem dX2_sumOf_122 : decode cX2_sumOf 122 = .ok (.sipush 4096, 3) := by decide +kernel
theorem dX2_sumOf_125 : decode cX2_sumOf 125 = .ok (.if_icmp .ge 91, 3) := by decide +kernel
theorem dX2_sumOf_128 : decode cX2_sumOf 128 = .ok (.iload 10, 2) := by decide +kernel
theorem dX2_sumOf_130 : decode cX2_sumOf 130 = .ok (.ifCond .eq 86, 3) := by decide +kernel
theorem dX2_sumOf_133 : decode cX2_sumOf 133 = .ok (.aload 4, 2) := by decide +kernel
theorem dX2_sumOf_135 : decode cX2_sumOf 135 = .ok (.aload_n 1, 1) := by decide +kernel
theorem dX2_sumOf_136 : decode cX2_sumOf 136 = .ok (.invokevirtual 73, 3) := by decide +kernel
theorem dX2_sumOf_139 : decode cX2_sumOf 139 = .ok (.aload 4, 2) := by decide +kernel
theorem dX2_sumOf_141 : decode cX2_sumOf 141 = .ok (.iload_n 2, 1) := by decide +kernel
theorem dX2_sumOf_142 : decode cX2_sumOf 142 = .ok (.iload 9, 2) := by decide +kernel
theorem dX2_sumOf_144 : decode cX2_sumOf 144 = .ok (.aload 5, 2) := by decide +kernel
theorem dX2_sumOf_146 : decode cX2_sumOf 146 = .ok (.invokevirtual 77, 3) := by decide +kernel
theorem dX2_sumOf_149 : decode cX2_sumOf 149 = .ok (.pop, 1) := by decide +kernel
theorem dX2_sumOf_150 : decode cX2_sumOf 150 = .ok (.aload 4, 2) := by decide +kernel
theorem dX2_sumOf_152 : decode cX2_sumOf 152 = .ok (.getfield 81, 3) := by decide +kernel
theorem dX2_sumOf_155 : decode cX2_sumOf 155 = .ok (.aload_n 1, 1) := by decide +kernel
theorem dX2_sumOf_156 : decode cX2_sumOf 156 = .ok (.getfield 81, 3) := by decide +kernel
theorem dX2_sumOf_159 : decode cX2_sumOf 159 = .ok (.isub, 1) := by decide +kernel
theorem dX2_sumOf_160 : decode cX2_sumOf 160 = .ok (.i2l, 1) := by decide +kernel
theorem dX2_sumOf_161 : decode cX2_sumOf 161 = .ok (.lstore 12, 2) := by decide +kernel
theorem dX2_sumOf_163 : decode cX2_sumOf 163 = .ok (.iload_n 3, 1) := by decide +kernel
theorem dX2_sumOf_164 : decode cX2_sumOf 164 = .ok (.iconst 1, 1) := by decide +kernel
theorem dX2_sumOf_165 : decode cX2_sumOf 165 = .ok (.if_icmp .le 21, 3) := by decide +kernel
theorem dX2_sumOf_168 : decode cX2_sumOf 168 = .ok (.lload 12, 2) := by decide +kernel
theorem dX2_sumOf_170 : decode cX2_sumOf 170 = .ok (.ldc2_w 84, 3) := by decide +kernel
theorem dX2_sumOf_173 : decode cX2_sumOf 173 = .ok (.lmul, 1) := by decide +kernel
theorem dX2_sumOf_174 : decode cX2_sumOf 174 = .ok (.aload_n 0, 1) := by decide +kernel
theorem dX2_sumOf_175 : decode cX2_sumOf 175 = .ok (.aload 4, 2) := by decide +kernel
theorem dX2_sumOf_177 : decode cX2_sumOf 177 = .ok (.iload_n 3, 1) := by decide +kernel
theorem dX2_sumOf_178 : decode cX2_sumOf 178 = .ok (.iconst 1, 1) := by decide +kernel
theorem dX2_sumOf_179 : decode cX2_sumOf 179 = .ok (.isub, 1) := by decide +kernel
theorem dX2_sumOf_180 : decode cX2_sumOf 180 = .ok (.invokevirtual 86, 3) := by decide +kernel
theorem dX2_sumOf_183 : decode cX2_sumOf 183 = .ok (.ladd, 1) := by decide +kernel
theorem dX2_sumOf_184 : decode cX2_sumOf 184 = .ok (.lstore 12, 2) := by decide +kernel
theorem dX2_sumOf_186 : decode cX2_sumOf 186 = .ok (.lload 6, 2) := by decide +kernel
theorem dX2_sumOf_188 : decode cX2_sumOf 188 = .ok (.iload 8, 2) := by decide +kernel
theorem dX2_sumOf_190 : decode cX2_sumOf 190 = .ok (.i2l, 1) := by decide +kernel
theorem dX2_sumOf_191 : decode cX2_sumOf 191 = .ok (.aload 5, 2) := by decide +kernel
theorem dX2_sumOf_193 : decode cX2_sumOf 193 = .ok (.invokevirtual 90, 3) := by decide +kernel
theorem dX2_sumOf_196 : decode cX2_sumOf 196 = .ok (.lmul, 1) := by decide +kernel
theorem dX2_sumOf_197 : decode cX2_sumOf 197 = .ok (.lload 12, 2) := by decide +kernel
theorem dX2_sumOf_199 : decode cX2_sumOf 199 = .ok (.lmul, 1) := by decide +kernel
theorem dX2_sumOf_200 : decode cX2_sumOf 200 = .ok (.ladd, 1) := by decide +kernel
theorem dX2_sumOf_201 : decode cX2_sumOf 201 = .ok (.lstore 6, 2) := by decide +kernel
theorem dX2_sumOf_203 : decode cX2_sumOf 203 = .ok (.aload 5, 2) := by decide +kernel
theorem dX2_sumOf_205 : decode cX2_sumOf 205 = .ok (.invokevirtual 94, 3) := by decide +kernel
theorem dX2_sumOf_208 : decode cX2_sumOf 208 = .ok (.istore 10, 2) := by decide +kernel
theorem dX2_sumOf_210 : decode cX2_sumOf 210 = .ok (.iinc 11 1, 3) := by decide +kernel
theorem dX2_sumOf_213 : decode cX2_sumOf 213 = .ok (.goto (-93), 3) := by decide +kernel
theorem dX2_sumOf_216 : decode cX2_sumOf 216 = .ok (.iconst 0, 1) := by decide +kernel
theorem dX2_sumOf_217 : decode cX2_sumOf 217 = .ok (.istore 8, 2) := by decide +kernel
theorem dX2_sumOf_219 : decode cX2_sumOf 219 = .ok (.iinc 9 1, 3) := by decide +kernel
theorem dX2_sumOf_222 : decode cX2_sumOf 222 = .ok (.goto (-172), 3) := by decide +kernel
theorem dX2_sumOf_225 : decode cX2_sumOf 225 = .ok (.lload 6, 2) := by decide +kernel
theorem dX2_sumOf_227 : decode cX2_sumOf 227 = .ok (.lreturn, 1) := by decide +kernel
theorem dX3_init_0 : decode cX3_init 0 = .ok (.aload_n 0, 1) := by decide +kernel
theorem dX3_init_1 : decode cX3_init 1 = .ok (.invokespecial 3, 3) := by decide +kernel
theorem dX3_init_4 : decode cX3_init 4 = .ok (.aload_n 0, 1) := by decide +kernel
theorem dX3_init_5 : decode cX3_init 5 = .ok (.bipush 18, 2) := by decide +kernel
theorem dX3_init_7 : decode cX3_init 7 = .ok (.newarray .int, 2) := by decide +kernel
theorem dX3_init_9 : decode cX3_init 9 = .ok (.putfield 9, 3) := by decide +kernel
theorem dX3_init_12 : decode cX3_init 12 = .ok (.aload_n 0, 1) := by decide +kernel
theorem dX3_init_13 : decode cX3_init 13 = .ok (.bipush 60, 2) := by decide +kernel
theorem dX3_init_15 : decode cX3_init 15 = .ok (.newarray .int, 2) := by decide +kernel
theorem dX3_init_17 : decode cX3_init 17 = .ok (.putfield 15, 3) := by decide +kernel
theorem dX3_init_20 : decode cX3_init 20 = .ok (.aload_n 0, 1) := by decide +kernel
theorem dX3_init_21 : decode cX3_init 21 = .ok (.bipush 30, 2) := by decide +kernel
theorem dX3_init_23 : decode cX3_init 23 = .ok (.newarray .int, 2) := by decide +kernel
theorem dX3_init_25 : decode cX3_init 25 = .ok (.putfield 18, 3) := by decide +kernel
theorem dX3_init_28 : decode cX3_init 28 = .ok (.aload_n 0, 1) := by decide +kernel
theorem dX3_init_29 : decode cX3_init 29 = .ok (.bipush 72, 2) := by decide +kernel
theorem dX3_init_31 : decode cX3_init 31 = .ok (.newarray .int, 2) := by decide +kernel
theorem dX3_init_33 : decode cX3_init 33 = .ok (.putfield 21, 3) := by decide +kernel
theorem dX3_init_36 : decode cX3_init 36 = .ok (.aload_n 0, 1) := by decide +kernel
theorem dX3_init_37 : decode cX3_init 37 = .ok (.sipush 300, 3) := by decide +kernel
theorem dX3_init_40 : decode cX3_init 40 = .ok (.newarray .int, 2) := by decide +kernel
theorem dX3_init_42 : decode cX3_init 42 = .ok (.putfield 24, 3) := by decide +kernel
theorem dX3_init_45 : decode cX3_init 45 = .ok (.aload_n 0, 1) := by decide +kernel
theorem dX3_init_46 : decode cX3_init 46 = .ok (.invokevirtual 27, 3) := by decide +kernel
theorem dX3_init_49 : decode cX3_init 49 = .ok (.return_, 1) := by decide +kernel
theorem dX3_begin_0 : decode cX3_begin 0 = .ok (.aload_n 0, 1) := by decide +kernel
theorem dX3_begin_1 : decode cX3_begin 1 = .ok (.iconst 0, 1) := by decide +kernel
theorem dX3_begin_2 : decode cX3_begin 2 = .ok (.putfield 30, 3) := by decide +kernel
theorem dX3_begin_5 : decode cX3_begin 5 = .ok (.aload_n 0, 1) := by decide +kernel
theorem dX3_begin_6 : decode cX3_begin 6 = .ok (.iconst 0, 1) := by decide +kernel
theorem dX3_begin_7 : decode cX3_begin 7 = .ok (.putfield 34, 3) := by decide +kernel
theorem dX3_begin_10 : decode cX3_begin 10 = .ok (.aload_n 0, 1) := by decide +kernel
theorem dX3_begin_11 : decode cX3_begin 11 = .ok (.iconst 0, 1) := by decide +kernel
theorem dX3_begin_12 : decode cX3_begin 12 = .ok (.putfield 37, 3) := by decide +kernel
theorem dX3_begin_15 : decode cX3_begin 15 = .ok (.aload_n 0, 1) := by decide +kernel
theorem dX3_begin_16 : decode cX3_begin 16 = .ok (.iconst 0, 1) := by decide +kernel
theorem dX3_begin_17 : decode cX3_begin 17 = .ok (.putfield 40, 3) := by decide +kernel
theorem dX3_begin_20 : decode cX3_begin 20 = .ok (.aload_n 0, 1) := by decide +kernel
theorem dX3_begin_21 : decode cX3_begin 21 = .ok (.bipush 12, 2) := by decide +kernel
theorem dX3_begin_23 : decode cX3_begin 23 = .ok (.putfield 43, 3) := by decide +kernel
theorem dX3_begin_26 : decode cX3_begin 26 = .ok (.aload_n 0, 1) := by decide +kernel
theorem dX3_begin_27 : decode cX3_begin 27 = .ok (.bipush 9, 2) := by decide +kernel
theorem dX3_begin_29 : decode cX3_begin 29 = .ok (.putfield 46, 3) := by decide +kernel
theorem dX3_begin_32 : decode cX3_begin 32 = .ok (.aload_n 0, 1) := by decide +kernel
theorem dX3_begin_33 : decode cX3_begin 33 = .ok (.bipush 30, 2) := by decide +kernel
theorem dX3_begin_35 : decode cX3_begin 35 = .ok (.putfield 49, 3) := by decide +kernel
theorem dX3_begin_38 : decode cX3_begin 38 = .ok (.aload_n 0, 1) := by decide +kernel
theorem dX3_begin_39 : decode cX3_begin 39 = .ok (.getfield 24, 3) := by decide +kernel
theorem dX3_begin_42 : decode cX3_begin 42 = .ok (.iconst 0, 1) := by decide +kernel
theorem dX3_begin_43 : decode cX3_begin 43 = .ok (.invokestatic 52, 3) := by decide +kernel
theorem dX3_begin_46 : decode cX3_begin 46 = .ok (.iconst 0, 1) := by decide +kernel
theorem dX3_begin_47 : decode cX3_begin 47 = .ok (.istore_n 1, 1) := by decide +kernel
theorem dX3_begin_48 : decode cX3_begin 48 = .ok (.iload_n 1, 1) := by decide +kernel
theorem dX3_begin_49 : decode cX3_begin 49 = .ok (.bipush 30, 2) := by decide +kernel
theorem dX3_begin_51 : decode cX3_begin 51 = .ok (.if_icmp .ge 20, 3) := by decide +kernel
theorem dX3_begin_54 : decode cX3_begin 54 = .ok (.aload_n 0, 1) := by decide +kernel
theorem dX3_begin_55 : decode cX3_begin 55 = .ok (.getfield 24, 3) := by decide +kernel
theorem dX3_begin_58 : decode cX3_begin 58 = .ok (.iload_n 1, 1) := by decide +kernel
theorem dX3_begin_59 : decode cX3_begin 59 = .ok (.bipush 10, 2) := by decide +kernel
theorem dX3_begin_61 : decode cX3_begin 61 = .ok (.imul, 1) := by decide +kernel
theorem dX3_begin_62 : decode cX3_begin 62 = .ok (.bipush 8, 2) := by decide +kernel
theorem dX3_begin_64 : decode cX3_begin 64 = .ok (.iastore, 1) := by decide +kernel
theorem dX3_begin_65 : decode cX3_begin 65 = .ok (.iinc 1 1, 3) := by decide +kernel
theorem dX3_begin_68 : decode cX3_begin 68 = .ok (.goto (-20), 3) := by decide +kernel
theorem dX3_begin_71 : decode cX3_begin 71 = .ok (.return_, 1) := by decide +kernel
theorem dX3_copyFrom_0 : decode cX3_copyFrom 0 = .ok (.aload_n 1, 1) := by decide +kernel
theorem dX3_copyFrom_1 : decode cX3_copyFrom 1 = .ok (.getfield 9, 3) := by decide +kernel
theorem dX3_copyFrom_4 : decode cX3_copyFrom 4 = .ok (.iconst 0, 1) := by decide +kernel
theorem dX3_copyFrom_5 : decode cX3_copyFrom 5 = .ok (.aload_n 0, 1) := by decide +kernel
theorem dX3_copyFrom_6 : decode cX3_copyFrom 6 = .ok (.getfield 9, 3) := by decide +kernel
theorem dX3_copyFrom_9 : decode cX3_copyFrom 9 = .ok (.iconst 0, 1) := by decide +kernel
theorem dX3_copyFrom_10 : decode cX3_copyFrom 10 = .ok (.aload_n 0, 1) := by decide +kernel
theorem dX3_copyFrom_11 : decode cX3_copyFrom 11 = .ok (.getfield 9, 3) := by decide +kernel
theorem dX3_copyFrom_14 : decode cX3_copyFrom 14 = .ok (.arraylength, 1) := by decide +kernel
theorem dX3_copyFrom_15 : decode cX3_copyFrom 15 = .ok (.invokestatic 58, 3) := by decide +kernel
theorem dX3_copyFrom_18 : decode cX3_copyFrom 18 = .ok (.aload_n 1, 1) := by decide +kernel
theorem dX3_copyFrom_19 : decode cX3_copyFrom 19 = .ok (.getfield 15, 3) := by decide +kernel
theorem dX3_copyFrom_22 : decode cX3_copyFrom 22 = .ok (.iconst 0, 1) := by decide +kernel
theorem dX3_copyFrom_23 : decode cX3_copyFrom 23 = .ok (.aload_n 0, 1) := by decide +kernel
theorem dX3_copyFrom_24 : decode cX3_copyFrom 24 = .ok (.getfield 15, 3) := by decide +kernel
theorem dX3_copyFrom_27 : decode cX3_copyFrom 27 = .ok (.iconst 0, 1) := by decide +kernel
theorem dX3_copyFrom_28 : decode cX3_copyFrom 28 = .ok (.aload_n 0, 1) := by decide +kernel
theorem dX3_copyFrom_29 : decode cX3_copyFrom 29 = .ok (.getfield 15, 3) := by decide +kernel
theorem dX3_copyFrom_32 : decode cX3_copyFrom 32 = .ok (.arraylength, 1) := by decide +kernel
theorem dX3_copyFrom_33 : decode cX3_copyFrom 33 = .ok (.invokestatic 58, 3) := by decide +kernel
theorem dX3_copyFrom_36 : decode cX3_copyFrom 36 = .ok (.aload_n 1, 1) := by decide +kernel
theorem dX3_copyFrom_37 : decode cX3_copyFrom 37 = .ok (.getfield 18, 3) := by decide +kernel
theorem dX3_copyFrom_40 : decode cX3_copyFrom 40 = .ok (.iconst 0, 1) := by decide +kernel
theorem dX3_copyFrom_41 : decode cX3_copyFrom 41 = .ok (.aload_n 0, 1) := by decide +kernel
theorem dX3_copyFrom_42 : decode cX3_copyFrom 42 = .ok (.getfield 18, 3) := by decide +kernel
theorem dX3_copyFrom_45 : decode cX3_copyFrom 45 = .ok (.iconst 0, 1) := by decide +kernel
theorem dX3_copyFrom_46 : decode cX3_copyFrom 46 = .ok (.aload_n 0, 1) := by decide +kernel
theorem dX3_copyFrom_47 : decode cX3_copyFrom 47 = .ok (.getfield 18, 3) := by decide +kernel
theorem dX3_copyFrom_50 : decode cX3_copyFrom 50 = .ok (.arraylength, 1) := by decide +kernel
theorem dX3_copyFrom_51 : decode cX3_copyFrom 51 = .ok (.invokestatic 58, 3) := by decide +kernel
theorem dX3_copyFrom_54 : decode cX3_copyFrom 54 = .ok (.aload_n 1, 1) := by decide +kernel
theorem dX3_copyFrom_55 : decode cX3_copyFrom 55 = .ok (.getfield 21, 3) := by decide +kernel
theorem dX3_copyFrom_58 : decode cX3_copyFrom 58 = .ok (.iconst 0, 1) := by decide +kernel
theorem dX3_copyFrom_59 : decode cX3_copyFrom 59 = .ok (.aload_n 0, 1) := by decide +kernel
theorem dX3_copyFrom_60 : decode cX3_copyFrom 60 = .ok (.getfield 21, 3) := by decide +kernel
theorem dX3_copyFrom_63 : decode cX3_copyFrom 63 = .ok (.iconst 0, 1) := by decide +kernel
theorem dX3_copyFrom_64 : decode cX3_copyFrom 64 = .ok (.aload_n 0, 1) := by decide +kernel
theorem dX3_copyFrom_65 : decode cX3_copyFrom 65 = .ok (.getfield 21, 3) := by decide +kernel
theorem dX3_copyFrom_68 : decode cX3_copyFrom 68 = .ok (.arraylength, 1) := by decide +kernel
theorem dX3_copyFrom_69 : decode cX3_copyFrom 69 = .ok (.invokestatic 58, 3) := by decide +kernel
theorem dX3_copyFrom_72 : decode cX3_copyFrom 72 = .ok (.aload_n 1, 1) := by decide +kernel
theorem dX3_copyFrom_73 : decode cX3_copyFrom 73 = .ok (.getfield 24, 3) := by decide +kernel
theorem dX3_copyFrom_76 : decode cX3_copyFrom 76 = .ok (.iconst 0, 1) := by decide +kernel
theorem dX3_copyFrom_77 : decode cX3_copyFrom 77 = .ok (.aload_n 0, 1) := by decide +kernel
theorem dX3_copyFrom_78 : decode cX3_copyFrom 78 = .ok (.getfield 24, 3) := by decide +kernel
theorem dX3_copyFrom_81 : decode cX3_copyFrom 81 = .ok (.iconst 0, 1) := by decide +kernel
theorem dX3_copyFrom_82 : decode cX3_copyFrom 82 = .ok (.aload_n 0, 1) := by decide +kernel
theorem dX3_copyFrom_83 : decode cX3_copyFrom 83 = .ok (.getfield 24, 3) := by decide +kernel
theorem dX3_copyFrom_86 : decode cX3_copyFrom 86 = .ok (.arraylength, 1) := by decide +kernel
theorem dX3_copyFrom_87 : decode cX3_copyFrom 87 = .ok (.invokestatic 58, 3) := by decide +kernel
theorem dX3_copyFrom_90 : decode cX3_copyFrom 90 = .ok (.aload_n 0, 1) := by decide +kernel
theorem dX3_copyFrom_91 : decode cX3_copyFrom 91 = .ok (.aload_n 1, 1) := by decide +kernel
theorem dX3_copyFrom_92 : decode cX3_copyFrom 92 = .ok (.getfield 30, 3) := by decide +kernel
theorem dX3_copyFrom_95 : decode cX3_copyFrom 95 = .ok (.putfield 30, 3) := by decide +kernel
theorem dX3_copyFrom_98 : decode cX3_copyFrom 98 = .ok (.aload_n 0, 1) := by decide +kernel
theorem dX3_copyFrom_99 : decode cX3_copyFrom 99 = .ok (.aload_n 1, 1) := by decide +kernel
theorem dX3_copyFrom_100 : decode cX3_copyFrom 100 = .ok (.getfield 34, 3) := by decide +kernel
theorem dX3_copyFrom_103 : decode cX3_copyFrom 103 = .ok (.putfield 34, 3) := by decide +kernel
theorem dX3_copyFrom_106 : decode cX3_copyFrom 106 = .ok (.aload_n 0, 1) := by decide +kernel
theorem dX3_copyFrom_107 : decode cX3_copyFrom 107 = .ok (.aload_n 1, 1) := by decide +kernel
theorem dX3_copyFrom_108 : decode cX3_copyFrom 108 = .ok (.getfield 37, 3) := by decide +kernel
theorem dX3_copyFrom_111 : decode cX3_copyFrom 111 = .ok (.putfield 37, 3) := by decide +kernel
theorem dX3_copyFrom_114 : decode cX3_copyFrom 114 = .ok (.aload_n 0, 1) := by decide +kernel
theorem dX3_copyFrom_115 : decode cX3_copyFrom 115 = .ok (.aload_n 1, 1) := by decide +kernel
theorem dX3_copyFrom_116 : decode cX3_copyFrom 116 = .ok (.getfield 40, 3) := by decide +kernel
theorem dX3_copyFrom_119 : decode cX3_copyFrom 119 = .ok (.putfield 40, 3) := by decide +kernel
theorem dX3_copyFrom_122 : decode cX3_copyFrom 122 = .ok (.aload_n 0, 1) := by decide +kernel
theorem dX3_copyFrom_123 : decode cX3_copyFrom 123 = .ok (.aload_n 1, 1) := by decide +kernel
theorem dX3_copyFrom_124 : decode cX3_copyFrom 124 = .ok (.getfield 43, 3) := by decide +kernel
theorem dX3_copyFrom_127 : decode cX3_copyFrom 127 = .ok (.putfield 43, 3) := by decide +kernel
theorem dX3_copyFrom_130 : decode cX3_copyFrom 130 = .ok (.aload_n 0, 1) := by decide +kernel
theorem dX3_copyFrom_131 : decode cX3_copyFrom 131 = .ok (.aload_n 1, 1) := by decide +kernel
theorem dX3_copyFrom_132 : decode cX3_copyFrom 132 = .ok (.getfield 46, 3) := by decide +kernel
theorem dX3_copyFrom_135 : decode cX3_copyFrom 135 = .ok (.putfield 46, 3) := by decide +kernel
theorem dX3_copyFrom_138 : decode cX3_copyFrom 138 = .ok (.aload_n 0, 1) := by decide +kernel
theorem dX3_copyFrom_139 : decode cX3_copyFrom 139 = .ok (.aload_n 1, 1) := by decide +kernel
theorem dX3_copyFrom_140 : decode cX3_copyFrom 140 = .ok (.getfield 49, 3) := by decide +kernel
theorem dX3_copyFrom_143 : decode cX3_copyFrom 143 = .ok (.putfield 49, 3) := by decide +kernel
theorem dX3_copyFrom_146 : decode cX3_copyFrom 146 = .ok (.return_, 1) := by decide +kernel
theorem dX3_addBlock_0 : decode cX3_addBlock 0 = .ok (.aload_n 0, 1) := by decide +kernel
theorem dX3_addBlock_1 : decode cX3_addBlock 1 = .ok (.getfield 30, 3) := by decide +kernel
theorem dX3_addBlock_4 : decode cX3_addBlock 4 = .ok (.bipush 6, 2) := by decide +kernel
theorem dX3_addBlock_6 : decode cX3_addBlock 6 = .ok (.if_icmp .ge 51, 3) := by decide +kernel
theorem dX3_addBlock_9 : decode cX3_addBlock 9 = .ok (.aload_n 0, 1) := by decide +kernel
theorem dX3_addBlock_10 : decode cX3_addBlock 10 = .ok (.getfield 30, 3) := by decide +kernel
theorem dX3_addBlock_13 : decode cX3_addBlock 13 = .ok (.iconst 3, 1) := by decide +kernel
theorem dX3_addBlock_14 : decode cX3_addBlock 14 = .ok (.imul, 1) := by decide +kernel
theorem dX3_addBlock_15 : decode cX3_addBlock 15 = .ok (.istore 4, 2) := by decide +kernel
theorem dX3_addBlock_17 : decode cX3_addBlock 17 = .ok (.aload_n 0, 1) := by decide +kernel
theorem dX3_addBlock_18 : decode cX3_addBlock 18 = .ok (.getfield 9, 3) := by decide +kernel
theorem dX3_addBlock_21 : decode cX3_addBlock 21 = .ok (.iload 4, 2) := by decide +kernel
theorem dX3_addBlock_23 : decode cX3_addBlock 23 = .ok (.iconst 0, 1) := by decide +kernel
theorem dX3_addBlock_24 : decode cX3_addBlock 24 = .ok (.iadd, 1) := by decide +kernel
theorem dX3_addBlock_25 : decode cX3_addBlock 25 = .ok (.iload_n 1, 1) := by decide +kernel
theorem dX3_addBlock_26 : decode cX3_addBlock 26 = .ok (.iastore, 1) := by decide +kernel
theorem dX3_addBlock_27 : decode cX3_addBlock 27 = .ok (.aload_n 0, 1) := by decide +kernel
theorem dX3_addBlock_28 : decode cX3_addBlock 28 = .ok (.getfield 9, 3) := by decide +kernel
theorem dX3_addBlock_31 : decode cX3_addBlock 31 = .ok (.iload 4, 2) := by decide +kernel
theorem dX3_addBlock_33 : decode cX3_addBlock 33 = .ok (.iconst 1, 1) := by decide +kernel
theorem dX3_addBlock_34 : decode cX3_addBlock 34 = .ok (.iadd, 1) := by decide +kernel
theorem dX3_addBlock_35 : decode cX3_addBlock 35 = .ok (.iload_n 2, 1) := by decide +kernel
theorem dX3_addBlock_36 : decode cX3_addBlock 36 = .ok (.iastore, 1) := by decide +kernel
theorem dX3_addBlock_37 : decode cX3_addBlock 37 = .ok (.aload_n 0, 1) := by decide +kernel
theorem dX3_addBlock_38 : decode cX3_addBlock 38 = .ok (.getfield 9, 3) := by decide +kernel
theorem dX3_addBlock_41 : decode cX3_addBlock 41 = .ok (.iload 4, 2) := by decide +kernel
theorem dX3_addBlock_43 : decode cX3_addBlock 43 = .ok (.iconst 2, 1) := by decide +kernel
theorem dX3_addBlock_44 : decode cX3_addBlock 44 = .ok (.iadd, 1) := by decide +kernel
theorem dX3_addBlock_45 : decode cX3_addBlock 45 = .ok (.iload_n 3, 1) := by decide +kernel
theorem dX3_addBlock_46 : decode cX3_addBlock 46 = .ok (.iastore, 1) := by decide +kernel
theorem dX3_addBlock_47 : decode cX3_addBlock 47 = .ok (.aload_n 0, 1) := by decide +kernel
theorem dX3_addBlock_48 : decode cX3_addBlock 48 = .ok (.dup, 1) := by decide +kernel
theorem dX3_addBlock_49 : decode cX3_addBlock 49 = .ok (.getfield 30, 3) := by decide +kernel
theorem dX3_addBlock_52 : decode cX3_addBlock 52 = .ok (.iconst 1, 1) := by decide +kernel
theorem dX3_addBlock_53 : decode cX3_addBlock 53 = .ok (.iadd, 1) := by decide +kernel
theorem dX3_addBlock_54 : decode cX3_addBlock 54 = .ok (.putfield 30, 3) := by decide +kernel
theorem dX3_addBlock_57 : decode cX3_addBlock 57 = .ok (.return_, 1) := by decide +kernel
theorem dX3_addSlot_0 : decode cX3_addSlot 0 = .ok (.aload_n 0, 1) := by decide +kernel
theorem dX3_addSlot_1 : decode cX3_addSlot 1 = .ok (.getfield 34, 3) := by decide +kernel
theorem dX3_addSlot_4 : decode cX3_addSlot 4 = .ok (.bipush 12, 2) := by decide +kernel
theorem dX3_addSlot_6 : decode cX3_addSlot 6 = .ok (.if_icmp .ge 73, 3) := by decide +kernel
theorem dX3_addSlot_9 : decode cX3_addSlot 9 = .ok (.aload_n 0, 1) := by decide +kernel
theorem dX3_addSlot_10 : decode cX3_addSlot 10 = .ok (.getfield 34, 3) := by decide +kernel
theorem dX3_addSlot_13 : decode cX3_addSlot 13 = .ok (.iconst 5, 1) := by decide +kernel
theorem dX3_addSlot_14 : decode cX3_addSlot 14 = .ok (.imul, 1) := by decide +kernel
theorem dX3_addSlot_15 : decode cX3_addSlot 15 = .ok (.istore 6, 2) := by decide +kernel
theorem dX3_addSlot_17 : decode cX3_addSlot 17 = .ok (.aload_n 0, 1) := by decide +kernel
theorem dX3_addSlot_18 : decode cX3_addSlot 18 = .ok (.getfield 15, 3) := by decide +kernel
theorem dX3_addSlot_21 : decode cX3_addSlot 21 = .ok (.iload 6, 2) := by decide +kernel
theorem dX3_addSlot_23 : decode cX3_addSlot 23 = .ok (.iconst 0, 1) := by decide +kernel
theorem dX3_addSlot_24 : decode cX3_addSlot 24 = .ok (.iadd, 1) := by decide +kernel
theorem dX3_addSlot_25 : decode cX3_addSlot 25 = .ok (.iload_n 1, 1) := by decide +kernel
theorem dX3_addSlot_26 : decode cX3_addSlot 26 = .ok (.iastore, 1) := by decide +kernel
theorem dX3_addSlot_27 : decode cX3_addSlot 27 = .ok (.aload_n 0, 1) := by decide +kernel
theorem dX3_addSlot_28 : decode cX3_addSlot 28 = .ok (.getfield 15, 3) := by decide +kernel
theorem dX3_addSlot_31 : decode cX3_addSlot 31 = .ok (.iload 6, 2) := by decide +kernel
theorem dX3_addSlot_33 : decode cX3_addSlot 33 = .ok (.iconst 1, 1) := by decide +kernel
theorem dX3_addSlot_34 : decode cX3_addSlot 34 = .ok (.iadd, 1) := by decide +kernel
theorem dX3_addSlot_35 : decode cX3_addSlot 35 = .ok (.iload_n 2, 1) := by decide +kernel
theorem dX3_addSlot_36 : decode cX3_addSlot 36 = .ok (.iastore, 1) := by decide +kernel
theorem dX3_addSlot_37 : decode cX3_addSlot 37 = .ok (.aload_n 0, 1) := by decide +kernel
theorem dX3_addSlot_38 : decode cX3_addSlot 38 = .ok (.getfield 15, 3) := by decide +kernel
theorem dX3_addSlot_41 : decode cX3_addSlot 41 = .ok (.iload 6, 2) := by decide +kernel
theorem dX3_addSlot_43 : decode cX3_addSlot 43 = .ok (.iconst 2, 1) := by decide +kernel
theorem dX3_addSlot_44 : decode cX3_addSlot 44 = .ok (.iadd, 1) := by decide +kernel
theorem dX3_addSlot_45 : decode cX3_addSlot 45 = .ok (.iload_n 3, 1) := by decide +kernel
theorem dX3_addSlot_46 : decode cX3_addSlot 46 = .ok (.iastore, 1) := by decide +kernel
theorem dX3_addSlot_47 : decode cX3_addSlot 47 = .ok (.aload_n 0, 1) := by decide +kernel
theorem dX3_addSlot_48 : decode cX3_addSlot 48 = .ok (.getfield 15, 3) := by decide +kernel
theorem dX3_addSlot_51 : decode cX3_addSlot 51 = .ok (.iload 6, 2) := by decide +kernel
theorem dX3_addSlot_53 : decode cX3_addSlot 53 = .ok (.iconst 3, 1) := by decide +kernel
theorem dX3_addSlot_54 : decode cX3_addSlot 54 = .ok (.iadd, 1) := by decide +kernel
theorem dX3_addSlot_55 : decode cX3_addSlot 55 = .ok (.iload 4, 2) := by decide +kernel
theorem dX3_addSlot_57 : decode cX3_addSlot 57 = .ok (.iastore, 1) := by decide +kernel
theorem dX3_addSlot_58 : decode cX3_addSlot 58 = .ok (.aload_n 0, 1) := by decide +kernel
theorem dX3_addSlot_59 : decode cX3_addSlot 59 = .ok (.getfield 15, 3) := by decide +kernel
theorem dX3_addSlot_62 : decode cX3_addSlot 62 = .ok (.iload 6, 2) := by decide +kernel
theorem dX3_addSlot_64 : decode cX3_addSlot 64 = .ok (.iconst 4, 1) := by decide +kernel
theorem dX3_addSlot_65 : decode cX3_addSlot 65 = .ok (.iadd, 1) := by decide +kernel
theorem dX3_addSlot_66 : decode cX3_addSlot 66 = .ok (.iload 5, 2) := by decide +kernel
theorem dX3_addSlot_68 : decode cX3_addSlot 68 = .ok (.iastore, 1) := by decide +kernel
theorem dX3_addSlot_69 : decode cX3_addSlot 69 = .ok (.aload_n 0, 1) := by decide +kernel
theorem dX3_addSlot_70 : decode cX3_addSlot 70 = .ok (.dup, 1) := by decide +kernel
theorem dX3_addSlot_71 : decode cX3_addSlot 71 = .ok (.getfield 34, 3) := by decide +kernel
theorem dX3_addSlot_74 : decode cX3_addSlot 74 = .ok (.iconst 1, 1) := by decide +kernel
theorem dX3_addSlot_75 : decode cX3_addSlot 75 = .ok (.iadd, 1) := by decide +kernel
theorem dX3_addSlot_76 : decode cX3_addSlot 76 = .ok (.putfield 34, 3) := by decide +kernel
theorem dX3_addSlot_79 : decode cX3_addSlot 79 = .ok (.return_, 1) := by decide +kernel
theorem dX3_addOrder_0 : decode cX3_addOrder 0 = .ok (.aload_n 0, 1) := by decide +kernel
theorem dX3_addOrder_1 : decode cX3_addOrder 1 = .ok (.getfield 37, 3) := by decide +kernel
theorem dX3_addOrder_4 : decode cX3_addOrder 4 = .ok (.bipush 6, 2) := by decide +kernel
theorem dX3_addOrder_6 : decode cX3_addOrder 6 = .ok (.if_icmp .ge 73, 3) := by decide +kernel
theorem dX3_addOrder_9 : decode cX3_addOrder 9 = .ok (.aload_n 0, 1) := by decide +kernel
theorem dX3_addOrder_10 : decode cX3_addOrder 10 = .ok (.getfield 37, 3) := by decide +kernel
theorem dX3_addOrder_13 : decode cX3_addOrder 13 = .ok (.iconst 5, 1) := by decide +kernel
theorem dX3_addOrder_14 : decode cX3_addOrder 14 = .ok (.imul, 1) := by decide +kernel
theorem dX3_addOrder_15 : decode cX3_addOrder 15 = .ok (.istore 6, 2) := by decide +kernel
theorem dX3_addOrder_17 : decode cX3_addOrder 17 = .ok (.aload_n 0, 1) := by decide +kernel
theorem dX3_addOrder_18 : decode cX3_addOrder 18 = .ok (.getfield 18, 3) := by decide +kernel
theorem dX3_addOrder_21 : decode cX3_addOrder 21 = .ok (.iload 6, 2) := by decide +kernel
theorem dX3_addOrder_23 : decode cX3_addOrder 23 = .ok (.iconst 0, 1) := by decide +kernel
theorem dX3_addOrder_24 : decode cX3_addOrder 24 = .ok (.iadd, 1) := by decide +kernel
theorem dX3_addOrder_25 : decode cX3_addOrder 25 = .ok (.iload_n 1, 1) := by decide +kernel
theorem dX3_addOrder_26 : decode cX3_addOrder 26 = .ok (.iastore, 1) := by decide +kernel
theorem dX3_addOrder_27 : decode cX3_addOrder 27 = .ok (.aload_n 0, 1) := by decide +kernel
theorem dX3_addOrder_28 : decode cX3_addOrder 28 = .ok (.getfield 18, 3) := by decide +kernel
theorem dX3_addOrder_31 : decode cX3_addOrder 31 = .ok (.iload 6, 2) := by decide +kernel
theorem dX3_addOrder_33 : decode cX3_addOrder 33 = .ok (.iconst 1, 1) := by decide +kernel
theorem dX3_addOrder_34 : decode cX3_addOrder 34 = .ok (.iadd, 1) := by decide +kernel
theorem dX3_addOrder_35 : decode cX3_addOrder 35 = .ok (.iload_n 2, 1) := by decide +kernel
theorem dX3_addOrder_36 : decode cX3_addOrder 36 = .ok (.iastore, 1) := by decide +kernel
theorem dX3_addOrder_37 : decode cX3_addOrder 37 = .ok (.aload_n 0, 1) := by decide +kernel
theorem dX3_addOrder_38 : decode cX3_addOrder 38 = .ok (.getfield 18, 3) := by decide +kernel
theorem dX3_addOrder_41 : decode cX3_addOrder 41 = .ok (.iload 6, 2) := by decide +kernel
theorem dX3_addOrder_43 : decode cX3_addOrder 43 = .ok (.iconst 2, 1) := by decide +kernel
theorem dX3_addOrder_44 : decode cX3_addOrder 44 = .ok (.iadd, 1) := by decide +kernel
theorem dX3_addOrder_45 : decode cX3_addOrder 45 = .ok (.iload_n 3, 1) := by decide +kernel
theorem dX3_addOrder_46 : decode cX3_addOrder 46 = .ok (.iastore, 1) := by decide +kernel
theorem dX3_addOrder_47 : decode cX3_addOrder 47 = .ok (.aload_n 0, 1) := by decide +kernel
theorem dX3_addOrder_48 : decode cX3_addOrder 48 = .ok (.getfield 18, 3) := by decide +kernel
theorem dX3_addOrder_51 : decode cX3_addOrder 51 = .ok (.iload 6, 2) := by decide +kernel
theorem dX3_addOrder_53 : decode cX3_addOrder 53 = .ok (.iconst 3, 1) := by decide +kernel
theorem dX3_addOrder_54 : decode cX3_addOrder 54 = .ok (.iadd, 1) := by decide +kernel
theorem dX3_addOrder_55 : decode cX3_addOrder 55 = .ok (.iload 4, 2) := by decide +kernel
theorem dX3_addOrder_57 : decode cX3_addOrder 57 = .ok (.iastore, 1) := by decide +kernel
theorem dX3_addOrder_58 : decode cX3_addOrder 58 = .ok (.aload_n 0, 1) := by decide +kernel
theorem dX3_addOrder_59 : decode cX3_addOrder 59 = .ok (.getfield 18, 3) := by decide +kernel
theorem dX3_addOrder_62 : decode cX3_addOrder 62 = .ok (.iload 6, 2) := by decide +kernel
theorem dX3_addOrder_64 : decode cX3_addOrder 64 = .ok (.iconst 4, 1) := by decide +kernel
theorem dX3_addOrder_65 : decode cX3_addOrder 65 = .ok (.iadd, 1) := by decide +kernel
theorem dX3_addOrder_66 : decode cX3_addOrder 66 = .ok (.iload 5, 2) := by decide +kernel
theorem dX3_addOrder_68 : decode cX3_addOrder 68 = .ok (.iastore, 1) := by decide +kernel
theorem dX3_addOrder_69 : decode cX3_addOrder 69 = .ok (.aload_n 0, 1) := by decide +kernel
theorem dX3_addOrder_70 : decode cX3_addOrder 70 = .ok (.dup, 1) := by decide +kernel
theorem dX3_addOrder_71 : decode cX3_addOrder 71 = .ok (.getfield 37, 3) := by decide +kernel
theorem dX3_addOrder_74 : decode cX3_addOrder 74 = .ok (.iconst 1, 1) := by decide +kernel
theorem dX3_addOrder_75 : decode cX3_addOrder 75 = .ok (.iadd, 1) := by decide +kernel
theorem dX3_addOrder_76 : decode cX3_addOrder 76 = .ok (.putfield 37, 3) := by decide +kernel
theorem dX3_addOrder_79 : decode cX3_addOrder 79 = .ok (.return_, 1) := by decide +kernel
theorem dX3_addOdds_0 : decode cX3_addOdds 0 = .ok (.aload_n 0, 1) := by decide +kernel
theorem dX3_addOdds_1 : decode cX3_addOdds 1 = .ok (.getfield 40, 3) := by decide +kernel
theorem dX3_addOdds_4 : decode cX3_addOdds 4 = .ok (.bipush 24, 2) := by decide +kernel
theorem dX3_addOdds_6 : decode cX3_addOdds 6 = .ok (.if_icmp .ge 77, 3) := by decide +kernel
theorem dX3_addOdds_9 : decode cX3_addOdds 9 = .ok (.aload_n 0, 1) := by decide +kernel
theorem dX3_addOdds_10 : decode cX3_addOdds 10 = .ok (.getfield 40, 3) := by decide +kernel
theorem dX3_addOdds_13 : decode cX3_addOdds 13 = .ok (.iconst 3, 1) := by decide +kernel
theorem dX3_addOdds_14 : decode cX3_addOdds 14 = .ok (.imul, 1) := by decide +kernel
theorem dX3_addOdds_15 : decode cX3_addOdds 15 = .ok (.istore 4, 2) := by decide +kernel
theorem dX3_addOdds_17 : decode cX3_addOdds 17 = .ok (.aload_n 0, 1) := by decide +kernel
theorem dX3_addOdds_18 : decode cX3_addOdds 18 = .ok (.getfield 21, 3) := by decide +kernel
theorem dX3_addOdds_21 : decode cX3_addOdds 21 = .ok (.iload 4, 2) := by decide +kernel
theorem dX3_addOdds_23 : decode cX3_addOdds 23 = .ok (.iload_n 1, 1) := by decide +kernel
theorem dX3_addOdds_24 : decode cX3_addOdds 24 = .ok (.iastore, 1) := by decide +kernel
theorem dX3_addOdds_25 : decode cX3_addOdds 25 = .ok (.aload_n 0, 1) := by decide +kernel
theorem dX3_addOdds_26 : decode cX3_addOdds 26 = .ok (.getfield 21, 3) := by decide +kernel
theorem dX3_addOdds_29 : decode cX3_addOdds 29 = .ok (.iload 4, 2) := by decide +kernel
theorem dX3_addOdds_31 : decode cX3_addOdds 31 = .ok (.iconst 1, 1) := by decide +kernel
theorem dX3_addOdds_32 : decode cX3_addOdds 32 = .ok (.iadd, 1) := by decide +kernel
theorem dX3_addOdds_33 : decode cX3_addOdds 33 = .ok (.iload_n 2, 1) := by decide +kernel
theorem dX3_addOdds_34 : decode cX3_addOdds 34 = .ok (.iastore, 1) := by decide +kernel
theorem dX3_addOdds_35 : decode cX3_addOdds 35 = .ok (.aload_n 0, 1) := by decide +kernel
theorem dX3_addOdds_36 : decode cX3_addOdds 36 = .ok (.getfield 21, 3) := by decide +kernel
theorem dX3_addOdds_39 : decode cX3_addOdds 39 = .ok (.iload 4, 2) := by decide +kernel
theorem dX3_addOdds_41 : decode cX3_addOdds 41 = .ok (.iconst 2, 1) := by decide +kernel
theorem dX3_addOdds_42 : decode cX3_addOdds 42 = .ok (.iadd, 1) := by decide +kernel
theorem dX3_addOdds_43 : decode cX3_addOdds 43 = .ok (.iload_n 3, 1) := by decide +kernel
theorem dX3_addOdds_44 : decode cX3_addOdds 44 = .ok (.iastore, 1) := by decide +kernel
theorem dX3_addOdds_45 : decode cX3_addOdds 45 = .ok (.aload_n 0, 1) := by decide +kernel
theorem dX3_addOdds_46 : decode cX3_addOdds 46 = .ok (.dup, 1) := by decide +kernel
theorem dX3_addOdds_47 : decode cX3_addOdds 47 = .ok (.getfield 40, 3) := by decide +kernel
theorem dX3_addOdds_50 : decode cX3_addOdds 50 = .ok (.iconst 1, 1) := by decide +kernel
theorem dX3_addOdds_51 : decode cX3_addOdds 51 = .ok (.iadd, 1) := by decide +kernel
theorem dX3_addOdds_52 : decode cX3_addOdds 52 = .ok (.putfield 40, 3) := by decide +kernel
theorem dX3_addOdds_55 : decode cX3_addOdds 55 = .ok (.aload_n 0, 1) := by decide +kernel
theorem dX3_addOdds_56 : decode cX3_addOdds 56 = .ok (.getfield 24, 3) := by decide +kernel
theorem dX3_addOdds_59 : decode cX3_addOdds 59 = .ok (.iload_n 1, 1) := by decide +kernel
theorem dX3_addOdds_60 : decode cX3_addOdds 60 = .ok (.bipush 10, 2) := by decide +kernel
theorem dX3_addOdds_62 : decode cX3_addOdds 62 = .ok (.imul, 1) := by decide +kernel
theorem dX3_addOdds_63 : decode cX3_addOdds 63 = .ok (.iload_n 2, 1) := by decide +kernel
theorem dX3_addOdds_64 : decode cX3_addOdds 64 = .ok (.iadd, 1) := by decide +kernel
theorem dX3_addOdds_65 : decode cX3_addOdds 65 = .ok (.dup2, 1) := by decide +kernel
theorem dX3_addOdds_66 : decode cX3_addOdds 66 = .ok (.iaload, 1) := by decide +kernel
theorem dX3_addOdds_67 : decode cX3_addOdds 67 = .ok (.iload_n 3, 1) := by decide +kernel
theorem dX3_addOdds_68 : decode cX3_addOdds 68 = .ok (.iadd, 1) := by decide +kernel
theorem dX3_addOdds_69 : decode cX3_addOdds 69 = .ok (.iastore, 1) := by decide +kernel
theorem dX3_addOdds_70 : decode cX3_addOdds 70 = .ok (.aload_n 0, 1) := by decide +kernel
theorem dX3_addOdds_71 : decode cX3_addOdds 71 = .ok (.getfield 24, 3) := by decide +kernel
theorem dX3_addOdds_74 : decode cX3_addOdds 74 = .ok (.iload_n 1, 1) := by decide +kernel
theorem dX3_addOdds_75 : decode cX3_addOdds 75 = .ok (.bipush 10, 2) := by decide +kernel
theorem dX3_addOdds_77 : decode cX3_addOdds 77 = .ok (.imul, 1) := by decide +kernel
theorem dX3_addOdds_78 : decode cX3_addOdds 78 = .ok (.dup2, 1) := by decide +kernel
theorem dX3_addOdds_79 : decode cX3_addOdds 79 = .ok (.iaload, 1) := by decide +kernel
theorem dX3_addOdds_80 : decode cX3_addOdds 80 = .ok (.iload_n 3, 1) := by decide +kernel
theorem dX3_addOdds_81 : decode cX3_addOdds 81 = .ok (.isub, 1) := by decide +kernel
theorem dX3_addOdds_82 : decode cX3_addOdds 82 = .ok (.iastore, 1) := by decide +kernel
theorem dX3_addOdds_83 : decode cX3_addOdds 83 = .ok (.return_, 1) := by decide +kernel
theorem dX3_hasOdds_0 : decode cX3_hasOdds 0 = .ok (.aload_n 0, 1) := by decide +kernel
theorem dX3_hasOdds_1 : decode cX3_hasOdds 1 = .ok (.getfield 24, 3) := by decide +kernel
theorem dX3_hasOdds_4 : decode cX3_hasOdds 4 = .ok (.iload_n 1, 1) := by decide +kernel
theorem dX3_hasOdds_5 : decode cX3_hasOdds 5 = .ok (.bipush 10, 2) := by decide +kernel
theorem dX3_hasOdds_7 : decode cX3_hasOdds 7 = .ok (.imul, 1) := by decide +kernel
theorem dX3_hasOdds_8 : decode cX3_hasOdds 8 = .ok (.iaload, 1) := by decide +kernel
theorem dX3_hasOdds_9 : decode cX3_hasOdds 9 = .ok (.bipush 8, 2) := by decide +kernel
theorem dX3_hasOdds_11 : decode cX3_hasOdds 11 = .ok (.if_icmp .ge 7, 3) := by decide +kernel
theorem dX3_hasOdds_14 : decode cX3_hasOdds 14 = .ok (.iconst 1, 1) := by decide +kernel
theorem dX3_hasOdds_15 : decode cX3_hasOdds 15 = .ok (.goto 4, 3) := by decide +kernel
theorem dX3_hasOdds_18 : decode cX3_hasOdds 18 = .ok (.iconst 0, 1) := by decide +kernel
theorem dX3_hasOdds_19 : decode cX3_hasOdds 19 = .ok (.ireturn, 1) := by decide +kernel
theorem dX3_coldOf_0 : decode cX3_coldOf 0 = .ok (.iconst 0, 1) := by decide +kernel
theorem dX3_coldOf_1 : decode cX3_coldOf 1 = .ok (.istore_n 3, 1) := by decide +kernel
theorem dX3_coldOf_2 : decode cX3_coldOf 2 = .ok (.iconst 0, 1) := by decide +kernel
theorem dX3_coldOf_3 : decode cX3_coldOf 3 = .ok (.istore 4, 2) := by decide +kernel
theorem dX3_coldOf_5 : decode cX3_coldOf 5 = .ok (.iload 4, 2) := by decide +kernel
theorem dX3_coldOf_7 : decode cX3_coldOf 7 = .ok (.aload_n 0, 1) := by decide +kernel
theorem dX3_coldOf_8 : decode cX3_coldOf 8 = .ok (.getfield 40, 3) := by decide +kernel
theorem dX3_coldOf_11 : decode cX3_coldOf 11 = .ok (.if_icmp .ge 53, 3) := by decide +kernel
theorem dX3_coldOf_14 : decode cX3_coldOf 14 = .ok (.aload_n 0, 1) := by decide +kernel
theorem dX3_coldOf_15 : decode cX3_coldOf 15 = .ok (.getfield 21, 3) := by decide +kernel
theorem dX3_coldOf_18 : decode cX3_coldOf 18 = .ok (.iload 4, 2) := by decide +kernel
theorem dX3_coldOf_20 : decode cX3_coldOf 20 = .ok (.iconst 3, 1) := by decide +kernel
theorem dX3_coldOf_21 : decode cX3_coldOf 21 = .ok (.imul, 1) := by decide +kernel
theorem dX3_coldOf_22 : decode cX3_coldOf 22 = .ok (.iaload, 1) := by decide +kernel
theorem dX3_coldOf_23 : decode cX3_coldOf 23 = .ok (.iload_n 1, 1) := by decide +kernel
theorem dX3_coldOf_24 : decode cX3_coldOf 24 = .ok (.if_icmp .ne 34, 3) := by decide +kernel
theorem dX3_coldOf_27 : decode cX3_coldOf 27 = .ok (.iload_n 3, 1) := by decide +kernel
theorem dX3_coldOf_28 : decode cX3_coldOf 28 = .ok (.aload_n 0, 1) := by decide +kernel
theorem dX3_coldOf_29 : decode cX3_coldOf 29 = .ok (.getfield 21, 3) := by decide +kernel
theorem dX3_coldOf_32 : decode cX3_coldOf 32 = .ok (.iload 4, 2) := by decide +kernel
theorem dX3_coldOf_34 : decode cX3_coldOf 34 = .ok (.iconst 3, 1) := by decide +kernel
theorem dX3_coldOf_35 : decode cX3_coldOf 35 = .ok (.imul, 1) := by decide +kernel
theorem dX3_coldOf_36 : decode cX3_coldOf 36 = .ok (.iconst 2, 1) := by decide +kernel
theorem dX3_coldOf_37 : decode cX3_coldOf 37 = .ok (.iadd, 1) := by decide +kernel
theorem dX3_coldOf_38 : decode cX3_coldOf 38 = .ok (.iaload, 1) := by decide +kernel
theorem dX3_coldOf_39 : decode cX3_coldOf 39 = .ok (.iadd, 1) := by decide +kernel
theorem dX3_coldOf_40 : decode cX3_coldOf 40 = .ok (.istore_n 3, 1) := by decide +kernel
theorem dX3_coldOf_41 : decode cX3_coldOf 41 = .ok (.iload_n 2, 1) := by decide +kernel
theorem dX3_coldOf_42 : decode cX3_coldOf 42 = .ok (.iload_n 3, 1) := by decide +kernel
theorem dX3_coldOf_43 : decode cX3_coldOf 43 = .ok (.if_icmp .ge 15, 3) := by decide +kernel
theorem dX3_coldOf_46 : decode cX3_coldOf 46 = .ok (.aload_n 0, 1) := by decide +kernel
theorem dX3_coldOf_47 : decode cX3_coldOf 47 = .ok (.getfield 21, 3) := by decide +kernel
theorem dX3_coldOf_50 : decode cX3_coldOf 50 = .ok (.iload 4, 2) := by decide +kernel
theorem dX3_coldOf_52 : decode cX3_coldOf 52 = .ok (.iconst 3, 1) := by decide +kernel
theorem dX3_coldOf_53 : decode cX3_coldOf 53 = .ok (.imul, 1) := by decide +kernel
theorem dX3_coldOf_54 : decode cX3_coldOf 54 = .ok (.iconst 1, 1) := by decide +kernel
theorem dX3_coldOf_55 : decode cX3_coldOf 55 = .ok (.iadd, 1) := by decide +kernel
theorem dX3_coldOf_56 : decode cX3_coldOf 56 = .ok (.iaload, 1) := by decide +kernel
theorem dX3_coldOf_57 : decode cX3_coldOf 57 = .ok (.ireturn, 1) := by decide +kernel
theorem dX3_coldOf_58 : decode cX3_coldOf 58 = .ok (.iinc 4 1, 3) := by decide +kernel
theorem dX3_coldOf_61 : decode cX3_coldOf 61 = .ok (.goto (-56), 3) := by decide +kernel
theorem dX3_coldOf_64 : decode cX3_coldOf 64 = .ok (.iconst 0, 1) := by decide +kernel
theorem dX3_coldOf_65 : decode cX3_coldOf 65 = .ok (.ireturn, 1) := by decide +kernel
theorem dX3_isAcrossGrain_0 : decode cX3_isAcrossGrain 0 = .ok (.aload_n 0, 1) := by decide +kernel
theorem dX3_isAcrossGrain_1 : decode cX3_isAcrossGrain 1 = .ok (.getfield 15, 3) := by decide +kernel
theorem dX3_isAcrossGrain_4 : decode cX3_isAcrossGrain 4 = .ok (.iload_n 1, 1) := by decide +kernel
theorem dX3_isAcrossGrain_5 : decode cX3_isAcrossGrain 5 = .ok (.iconst 5, 1) := by decide +kernel
theorem dX3_isAcrossGrain_6 : decode cX3_isAcrossGrain 6 = .ok (.imul, 1) := by decide +kernel
theorem dX3_isAcrossGrain_7 : decode cX3_isAcrossGrain 7 = .ok (.iconst 0, 1) := by decide +kernel
theorem dX3_isAcrossGrain_8 : decode cX3_isAcrossGrain 8 = .ok (.iadd, 1) := by decide +kernel
theorem dX3_isAcrossGrain_9 : decode cX3_isAcrossGrain 9 = .ok (.iaload, 1) := by decide +kernel
theorem dX3_isAcrossGrain_10 : decode cX3_isAcrossGrain 10 = .ok (.istore_n 2, 1) := by decide +kernel
theorem dX3_isAcrossGrain_11 : decode cX3_isAcrossGrain 11 = .ok (.aload_n 0, 1) := by decide +kernel
theorem dX3_isAcrossGrain_12 : decode cX3_isAcrossGrain 12 = .ok (.getfield 15, 3) := by decide +kernel
theorem dX3_isAcrossGrain_15 : decode cX3_isAcrossGrain 15 = .ok (.iload_n 1, 1) := by decide +kernel
theorem dX3_isAcrossGrain_16 : decode cX3_isAcrossGrain 16 = .ok (.iconst 5, 1) := by decide +kernel
theorem dX3_isAcrossGrain_17 : decode cX3_isAcrossGrain 17 = .ok (.imul, 1) := by decide +kernel
theorem dX3_isAcrossGrain_18 : decode cX3_isAcrossGrain 18 = .ok (.iconst 1, 1) := by decide +kernel
theorem dX3_isAcrossGrain_19 : decode cX3_isAcrossGrain 19 = .ok (.iadd, 1) := by decide +kernel
theorem dX3_isAcrossGrain_20 : decode cX3_isAcrossGrain 20 = .ok (.iaload, 1) := by decide +kernel
theorem dX3_isAcrossGrain_21 : decode cX3_isAcrossGrain 21 = .ok (.aload_n 0, 1) := by decide +kernel
theorem dX3_isAcrossGrain_22 : decode cX3_isAcrossGrain 22 = .ok (.getfield 9, 3) := by decide +kernel
theorem dX3_isAcrossGrain_25 : decode cX3_isAcrossGrain 25 = .ok (.iload_n 2, 1) := by decide +kernel
theorem dX3_isAcrossGrain_26 : decode cX3_isAcrossGrain 26 = .ok (.iconst 3, 1) := by decide +kernel
theorem dX3_isAcrossGrain_27 : decode cX3_isAcrossGrain 27 = .ok (.imul, 1) := by decide +kernel
theorem dX3_isAcrossGrain_28 : decode cX3_isAcrossGrain 28 = .ok (.iconst 2, 1) := by decide +kernel
theorem dX3_isAcrossGrain_29 : decode cX3_isAcrossGrain 29 = .ok (.iadd, 1) := by decide +kernel
theorem dX3_isAcrossGrain_30 : decode cX3_isAcrossGrain 30 = .ok (.iaload, 1) := by decide +kernel
theorem dX3_isAcrossGrain_31 : decode cX3_isAcrossGrain 31 = .ok (.if_icmp .eq 7, 3) := by decide +kernel
theorem dX3_isAcrossGrain_34 : decode cX3_isAcrossGrain 34 = .ok (.iconst 1, 1) := by decide +kernel
theorem dX3_isAcrossGrain_35 : decode cX3_isAcrossGrain 35 = .ok (.goto 4, 3) := by decide +kernel
theorem dX3_isAcrossGrain_38 : decode cX3_isAcrossGrain 38 = .ok (.iconst 0, 1) := by decide +kernel
theorem dX3_isAcrossGrain_39 : decode cX3_isAcrossGrain 39 = .ok (.ireturn, 1) := by decide +kernel
theorem dX3_isOfSize_0 : decode cX3_isOfSize 0 = .ok (.aload_n 0, 1) := by decide +kernel
theorem dX3_isOfSize_1 : decode cX3_isOfSize 1 = .ok (.getfield 18, 3) := by decide +kernel
theorem dX3_isOfSize_4 : decode cX3_isOfSize 4 = .ok (.iload_n 1, 1) := by decide +kernel
theorem dX3_isOfSize_5 : decode cX3_isOfSize 5 = .ok (.iconst 5, 1) := by decide +kernel
theorem dX3_isOfSize_6 : decode cX3_isOfSize 6 = .ok (.imul, 1) := by decide +kernel
theorem dX3_isOfSize_7 : decode cX3_isOfSize 7 = .ok (.iconst 0, 1) := by decide +kernel
theorem dX3_isOfSize_8 : decode cX3_isOfSize 8 = .ok (.iadd, 1) := by decide +kernel
theorem dX3_isOfSize_9 : decode cX3_isOfSize 9 = .ok (.iaload, 1) := by decide +kernel
theorem dX3_isOfSize_10 : decode cX3_isOfSize 10 = .ok (.istore 4, 2) := by decide +kernel
theorem dX3_isOfSize_12 : decode cX3_isOfSize 12 = .ok (.aload_n 0, 1) := by decide +kernel
theorem dX3_isOfSize_13 : decode cX3_isOfSize 13 = .ok (.getfield 18, 3) := by decide +kernel
theorem dX3_isOfSize_16 : decode cX3_isOfSize 16 = .ok (.iload_n 1, 1) := by decide +kernel
theorem dX3_isOfSize_17 : decode cX3_isOfSize 17 = .ok (.iconst 5, 1) := by decide +kernel
theorem dX3_isOfSize_18 : decode cX3_isOfSize 18 = .ok (.imul, 1) := by decide +kernel
theorem dX3_isOfSize_19 : decode cX3_isOfSize 19 = .ok (.iconst 1, 1) := by decide +kernel
theorem dX3_isOfSize_20 : decode cX3_isOfSize 20 = .ok (.iadd, 1) := by decide +kernel
theorem dX3_isOfSize_21 : decode cX3_isOfSize 21 = .ok (.iaload, 1) := by decide +kernel
theorem dX3_isOfSize_22 : decode cX3_isOfSize 22 = .ok (.istore 5, 2) := by decide +kernel
theorem dX3_isOfSize_24 : decode cX3_isOfSize 24 = .ok (.iload 4, 2) := by decide +kernel
theorem dX3_isOfSize_26 : decode cX3_isOfSize 26 = .ok (.iload_n 2, 1) := by decide +kernel
theorem dX3_isOfSize_27 : decode cX3_isOfSize 27 = .ok (.if_icmp .ne 9, 3) := by decide +kernel
theorem dX3_isOfSize_30 : decode cX3_isOfSize 30 = .ok (.iload 5, 2) := by decide +kernel
theorem dX3_isOfSize_32 : decode cX3_isOfSize 32 = .ok (.iload_n 3, 1) := by decide +kernel
theorem dX3_isOfSize_33 : decode cX3_isOfSize 33 = .ok (.if_icmp .eq 15, 3) := by decide +kernel
theorem dX3_isOfSize_36 : decode cX3_isOfSize 36 = .ok (.iload 4, 2) := by decide +kernel
theorem dX3_isOfSize_38 : decode cX3_isOfSize 38 = .ok (.iload_n 3, 1) := by decide +kernel
theorem dX3_isOfSize_39 : decode cX3_isOfSize 39 = .ok (.if_icmp .ne 13, 3) := by decide +kernel
theorem dX3_isOfSize_42 : decode cX3_isOfSize 42 = .ok (.iload 5, 2) := by decide +kernel
theorem dX3_isOfSize_44 : decode cX3_isOfSize 44 = .ok (.iload_n 2, 1) := by decide +kernel
theorem dX3_isOfSize_45 : decode cX3_isOfSize 45 = .ok (.if_icmp .ne 7, 3) := by decide +kernel
theorem dX3_isOfSize_48 : decode cX3_isOfSize 48 = .ok (.iconst 1, 1) := by decide +kernel
theorem dX3_isOfSize_49 : decode cX3_isOfSize 49 = .ok (.goto 4, 3) := by decide +kernel
theorem dX3_isOfSize_52 : decode cX3_isOfSize 52 = .ok (.iconst 0, 1) := by decide +kernel
theorem dX3_isOfSize_53 : decode cX3_isOfSize 53 = .ok (.ireturn, 1) := by decide +kernel
theorem dX3_orderOfSize_0 : decode cX3_orderOfSize 0 = .ok (.iconst 0, 1) := by decide +kernel
theorem dX3_orderOfSize_1 : decode cX3_orderOfSize 1 = .ok (.istore_n 3, 1) := by decide +kernel
theorem dX3_orderOfSize_2 : decode cX3_orderOfSize 2 = .ok (.iload_n 3, 1) := by decide +kernel
theorem dX3_orderOfSize_3 : decode cX3_orderOfSize 3 = .ok (.aload_n 0, 1) := by decide +kernel
theorem dX3_orderOfSize_4 : decode cX3_orderOfSize 4 = .ok (.getfield 37, 3) := by decide +kernel
theorem dX3_orderOfSize_7 : decode cX3_orderOfSize 7 = .ok (.if_icmp .ge 21, 3) := by decide +kernel
theorem dX3_orderOfSize_10 : decode cX3_orderOfSize 10 = .ok (.aload_n 0, 1) := by decide +kernel
theorem dX3_orderOfSize_11 : decode cX3_orderOfSize 11 = .ok (.iload_n 3, 1) := by decide +kernel
theorem dX3_orderOfSize_12 : decode cX3_orderOfSize 12 = .ok (.iload_n 1, 1) := by decide +kernel
theorem dX3_orderOfSize_13 : decode cX3_orderOfSize 13 = .ok (.iload_n 2, 1) := by decide +kernel
theorem dX3_orderOfSize_14 : decode cX3_orderOfSize 14 = .ok (.invokevirtual 64, 3) := by decide +kernel
theorem dX3_orderOfSize_17 : decode cX3_orderOfSize 17 = .ok (.ifCond .eq 5, 3) := by decide +kernel
theorem dX3_orderOfSize_20 : decode cX3_orderOfSize 20 = .ok (.iload_n 3, 1) := by decide +kernel
theorem dX3_orderOfSize_21 : decode cX3_orderOfSize 21 = .ok (.ireturn, 1) := by decide +kernel
theorem dX3_orderOfSize_22 : decode cX3_orderOfSize 22 = .ok (.iinc 3 1, 3) := by decide +kernel
theorem dX3_orderOfSize_25 : decode cX3_orderOfSize 25 = .ok (.goto (-23), 3) := by decide +kernel
theorem dX3_orderOfSize_28 : decode cX3_orderOfSize 28 = .ok (.iconst (-1), 1) := by decide +kernel
theorem dX3_orderOfSize_29 : decode cX3_orderOfSize 29 = .ok (.ireturn, 1) := by decide +kernel
theorem dX4_init_0 : decode cX4_init 0 = .ok (.aload_n 0, 1) := by decide +kernel
theorem dX4_init_1 : decode cX4_init 1 = .ok (.invokespecial 1, 3) := by decide +kernel
theorem dX4_init_4 : decode cX4_init 4 = .ok (.aload_n 0, 1) := by decide +kernel
theorem dX4_init_5 : decode cX4_init 5 = .ok (.iconst 0, 1) := by decide +kernel
theorem dX4_init_6 : decode cX4_init 6 = .ok (.putfield 7, 3) := by decide +kernel
theorem dX4_init_9 : decode cX4_init 9 = .ok (.return_, 1) := by decide +kernel
theorem dX4_eighth_0 : decode cX4_eighth 0 = .ok (.aload_n 0, 1) := by decide +kernel
theorem dX4_eighth_1 : decode cX4_eighth 1 = .ok (.invokevirtual 13, 3) := by decide +kernel
theorem dX4_eighth_4 : decode cX4_eighth 4 = .ok (.aload_n 0, 1) := by decide +kernel
theorem dX4_eighth_5 : decode cX4_eighth 5 = .ok (.getfield 7, 3) := by decide +kernel
theorem dX4_eighth_8 : decode cX4_eighth 8 = .ok (.bipush 16, 2) := by decide +kernel
theorem dX4_eighth_10 : decode cX4_eighth 10 = .ok (.iushr, 1) := by decide +kernel
theorem dX4_eighth_11 : decode cX4_eighth 11 = .ok (.bipush 7, 2) := by decide +kernel
theorem dX4_eighth_13 : decode cX4_eighth 13 = .ok (.iand, 1) := by decide +kernel
theorem dX4_eighth_14 : decode cX4_eighth 14 = .ok (.ireturn, 1) := by decide +kernel
theorem dX4_quarter_0 : decode cX4_quarter 0 = .ok (.aload_n 0, 1) := by decide +kernel
theorem dX4_quarter_1 : decode cX4_quarter 1 = .ok (.invokevirtual 13, 3) := by decide +kernel
theorem dX4_quarter_4 : decode cX4_quarter 4 = .ok (.aload_n 0, 1) := by decide +kernel
theorem dX4_quarter_5 : decode cX4_quarter 5 = .ok (.getfield 7, 3) := by decide +kernel
theorem dX4_quarter_8 : decode cX4_quarter 8 = .ok (.bipush 16, 2) := by decide +kernel
theorem dX4_quarter_10 : decode cX4_quarter 10 = .ok (.iushr, 1) := by decide +kernel
theorem dX4_quarter_11 : decode cX4_quarter 11 = .ok (.iconst 3, 1) := by decide +kernel
theorem dX4_quarter_12 : decode cX4_quarter 12 = .ok (.iand, 1) := by decide +kernel
theorem dX4_quarter_13 : decode cX4_quarter 13 = .ok (.ireturn, 1) := by decide +kernel
theorem dX4_step_0 : decode cX4_step 0 = .ok (.aload_n 0, 1) := by decide +kernel
theorem dX4_step_1 : decode cX4_step 1 = .ok (.aload_n 0, 1) := by decide +kernel
theorem dX4_step_2 : decode cX4_step 2 = .ok (.getfield 7, 3) := by decide +kernel
theorem dX4_step_5 : decode cX4_step 5 = .ok (.ldc 16, 2) := by decide +kernel
theorem dX4_step_7 : decode cX4_step 7 = .ok (.imul, 1) := by decide +kernel
theorem dX4_step_8 : decode cX4_step 8 = .ok (.sipush 12345, 3) := by decide +kernel
theorem dX4_step_11 : decode cX4_step 11 = .ok (.iadd, 1) := by decide +kernel
theorem dX4_step_12 : decode cX4_step 12 = .ok (.putfield 7, 3) := by decide +kernel
theorem dX4_step_15 : decode cX4_step 15 = .ok (.return_, 1) := by decide +kernel
theorem dX5_init_0 : decode cX5_init 0 = .ok (.aload_n 0, 1) := by decide +kernel
theorem dX5_init_1 : decode cX5_init 1 = .ok (.invokespecial 3, 3) := by decide +kernel
theorem dX5_init_4 : decode cX5_init 4 = .ok (.aload_n 0, 1) := by decide +kernel
theorem dX5_init_5 : decode cX5_init 5 = .ok (.new 9, 3) := by decide +kernel
theorem dX5_init_8 : decode cX5_init 8 = .ok (.dup, 1) := by decide +kernel
theorem dX5_init_9 : decode cX5_init 9 = .ok (.invokespecial 11, 3) := by decide +kernel
theorem dX5_init_12 : decode cX5_init 12 = .ok (.putfield 12, 3) := by decide +kernel
theorem dX5_init_15 : decode cX5_init 15 = .ok (.aload_n 0, 1) := by decide +kernel
theorem dX5_init_16 : decode cX5_init 16 = .ok (.iconst 0, 1) := by decide +kernel
theorem dX5_init_17 : decode cX5_init 17 = .ok (.putfield 18, 3) := by decide +kernel
theorem dX5_init_20 : decode cX5_init 20 = .ok (.aload_n 0, 1) := by decide +kernel
theorem dX5_init_21 : decode cX5_init 21 = .ok (.iconst 0, 1) := by decide +kernel
theorem dX5_init_22 : decode cX5_init 22 = .ok (.putfield 22, 3) := by decide +kernel
theorem dX5_init_25 : decode cX5_init 25 = .ok (.aload_n 0, 1) := by decide +kernel
theorem dX5_init_26 : decode cX5_init 26 = .ok (.iconst 0, 1) := by decide +kernel
theorem dX5_init_27 : decode cX5_init 27 = .ok (.putfield 25, 3) := by decide +kernel
theorem dX5_init_30 : decode cX5_init 30 = .ok (.aload_n 0, 1) := by decide +kernel
theorem dX5_init_31 : decode cX5_init 31 = .ok (.iconst 0, 1) := by decide +kernel
theorem dX5_init_32 : decode cX5_init 32 = .ok (.putfield 28, 3) := by decide +kernel
theorem dX5_init_35 : decode cX5_init 35 = .ok (.aload_n 0, 1) := by decide +kernel
theorem dX5_init_36 : decode cX5_init 36 = .ok (.iconst (-1), 1) := by decide +kernel
theorem dX5_init_37 : decode cX5_init 37 = .ok (.putfield 31, 3) := by decide +kernel
theorem dX5_init_40 : decode cX5_init 40 = .ok (.aload_n 0, 1) := by decide +kernel
theorem dX5_init_41 : decode cX5_init 41 = .ok (.aload_n 1, 1) := by decide +kernel
theorem dX5_init_42 : decode cX5_init 42 = .ok (.putfield 34, 3) := by decide +kernel
theorem dX5_init_45 : decode cX5_init 45 = .ok (.return_, 1) := by decide +kernel
theorem dX5_read_0 : decode cX5_read 0 = .ok (.aload_n 0, 1) := by decide +kernel
theorem dX5_read_1 : decode cX5_read 1 = .ok (.getfield 12, 3) := by decide +kernel
theorem dX5_read_4 : decode cX5_read 4 = .ok (.invokevirtual 38, 3) := by decide +kernel
theorem dX5_read_7 : decode cX5_read 7 = .ok (.aload_n 0, 1) := by decide +kernel
theorem dX5_read_8 : decode cX5_read 8 = .ok (.iload_n 1, 1) := by decide +kernel
theorem dX5_read_9 : decode cX5_read 9 = .ok (.aload_n 0, 1) := by decide +kernel
theorem dX5_read_10 : decode cX5_read 10 = .ok (.getfield 34, 3) := by decide +kernel
theorem dX5_read_13 : decode cX5_read 13 = .ok (.arraylength, 1) := by decide +kernel
theorem dX5_read_14 : decode cX5_read 14 = .ok (.invokestatic 41, 3) := by decide +kernel
theorem dX5_read_17 : decode cX5_read 17 = .ok (.putfield 18, 3) := by decide +kernel
theorem dX5_read_20 : decode cX5_read 20 = .ok (.aload_n 0, 1) := by decide +kernel
theorem dX5_read_21 : decode cX5_read 21 = .ok (.iconst 0, 1) := by decide +kernel
theorem dX5_read_22 : decode cX5_read 22 = .ok (.putfield 22, 3) := by decide +kernel
theorem dX5_read_25 : decode cX5_read 25 = .ok (.aload_n 0, 1) := by decide +kernel
theorem dX5_read_26 : decode cX5_read 26 = .ok (.iconst 0, 1) := by decide +kernel
theorem dX5_read_27 : decode cX5_read 27 = .ok (.putfield 25, 3) := by decide +kernel
theorem dX5_read_30 : decode cX5_read 30 = .ok (.aload_n 0, 1) := by decide +kernel
theorem dX5_read_31 : decode cX5_read 31 = .ok (.iconst 0, 1) := by decide +kernel
theorem dX5_read_32 : decode cX5_read 32 = .ok (.putfield 28, 3) := by decide +kernel
theorem dX5_read_35 : decode cX5_read 35 = .ok (.aload_n 0, 1) := by decide +kernel
theorem dX5_read_36 : decode cX5_read 36 = .ok (.iconst (-1), 1) := by decide +kernel
theorem dX5_read_37 : decode cX5_read 37 = .ok (.putfield 31, 3) := by decide +kernel
theorem dX5_read_40 : decode cX5_read 40 = .ok (.aload_n 0, 1) := by decide +kernel
theorem dX5_read_41 : decode cX5_read 41 = .ok (.invokevirtual 47, 3) := by decide +kernel
theorem dX5_read_44 : decode cX5_read 44 = .ok (.iconst 0, 1) := by decide +kernel
theorem dX5_read_45 : decode cX5_read 45 = .ok (.istore_n 2, 1) := by decide +kernel
theorem dX5_read_46 : decode cX5_read 46 = .ok (.iload_n 2, 1) := by decide +kernel
theorem dX5_read_47 : decode cX5_read 47 = .ok (.bipush 60, 2) := by decide +kernel
theorem dX5_read_49 : decode cX5_read 49 = .ok (.if_icmp .gt 35, 3) := by decide +kernel
theorem dX5_read_52 : decode cX5_read 52 = .ok (.aload_n 0, 1) := by decide +kernel
theorem dX5_read_53 : decode cX5_read 53 = .ok (.getfield 28, 3) := by decide +kernel
theorem dX5_read_56 : decode cX5_read 56 = .ok (.ifCond .ne 28, 3) := by decide +kernel
theorem dX5_read_59 : decode cX5_read 59 = .ok (.aload_n 0, 1) := by decide +kernel
theorem dX5_read_60 : decode cX5_read 60 = .ok (.getfield 22, 3) := by decide +kernel
theorem dX5_read_63 : decode cX5_read 63 = .ok (.aload_n 0, 1) := by decide +kernel
theorem dX5_read_64 : decode cX5_read 64 = .ok (.getfield 18, 3) := by decide +kernel
theorem dX5_read_67 : decode cX5_read 67 = .ok (.if_icmp .ge 17, 3) := by decide +kernel
theorem dX5_read_70 : decode cX5_read 70 = .ok (.aload_n 0, 1) := by decide +kernel
theorem dX5_read_71 : decode cX5_read 71 = .ok (.invokevirtual 50, 3) := by decide +kernel
theorem dX5_read_74 : decode cX5_read 74 = .ok (.aload_n 0, 1) := by decide +kernel
theorem dX5_read_75 : decode cX5_read 75 = .ok (.invokevirtual 47, 3) := by decide +kernel
theorem dX5_read_78 : decode cX5_read 78 = .ok (.iinc 2 1, 3) := by decide +kernel
theorem dX5_read_81 : decode cX5_read 81 = .ok (.goto (-35), 3) := by decide +kernel
theorem dX5_read_84 : decode cX5_read 84 = .ok (.return_, 1) := by decide +kernel
theorem dX5_blame_0 : decode cX5_blame 0 = .ok (.aload_n 0, 1) := by decide +kernel
theorem dX5_blame_1 : decode cX5_blame 1 = .ok (.getfield 28, 3) := by decide +kernel
theorem dX5_blame_4 : decode cX5_blame 4 = .ok (.ifCond .ne 13, 3) := by decide +kernel
theorem dX5_blame_7 : decode cX5_blame 7 = .ok (.aload_n 0, 1) := by decide +kernel
theorem dX5_blame_8 : decode cX5_blame 8 = .ok (.iload_n 1, 1) := by decide +kernel
theorem dX5_blame_9 : decode cX5_blame 9 = .ok (.putfield 28, 3) := by decide +kernel
theorem dX5_blame_12 : decode cX5_blame 12 = .ok (.aload_n 0, 1) := by decide +kernel
theorem dX5_blame_13 : decode cX5_blame 13 = .ok (.iload_n 2, 1) := by decide +kernel
theorem dX5_blame_14 : decode cX5_blame 14 = .ok (.putfield 31, 3) := by decide +kernel
theorem dX5_blame_17 : decode cX5_blame 17 = .ok (.return_, 1) := by decide +kernel
theorem dX5_skipBlanks_0 : decode cX5_skipBlanks 0 = .ok (.aload_n 0, 1) := by decide +kernel
theorem dX5_skipBlanks_1 : decode cX5_skipBlanks 1 = .ok (.getfield 22, 3) := by decide +kernel
theorem dX5_skipBlanks_4 : decode cX5_skipBlanks 4 = .ok (.aload_n 0, 1) := by decide +kernel
theorem dX5_skipBlanks_5 : decode cX5_skipBlanks 5 = .ok (.getfield 18, 3) := by decide +kernel
theorem dX5_skipBlanks_8 : decode cX5_skipBlanks 8 = .ok (.if_icmp .ge 30, 3) := by decide +kernel
theorem dX5_skipBlanks_11 : decode cX5_skipBlanks 11 = .ok (.aload_n 0, 1) := by decide +kernel
theorem dX5_skipBlanks_12 : decode cX5_skipBlanks 12 = .ok (.getfield 34, 3) := by decide +kernel
theorem dX5_skipBlanks_15 : decode cX5_skipBlanks 15 = .ok (.aload_n 0, 1) := by decide +kernel
theorem dX5_skipBlanks_16 : decode cX5_skipBlanks 16 = .ok (.getfield 22, 3) := by decide +kernel
theorem dX5_skipBlanks_19 : decode cX5_skipBlanks 19 = .ok (.baload, 1) := by decide +kernel
theorem dX5_skipBlanks_20 : decode cX5_skipBlanks 20 = .ok (.bipush 32, 2) := by decide +kernel
theorem dX5_skipBlanks_22 : decode cX5_skipBlanks 22 = .ok (.if_icmp .ne 16, 3) := by decide +kernel
theorem dX5_skipBlanks_25 : decode cX5_skipBlanks 25 = .ok (.aload_n 0, 1) := by decide +kernel
theorem dX5_skipBlanks_26 : decode cX5_skipBlanks 26 = .ok (.dup, 1) := by decide +kernel
theorem dX5_skipBlanks_27 : decode cX5_skipBlanks 27 = .ok (.getfield 22, 3) := by decide +kernel
theorem dX5_skipBlanks_30 : decode cX5_skipBlanks 30 = .ok (.iconst 1, 1) := by decide +kernel
theorem dX5_skipBlanks_31 : decode cX5_skipBlanks 31 = .ok (.iadd, 1) := by decide +kernel
theorem dX5_skipBlanks_32 : decode cX5_skipBlanks 32 = .ok (.putfield 22, 3) := by decide +kernel
theorem dX5_skipBlanks_35 : decode cX5_skipBlanks 35 = .ok (.goto (-35), 3) := by decide +kernel
theorem dX5_skipBlanks_38 : decode cX5_skipBlanks 38 = .ok (.return_, 1) := by decide +kernel
theorem dX5_readClause_0 : decode cX5_readClause 0 = .ok (.aload_n 0, 1) := by decide +kernel
theorem dX5_readClause_1 : decode cX5_readClause 1 = .ok (.getfield 22, 3) := by decide +kernel
theorem dX5_readClause_4 : decode cX5_readClause 4 = .ok (.istore_n 1, 1) := by decide +kernel
theorem dX5_readClause_5 : decode cX5_readClause 5 = .ok (.aload_n 0, 1) := by decide +kernel
theorem dX5_readClause_6 : decode cX5_readClause 6 = .ok (.invokevirtual 53, 3) := by decide +kernel
theorem dX5_readClause_9 : decode cX5_readClause 9 = .ok (.istore_n 2, 1) := by decide +kernel
theorem dX5_readClause_10 : decode cX5_readClause 10 = .ok (.iload_n 2, 1) := by decide +kernel
theorem dX5_readClause_11 : decode cX5_readClause 11 = .ok (.iconst (-1), 1) := by decide +kernel
theorem dX5_readClause_12 : decode cX5_readClause 12 = .ok (.if_icmp .ne 10, 3) := by decide +kernel
theorem dX5_readClause_15 : decode cX5_readClause 15 = .ok (.aload_n 0, 1) := by decide +kernel
theorem dX5_readClause_16 : decode cX5_readClause 16 = .ok (.iconst 1, 1) := by decide +kernel
theorem dX5_readClause_17 : decode cX5_readClause 17 = .ok (.iload_n 1, 1) := by decide +kernel
theorem dX5_readClause_18 : decode cX5_readClause 18 = .ok (.invokevirtual 57, 3) := by decide +kernel
theorem dX5_readClause_21 : decode cX5_readClause 21 = .ok (.return_, 1) := by decide +kernel
theorem dX5_readClause_22 : decode cX5_readClause 22 = .ok (.aload_n 0, 1) := by decide +kernel
theorem dX5_readClause_23 : decode cX5_readClause 23 = .ok (.getfield 25, 3) := by decide +kernel
theorem dX5_readClause_26 : decode cX5_readClause 26 = .ok (.bipush 60, 2) := by decide +kernel
theorem dX5_readClause_28 : decode cX5_readClause 28 = .ok (.if_icmp .ge 11, 3) := by decide +kernel
theorem dX5_readClause_31 : decode cX5_readClause 31 = .ok (.aload_n 0, 1) := by decide +kernel
theorem dX5_readClause_32 : decode cX5_readClause 32 = .ok (.iload_n 2, 1) := by decide +kernel
theorem dX5_readClause_33 : decode cX5_readClause 33 = .ok (.invokevirtual 61, 3) := by decide +kernel
theorem dX5_readClause_36 : decode cX5_readClause 36 = .ok (.ifCond .eq 10, 3) := by decide +kernel
theorem dX5_readClause_39 : decode cX5_readClause 39 = .ok (.aload_n 0, 1) := by decide +kernel
theorem dX5_readClause_40 : decode cX5_readClause 40 = .ok (.iconst 3, 1) := by decide +kernel
theorem dX5_readClause_41 : decode cX5_readClause 41 = .ok (.iload_n 1, 1) := by decide +kernel
theorem dX5_readClause_42 : decode cX5_readClause 42 = .ok (.invokevirtual 57, 3) := by decide +kernel
theorem dX5_readClause_45 : decode cX5_readClause 45 = .ok (.return_, 1) := by decide +kernel
theorem dX5_readClause_46 : decode cX5_readClause 46 = .ok (.aload_n 0, 1) := by decide +kernel
theorem dX5_readClause_47 : decode cX5_readClause 47 = .ok (.dup, 1) := by decide +kernel
theorem dX5_readClause_48 : decode cX5_readClause 48 = .ok (.getfield 25, 3) := by decide +kernel
theorem dX5_readClause_51 : decode cX5_readClause 51 = .ok (.iconst 1, 1) := by decide +kernel
theorem dX5_readClause_52 : decode cX5_readClause 52 = .ok (.iadd, 1) := by decide +kernel
theorem dX5_readClause_53 : decode cX5_readClause 53 = .ok (.putfield 25, 3) := by decide +kernel
theorem dX5_readClause_56 : decode cX5_readClause 56 = .ok (.aload_n 0, 1) := by decide +kernel
theorem dX5_readClause_57 : decode cX5_readClause 57 = .ok (.iload_n 2, 1) := by decide +kernel
theorem dX5_readClause_58 : decode cX5_readClause 58 = .ok (.invokevirtual 65, 3) := by decide +kernel
theorem dX5_readClause_61 : decode cX5_readClause 61 = .ok (.aload_n 0, 1) := by decide +kernel
theorem dX5_readClause_62 : decode cX5_readClause 62 = .ok (.invokevirtual 69, 3) := by decide +kernel
theorem dX5_readClause_65 : decode cX5_readClause 65 = .ok (.return_, 1) := by decide +kernel
theorem dX5_readWord_0 : decode cX5_readWord 0 = .ok (.aload_n 0, 1) := by decide +kernel
theorem dX5_readWord_1 : decode cX5_readWord 1 = .ok (.getfield 22, 3) := by decide +kernel
theorem dX5_readWord_4 : decode cX5_readWord 4 = .ok (.istore_n 1, 1) := by decide +kernel
theorem dX5_readWord_5 : decode cX5_readWord 5 = .ok (.aload_n 0, 1) := by decide +kernel
theorem dX5_readWord_6 : decode cX5_readWord 6 = .ok (.getfield 22, 3) := by decide +kernel
theorem dX5_readWord_9 : decode cX5_readWord 9 = .ok (.aload_n 0, 1) := by decide +kernel
theorem dX5_readWord_10 : decode cX5_readWord 10 = .ok (.getfield 18, 3) := by decide +kernel
theorem dX5_readWord_13 : decode cX5_readWord 13 = .ok (.if_icmp .ge 44, 3) := by decide +kernel
theorem dX5_readWord_16 : decode cX5_readWord 16 = .ok (.aload_n 0, 1) := by decide +kernel
theorem dX5_readWord_17 : decode cX5_readWord 17 = .ok (.getfield 34, 3) := by decide +kernel
theorem dX5_readWord_20 : decode cX5_readWord 20 = .ok (.aload_n 0, 1) := by decide +kernel
theorem dX5_readWord_21 : decode cX5_readWord 21 = .ok (.getfield 22, 3) := by decide +kernel
theorem dX5_readWord_24 : decode cX5_readWord 24 = .ok (.baload, 1) := by decide +kernel
theorem dX5_readWord_25 : decode cX5_readWord 25 = .ok (.bipush 97, 2) := by decide +kernel
theorem dX5_readWord_27 : decode cX5_readWord 27 = .ok (.if_icmp .lt 30, 3) := by decide +kernel
theorem dX5_readWord_30 : decode cX5_readWord 30 = .ok (.aload_n 0, 1) := by decide +kernel
theorem dX5_readWord_31 : decode cX5_readWord 31 = .ok (.getfield 34, 3) := by decide +kernel
theorem dX5_readWord_34 : decode cX5_readWord 34 = .ok (.aload_n 0, 1) := by decide +kernel
theorem dX5_readWord_35 : decode cX5_readWord 35 = .ok (.getfield 22, 3) := by decide +kernel
theorem dX5_readWord_38 : decode cX5_readWord 38 = .ok (.baload, 1) := by decide +kernel
theorem dX5_readWord_39 : decode cX5_readWord 39 = .ok (.bipush 122, 2) := by decide +kernel
theorem dX5_readWord_41 : decode cX5_readWord 41 = .ok (.if_icmp .gt 16, 3) := by decide +kernel
theorem dX5_readWord_44 : decode cX5_readWord 44 = .ok (.aload_n 0, 1) := by decide +kernel
theorem dX5_readWord_45 : decode cX5_readWord 45 = .ok (.dup, 1) := by decide +kernel
theorem dX5_readWord_46 : decode cX5_readWord 46 = .ok (.getfield 22, 3) := by decide +kernel
theorem dX5_readWord_49 : decode cX5_readWord 49 = .ok (.iconst 1, 1) := by decide +kernel
theorem dX5_readWord_50 : decode cX5_readWord 50 = .ok (.iadd, 1) := by decide +kernel
theorem dX5_readWord_51 : decode cX5_readWord 51 = .ok (.putfield 22, 3) := by decide +kernel
theorem dX5_readWord_54 : decode cX5_readWord 54 = .ok (.goto (-49), 3) := by decide +kernel
theorem dX5_readWord_57 : decode cX5_readWord 57 = .ok (.aload_n 0, 1) := by decide +kernel
theorem dX5_readWord_58 : decode cX5_readWord 58 = .ok (.iload_n 1, 1) := by decide +kernel
theorem dX5_readWord_59 : decode cX5_readWord 59 = .ok (.ldc 72, 2) := by decide +kernel
theorem dX5_readWord_61 : decode cX5_readWord 61 = .ok (.invokevirtual 74, 3) := by decide +kernel
theorem dX5_readWord_64 : decode cX5_readWord 64 = .ok (.ifCond .eq 5, 3) := by decide +kernel
theorem dX5_readWord_67 : decode cX5_readWord 67 = .ok (.iconst 0, 1) := by decide +kernel
theorem dX5_readWord_68 : decode cX5_readWord 68 = .ok (.ireturn, 1) := by decide +kernel
theorem dX5_readWord_69 : decode cX5_readWord 69 = .ok (.aload_n 0, 1) := by decide +kernel
theorem dX5_readWord_70 : decode cX5_readWord 70 = .ok (.iload_n 1, 1) := by decide +kernel
theorem dX5_readWord_71 : decode cX5_readWord 71 = .ok (.ldc 78, 2) := by decide +kernel
theorem dX5_readWord_73 : decode cX5_readWord 73 = .ok (.invokevirtual 74, 3) := by decide +kernel
theorem dX5_readWord_76 : decode cX5_readWord 76 = .ok (.ifCond .eq 5, 3) := by decide +kernel
theorem dX5_readWord_79 : decode cX5_readWord 79 = .ok (.iconst 1, 1) := by decide +kernel
theorem dX5_readWord_80 : decode cX5_readWord 80 = .ok (.ireturn, 1) := by decide +kernel
theorem dX5_readWord_81 : decode cX5_readWord 81 = .ok (.aload_n 0, 1) := by decide +kernel
theorem dX5_readWord_82 : decode cX5_readWord 82 = .ok (.iload_n 1, 1) := by decide +kernel
theorem dX5_readWord_83 : decode cX5_readWord 83 = .ok (.ldc 80, 2) := by decide +kernel
theorem dX5_readWord_85 : decode cX5_readWord 85 = .ok (.invokevirtual 74, 3) := by decide +kernel
theorem dX5_readWord_88 : decode cX5_readWord 88 = .ok (.ifCond .eq 5, 3) := by decide +kernel
theorem dX5_readWord_91 : decode cX5_readWord 91 = .ok (.iconst 2, 1) := by decide +kernel
theorem dX5_readWord_92 : decode cX5_readWord 92 = .ok (.ireturn, 1) := by decide +kernel
theorem dX5_readWord_93 : decode cX5_readWord 93 = .ok (.aload_n 0, 1) := by decide +kernel
theorem dX5_readWord_94 : decode cX5_readWord 94 = .ok (.iload_n 1, 1) := by decide +kernel
theorem dX5_readWord_95 : decode cX5_readWord 95 = .ok (.ldc 82, 2) := by decide +kernel
theorem dX5_readWord_97 : decode cX5_readWord 97 = .ok (.invokevirtual 74, 3) := by decide +kernel
theorem dX5_readWord_100 : decode cX5_readWord 100 = .ok (.ifCond .eq 5, 3) := by decide +kernel
theorem dX5_readWord_103 : decode cX5_readWord 103 = .ok (.iconst 3, 1) := by decide +kernel
theorem dX5_readWord_104 : decode cX5_readWord 104 = .ok (.ireturn, 1) := by decide +kernel
theorem dX5_readWord_105 : decode cX5_readWord 105 = .ok (.aload_n 0, 1) := by decide +kernel
theorem dX5_readWord_106 : decode cX5_readWord 106 = .ok (.iload_n 1, 1) := by decide +kernel
theorem dX5_readWord_107 : decode cX5_readWord 107 = .ok (.ldc 84, 2) := by decide +kernel
theorem dX5_readWord_109 : decode cX5_readWord 109 = .ok (.invokevirtual 74, 3) := by decide +kernel
theorem dX5_readWord_112 : decode cX5_readWord 112 = .ok (.ifCond .eq 5, 3) := by decide +kernel
theorem dX5_readWord_115 : decode cX5_readWord 115 = .ok (.iconst 4, 1) := by decide +kernel
theorem dX5_readWord_116 : decode cX5_readWord 116 = .ok (.ireturn, 1) := by decide +kernel
theorem dX5_readWord_117 : decode cX5_readWord 117 = .ok (.aload_n 0, 1) := by decide +kernel
theorem dX5_readWord_118 : decode cX5_readWord 118 = .ok (.iload_n 1, 1) := by decide +kernel
theorem dX5_readWord_119 : decode cX5_readWord 119 = .ok (.ldc 86, 2) := by decide +kernel
theorem dX5_readWord_121 : decode cX5_readWord 121 = .ok (.invokevirtual 74, 3) := by decide +kernel
theorem dX5_readWord_124 : decode cX5_readWord 124 = .ok (.ifCond .eq 5, 3) := by decide +kernel
theorem dX5_readWord_127 : decode cX5_readWord 127 = .ok (.iconst 5, 1) := by decide +kernel
theorem dX5_readWord_128 : decode cX5_readWord 128 = .ok (.ireturn, 1) := by decide +kernel
theorem dX5_readWord_129 : decode cX5_readWord 129 = .ok (.aload_n 0, 1) := by decide +kernel
theorem dX5_readWord_130 : decode cX5_readWord 130 = .ok (.iload_n 1, 1) := by decide +kernel
theorem dX5_readWord_131 : decode cX5_readWord 131 = .ok (.ldc 88, 2) := by decide +kernel
theorem dX5_readWord_133 : decode cX5_readWord 133 = .ok (.invokevirtual 74, 3) := by decide +kernel
theorem dX5_readWord_136 : decode cX5_readWord 136 = .ok (.ifCond .eq 8, 3) := by decide +kernel
theorem dX5_readWord_139 : decode cX5_readWord 139 = .ok (.bipush 6, 2) := by decide +kernel
theorem dX5_readWord_141 : decode cX5_readWord 141 = .ok (.goto 4, 3) := by decide +kernel
theorem dX5_readWord_144 : decode cX5_readWord 144 = .ok (.iconst (-1), 1) := by decide +kernel
theorem dX5_readWord_145 : decode cX5_readWord 145 = .ok (.ireturn, 1) := by decide +kernel
theorem dX5_isWord_0 : decode cX5_isWord 0 = .ok (.aload_n 0, 1) := by decide +kernel
theorem dX5_isWord_1 : decode cX5_isWord 1 = .ok (.getfield 22, 3) := by decide +kernel
theorem dX5_isWord_4 : decode cX5_isWord 4 = .ok (.iload_n 1, 1) := by decide +kernel
theorem dX5_isWord_5 : decode cX5_isWord 5 = .ok (.isub, 1) := by decide +kernel
theorem dX5_isWord_6 : decode cX5_isWord 6 = .ok (.aload_n 2, 1) := by decide +kernel
theorem dX5_isWord_7 : decode cX5_isWord 7 = .ok (.invokevirtual 90, 3) := by decide +kernel
theorem dX5_isWord_10 : decode cX5_isWord 10 = .ok (.if_icmp .eq 5, 3) := by decide +kernel
theorem dX5_isWord_13 : decode cX5_isWord 13 = .ok (.iconst 0, 1) := by decide +kernel
theorem dX5_isWord_14 : decode cX5_isWord 14 = .ok (.ireturn, 1) := by decide +kernel
theorem dX5_isWord_15 : decode cX5_isWord 15 = .ok (.iconst 0, 1) := by decide +kernel
theorem dX5_isWord_16 : decode cX5_isWord 16 = .ok (.istore_n 3, 1) := by decide +kernel
theorem dX5_isWord_17 : decode cX5_isWord 17 = .ok (.iload_n 3, 1) := by decide +kernel
theorem dX5_isWord_18 : decode cX5_isWord 18 = .ok (.aload_n 2, 1) := by decide +kernel
theorem dX5_isWord_19 : decode cX5_isWord 19 = .ok (.invokevirtual 90, 3) := by decide +kernel
theorem dX5_isWord_22 : decode cX5_isWord 22 = .ok (.if_icmp .ge 27, 3) := by decide +kernel
theorem dX5_isWord_25 : decode cX5_isWord 25 = .ok (.aload_n 0, 1) := by decide +kernel
theorem dX5_isWord_26 : decode cX5_isWord 26 = .ok (.getfield 34, 3) := by decide +kernel
theorem dX5_isWord_29 : decode cX5_isWord 29 = .ok (.iload_n 1, 1) := by decide +kernel
theorem dX5_isWord_30 : decode cX5_isWord 30 = .ok (.iload_n 3, 1) := by decide +kernel
theorem dX5_isWord_31 : decode cX5_isWord 31 = .ok (.iadd, 1) := by decide +kernel
theorem dX5_isWord_32 : decode cX5_isWord 32 = .ok (.baload, 1) := by decide +kernel
theorem dX5_isWord_33 : decode cX5_isWord 33 = .ok (.aload_n 2, 1) := by decide +kernel
theorem dX5_isWord_34 : decode cX5_isWord 34 = .ok (.iload_n 3, 1) := by decide +kernel
theorem dX5_isWord_35 : decode cX5_isWord 35 = .ok (.invokevirtual 94, 3) := by decide +kernel
theorem dX5_isWord_38 : decode cX5_isWord 38 = .ok (.if_icmp .eq 5, 3) := by decide +kernel
theorem dX5_isWord_41 : decode cX5_isWord 41 = .ok (.iconst 0, 1) := by decide +kernel
theorem dX5_isWord_42 : decode cX5_isWord 42 = .ok (.ireturn, 1) := by decide +kernel
theorem dX5_isWord_43 : decode cX5_isWord 43 = .ok (.iinc 3 1, 3) := by decide +kernel
theorem dX5_isWord_46 : decode cX5_isWord 46 = .ok (.goto (-29), 3) := by decide +kernel
theorem dX5_isWord_49 : decode cX5_isWord 49 = .ok (.iconst 1, 1) := by decide +kernel
theorem dX5_isWord_50 : decode cX5_isWord 50 = .ok (.ireturn, 1) := by decide +kernel
theorem dX5_isFull_0 : decode cX5_isFull 0 = .ok (.iload_n 1, 1) := by decide +kernel
theorem dX5_isFull_1 : decode cX5_isFull 1 = .ok (.tableswitch 103 0 3 #[31, 49, 67, 85], 31) := by decide +kernel
theorem dX5_isFull_32 : decode cX5_isFull 32 = .ok (.aload_n 0, 1) := by decide +kernel
theorem dX5_isFull_33 : decode cX5_isFull 33 = .ok (.getfield 12, 3) := by decide +kernel
theorem dX5_isFull_36 : decode cX5_isFull 36 = .ok (.getfield 98, 3) := by decide +kernel
theorem dX5_isFull_39 : decode cX5_isFull 39 = .ok (.bipush 6, 2) := by decide +kernel
theorem dX5_isFull_41 : decode cX5_isFull 41 = .ok (.if_icmp .lt 7, 3) := by decide +kernel
theorem dX5_isFull_44 : decode cX5_isFull 44 = .ok (.iconst 1, 1) := by decide +kernel
theorem dX5_isFull_45 : decode cX5_isFull 45 = .ok (.goto 4, 3) := by decide +kernel
theorem dX5_isFull_48 : decode cX5_isFull 48 = .ok (.iconst 0, 1) := by decide +kernel
theorem dX5_isFull_49 : decode cX5_isFull 49 = .ok (.ireturn, 1) := by decide +kernel
theorem dX5_isFull_50 : decode cX5_isFull 50 = .ok (.aload_n 0, 1) := by decide +kernel
theorem dX5_isFull_51 : decode cX5_isFull 51 = .ok (.getfield 12, 3) := by decide +kernel
theorem dX5_isFull_54 : decode cX5_isFull 54 = .ok (.getfield 101, 3) := by decide +kernel
theorem dX5_isFull_57 : decode cX5_isFull 57 = .ok (.bipush 12, 2) := by decide +kernel
theorem dX5_isFull_59 : decode cX5_isFull 59 = .ok (.if_icmp .lt 7, 3) := by decide +kernel
theorem dX5_isFull_62 : decode cX5_isFull 62 = .ok (.iconst 1, 1) := by decide +kernel
theorem dX5_isFull_63 : decode cX5_isFull 63 = .ok (.goto 4, 3) := by decide +kernel
theorem dX5_isFull_66 : decode cX5_isFull 66 = .ok (.iconst 0, 1) := by decide +kernel
theorem dX5_isFull_67 : decode cX5_isFull 67 = .ok (.ireturn, 1) := by decide +kernel
theorem dX5_isFull_68 : decode cX5_isFull 68 = .ok (.aload_n 0, 1) := by decide +kernel
theorem dX5_isFull_69 : decode cX5_isFull 69 = .ok (.getfield 12, 3) := by decide +kernel
theorem dX5_isFull_72 : decode cX5_isFull 72 = .ok (.getfield 104, 3) := by decide +kernel
theorem dX5_isFull_75 : decode cX5_isFull 75 = .ok (.bipush 6, 2) := by decide +kernel
theorem dX5_isFull_77 : decode cX5_isFull 77 = .ok (.if_icmp .lt 7, 3) := by decide +kernel
theorem dX5_isFull_80 : decode cX5_isFull 80 = .ok (.iconst 1, 1) := by decide +kernel
theorem dX5_isFull_81 : decode cX5_isFull 81 = .ok (.goto 4, 3) := by decide +kernel
theorem dX5_isFull_84 : decode cX5_isFull 84 = .ok (.iconst 0, 1) := by decide +kernel
theorem dX5_isFull_85 : decode cX5_isFull 85 = .ok (.ireturn, 1) := by decide +kernel
theorem dX5_isFull_86 : decode cX5_isFull 86 = .ok (.aload_n 0, 1) := by decide +kernel
theorem dX5_isFull_87 : decode cX5_isFull 87 = .ok (.getfield 12, 3) := by decide +kernel
theorem dX5_isFull_90 : decode cX5_isFull 90 = .ok (.getfield 107, 3) := by decide +kernel
theorem dX5_isFull_93 : decode cX5_isFull 93 = .ok (.bipush 24, 2) := by decide +kernel
theorem dX5_isFull_95 : decode cX5_isFull 95 = .ok (.if_icmp .lt 7, 3) := by decide +kernel
theorem dX5_isFull_98 : decode cX5_isFull 98 = .ok (.iconst 1, 1) := by decide +kernel
theorem dX5_isFull_99 : decode cX5_isFull 99 = .ok (.goto 4, 3) := by decide +kernel
theorem dX5_isFull_102 : decode cX5_isFull 102 = .ok (.iconst 0, 1) := by decide +kernel
theorem dX5_isFull_103 : decode cX5_isFull 103 = .ok (.ireturn, 1) := by decide +kernel
theorem dX5_isFull_104 : decode cX5_isFull 104 = .ok (.iconst 0, 1) := by decide +kernel
theorem dX5_isFull_105 : decode cX5_isFull 105 = .ok (.ireturn, 1) := by decide +kernel
theorem dX5_readNumbers_0 : decode cX5_readNumbers 0 = .ok (.iload_n 1, 1) := by decide +kernel
theorem dX5_readNumbers_1 : decode cX5_readNumbers 1 = .ok (.tableswitch 101 0 5 #[39, 46, 53, 60, 67, 84], 39) := by decide +kernel
theorem dX5_readNumbers_40 : decode cX5_readNumbers 40 = .ok (.aload_n 0, 1) := by decide +kernel
theorem dX5_readNumbers_41 : decode cX5_readNumbers 41 = .ok (.invokevirtual 110, 3) := by decide +kernel
theorem dX5_readNumbers_44 : decode cX5_readNumbers 44 = .ok (.goto 72, 3) := by decide +kernel
theorem dX5_readNumbers_47 : decode cX5_readNumbers 47 = .ok (.aload_n 0, 1) := by decide +kernel
theorem dX5_readNumbers_48 : decode cX5_readNumbers 48 = .ok (.invokevirtual 113, 3) := by decide +kernel
theorem dX5_readNumbers_51 : decode cX5_readNumbers 51 = .ok (.goto 65, 3) := by decide +kernel
theorem dX5_readNumbers_54 : decode cX5_readNumbers 54 = .ok (.aload_n 0, 1) := by decide +kernel
theorem dX5_readNumbers_55 : decode cX5_readNumbers 55 = .ok (.invokevirtual 116, 3) := by decide +kernel
theorem dX5_readNumbers_58 : decode cX5_readNumbers 58 = .ok (.goto 58, 3) := by decide +kernel
theorem dX5_readNumbers_61 : decode cX5_readNumbers 61 = .ok (.aload_n 0, 1) := by decide +kernel
theorem dX5_readNumbers_62 : decode cX5_readNumbers 62 = .ok (.invokevirtual 119, 3) := by decide +kernel
theorem dX5_readNumbers_65 : decode cX5_readNumbers 65 = .ok (.goto 51, 3) := by decide +kernel
theorem dX5_readNumbers_68 : decode cX5_readNumbers 68 = .ok (.aload_n 0, 1) := by decide +kernel
theorem dX5_readNumbers_69 : decode cX5_readNumbers 69 = .ok (.getfield 12, 3) := by decide +kernel
theorem dX5_readNumbers_72 : decode cX5_readNumbers 72 = .ok (.aload_n 0, 1) := by decide +kernel
theorem dX5_readNumbers_73 : decode cX5_readNumbers 73 = .ok (.iconst 0, 1) := by decide +kernel
theorem dX5_readNumbers_74 : decode cX5_readNumbers 74 = .ok (.bipush 12, 2) := by decide +kernel
theorem dX5_readNumbers_76 : decode cX5_readNumbers 76 = .ok (.invokevirtual 122, 3) := by decide +kernel
theorem dX5_readNumbers_79 : decode cX5_readNumbers 79 = .ok (.putfield 125, 3) := by decide +kernel
theorem dX5_readNumbers_82 : decode cX5_readNumbers 82 = .ok (.goto 34, 3) := by decide +kernel
theorem dX5_readNumbers_85 : decode cX5_readNumbers 85 = .ok (.aload_n 0, 1) := by decide +kernel
theorem dX5_readNumbers_86 : decode cX5_readNumbers 86 = .ok (.getfield 12, 3) := by decide +kernel
theorem dX5_readNumbers_89 : decode cX5_readNumbers 89 = .ok (.aload_n 0, 1) := by decide +kernel
theorem dX5_readNumbers_90 : decode cX5_readNumbers 90 = .ok (.iconst 0, 1) := by decide +kernel
theorem dX5_readNumbers_91 : decode cX5_readNumbers 91 = .ok (.bipush 9, 2) := by decide +kernel
theorem dX5_readNumbers_93 : decode cX5_readNumbers 93 = .ok (.invokevirtual 122, 3) := by decide +kernel
theorem dX5_readNumbers_96 : decode cX5_readNumbers 96 = .ok (.putfield 127, 3) := by decide +kernel
theorem dX5_readNumbers_99 : decode cX5_readNumbers 99 = .ok (.goto 17, 3) := by decide +kernel
theorem dX5_readNumbers_102 : decode cX5_readNumbers 102 = .ok (.aload_n 0, 1) := by decide +kernel
theorem dX5_readNumbers_103 : decode cX5_readNumbers 103 = .ok (.getfield 12, 3) := by decide +kernel
theorem dX5_readNumbers_106 : decode cX5_readNumbers 106 = .ok (.aload_n 0, 1) := by decide +kernel
theorem dX5_readNumbers_107 : decode cX5_readNumbers 107 = .ok (.iconst 0, 1) := by decide +kernel
theorem dX5_readNumbers_108 : decode cX5_readNumbers 108 = .ok (.bipush 30, 2) := by decide +kernel
theorem dX5_readNumbers_110 : decode cX5_readNumbers 110 = .ok (.invokevirtual 122, 3) := by decide +kernel
theorem dX5_readNumbers_113 : decode cX5_readNumbers 113 = .ok (.putfield 129, 3) := by decide +kernel
theorem dX5_readNumbers_116 : decode cX5_readNumbers 116 = .ok (.return_, 1) := by decide +kernel
theorem dX5_readBlock_0 : decode cX5_readBlock 0 = .ok (.aload_n 0, 1) := by decide +kernel
theorem dX5_readBlock_1 : decode cX5_readBlock 1 = .ok (.iconst 2, 1) := by decide +kernel
theorem dX5_readBlock_2 : decode cX5_readBlock 2 = .ok (.bipush 12, 2) := by decide +kernel
theorem dX5_readBlock_4 : decode cX5_readBlock 4 = .ok (.invokevirtual 122, 3) := by decide +kernel
theorem dX5_readBlock_7 : decode cX5_readBlock 7 = .ok (.istore_n 1, 1) := by decide +kernel
theorem dX5_readBlock_8 : decode cX5_readBlock 8 = .ok (.aload_n 0, 1) := by decide +kernel
theorem dX5_readBlock_9 : decode cX5_readBlock 9 = .ok (.iconst 2, 1) := by decide +kernel
theorem dX5_readBlock_10 : decode cX5_readBlock 10 = .ok (.bipush 12, 2) := by decide +kernel
theorem dX5_readBlock_12 : decode cX5_readBlock 12 = .ok (.invokevirtual 122, 3) := by decide +kernel
theorem dX5_readBlock_15 : decode cX5_readBlock 15 = .ok (.istore_n 2, 1) := by decide +kernel
theorem dX5_readBlock_16 : decode cX5_readBlock 16 = .ok (.aload_n 0, 1) := by decide +kernel
theorem dX5_readBlock_17 : decode cX5_readBlock 17 = .ok (.iconst 0, 1) := by decide +kernel
theorem dX5_readBlock_18 : decode cX5_readBlock 18 = .ok (.iconst 1, 1) := by decide +kernel
theorem dX5_readBlock_19 : decode cX5_readBlock 19 = .ok (.invokevirtual 122, 3) := by decide +kernel
theorem dX5_readBlock_22 : decode cX5_readBlock 22 = .ok (.istore_n 3, 1) := by decide +kernel
theorem dX5_readBlock_23 : decode cX5_readBlock 23 = .ok (.aload_n 0, 1) := by decide +kernel
theorem dX5_readBlock_24 : decode cX5_readBlock 24 = .ok (.getfield 28, 3) := by decide +kernel
theorem dX5_readBlock_27 : decode cX5_readBlock 27 = .ok (.ifCond .ne 13, 3) := by decide +kernel
theorem dX5_readBlock_30 : decode cX5_readBlock 30 = .ok (.aload_n 0, 1) := by decide +kernel
theorem dX5_readBlock_31 : decode cX5_readBlock 31 = .ok (.getfield 12, 3) := by decide +kernel
theorem dX5_readBlock_34 : decode cX5_readBlock 34 = .ok (.iload_n 1, 1) := by decide +kernel
theorem dX5_readBlock_35 : decode cX5_readBlock 35 = .ok (.iload_n 2, 1) := by decide +kernel
theorem dX5_readBlock_36 : decode cX5_readBlock 36 = .ok (.iload_n 3, 1) := by decide +kernel
theorem dX5_readBlock_37 : decode cX5_readBlock 37 = .ok (.invokevirtual 131, 3) := by decide +kernel
theorem dX5_readBlock_40 : decode cX5_readBlock 40 = .ok (.return_, 1) := by decide +kernel
theorem dX5_readSlot_0 : decode cX5_readSlot 0 = .ok (.aload_n 0, 1) := by decide +kernel
theorem dX5_readSlot_1 : decode cX5_readSlot 1 = .ok (.iconst 0, 1) := by decide +kernel
theorem dX5_readSlot_2 : decode cX5_readSlot 2 = .ok (.aload_n 0, 1) := by decide +kernel
theorem dX5_readSlot_3 : decode cX5_readSlot 3 = .ok (.getfield 12, 3) := by decide +kernel
theorem dX5_readSlot_6 : decode cX5_readSlot 6 = .ok (.getfield 98, 3) := by decide +kernel
theorem dX5_readSlot_9 : decode cX5_readSlot 9 = .ok (.iconst 1, 1) := by decide +kernel
theorem dX5_readSlot_10 : decode cX5_readSlot 10 = .ok (.isub, 1) := by decide +kernel
theorem dX5_readSlot_11 : decode cX5_readSlot 11 = .ok (.invokevirtual 122, 3) := by decide +kernel
theorem dX5_readSlot_14 : decode cX5_readSlot 14 = .ok (.istore_n 1, 1) := by decide +kernel
theorem dX5_readSlot_15 : decode cX5_readSlot 15 = .ok (.aload_n 0, 1) := by decide +kernel
theorem dX5_readSlot_16 : decode cX5_readSlot 16 = .ok (.iconst 0, 1) := by decide +kernel
theorem dX5_readSlot_17 : decode cX5_readSlot 17 = .ok (.iconst 1, 1) := by decide +kernel
theorem dX5_readSlot_18 : decode cX5_readSlot 18 = .ok (.invokevirtual 122, 3) := by decide +kernel
theorem dX5_readSlot_21 : decode cX5_readSlot 21 = .ok (.istore_n 2, 1) := by decide +kernel
theorem dX5_readSlot_22 : decode cX5_readSlot 22 = .ok (.aload_n 0, 1) := by decide +kernel
theorem dX5_readSlot_23 : decode cX5_readSlot 23 = .ok (.getfield 12, 3) := by decide +kernel
theorem dX5_readSlot_26 : decode cX5_readSlot 26 = .ok (.getfield 135, 3) := by decide +kernel
theorem dX5_readSlot_29 : decode cX5_readSlot 29 = .ok (.iload_n 1, 1) := by decide +kernel
theorem dX5_readSlot_30 : decode cX5_readSlot 30 = .ok (.iconst 3, 1) := by decide +kernel
theorem dX5_readSlot_31 : decode cX5_readSlot 31 = .ok (.imul, 1) := by decide +kernel
theorem dX5_readSlot_32 : decode cX5_readSlot 32 = .ok (.iconst 0, 1) := by decide +kernel
theorem dX5_readSlot_33 : decode cX5_readSlot 33 = .ok (.iadd, 1) := by decide +kernel
theorem dX5_readSlot_34 : decode cX5_readSlot 34 = .ok (.iaload, 1) := by decide +kernel
theorem dX5_readSlot_35 : decode cX5_readSlot 35 = .ok (.istore_n 3, 1) := by decide +kernel
theorem dX5_readSlot_36 : decode cX5_readSlot 36 = .ok (.aload_n 0, 1) := by decide +kernel
theorem dX5_readSlot_37 : decode cX5_readSlot 37 = .ok (.getfield 12, 3) := by decide +kernel
theorem dX5_readSlot_40 : decode cX5_readSlot 40 = .ok (.getfield 135, 3) := by decide +kernel
theorem dX5_readSlot_43 : decode cX5_readSlot 43 = .ok (.iload_n 1, 1) := by decide +kernel
theorem dX5_readSlot_44 : decode cX5_readSlot 44 = .ok (.iconst 3, 1) := by decide +kernel
theorem dX5_readSlot_45 : decode cX5_readSlot 45 = .ok (.imul, 1) := by decide +kernel
theorem dX5_readSlot_46 : decode cX5_readSlot 46 = .ok (.iconst 1, 1) := by decide +kernel
theorem dX5_readSlot_47 : decode cX5_readSlot 47 = .ok (.iadd, 1) := by decide +kernel
theorem dX5_readSlot_48 : decode cX5_readSlot 48 = .ok (.iaload, 1) := by decide +kernel
theorem dX5_readSlot_49 : decode cX5_readSlot 49 = .ok (.istore 4, 2) := by decide +kernel
theorem dX5_readSlot_51 : decode cX5_readSlot 51 = .ok (.aload_n 0, 1) := by decide +kernel
theorem dX5_readSlot_52 : decode cX5_readSlot 52 = .ok (.iconst 1, 1) := by decide +kernel
theorem dX5_readSlot_53 : decode cX5_readSlot 53 = .ok (.iload_n 2, 1) := by decide +kernel
theorem dX5_readSlot_54 : decode cX5_readSlot 54 = .ok (.ifCond .ne 7, 3) := by decide +kernel
theorem dX5_readSlot_57 : decode cX5_readSlot 57 = .ok (.iload_n 3, 1) := by decide +kernel
theorem dX5_readSlot_58 : decode cX5_readSlot 58 = .ok (.goto 5, 3) := by decide +kernel
theorem dX5_readSlot_61 : decode cX5_readSlot 61 = .ok (.iload 4, 2) := by decide +kernel
theorem dX5_readSlot_63 : decode cX5_readSlot 63 = .ok (.iconst 1, 1) := by decide +kernel
theorem dX5_readSlot_64 : decode cX5_readSlot 64 = .ok (.isub, 1) := by decide +kernel
theorem dX5_readSlot_65 : decode cX5_readSlot 65 = .ok (.invokevirtual 122, 3) := by decide +kernel
theorem dX5_readSlot_68 : decode cX5_readSlot 68 = .ok (.istore 5, 2) := by decide +kernel
theorem dX5_readSlot_70 : decode cX5_readSlot 70 = .ok (.aload_n 0, 1) := by decide +kernel
theorem dX5_readSlot_71 : decode cX5_readSlot 71 = .ok (.iconst 0, 1) := by decide +kernel
theorem dX5_readSlot_72 : decode cX5_readSlot 72 = .ok (.iload_n 2, 1) := by decide +kernel
theorem dX5_readSlot_73 : decode cX5_readSlot 73 = .ok (.ifCond .ne 8, 3) := by decide +kernel
theorem dX5_readSlot_76 : decode cX5_readSlot 76 = .ok (.iload 4, 2) := by decide +kernel
theorem dX5_readSlot_78 : decode cX5_readSlot 78 = .ok (.goto 4, 3) := by decide +kernel
theorem dX5_readSlot_81 : decode cX5_readSlot 81 = .ok (.iload_n 3, 1) := by decide +kernel
theorem dX5_readSlot_82 : decode cX5_readSlot 82 = .ok (.iconst 1, 1) := by decide +kernel
theorem dX5_readSlot_83 : decode cX5_readSlot 83 = .ok (.isub, 1) := by decide +kernel
theorem dX5_readSlot_84 : decode cX5_readSlot 84 = .ok (.invokevirtual 122, 3) := by decide +kernel
theorem dX5_readSlot_87 : decode cX5_readSlot 87 = .ok (.istore 6, 2) := by decide +kernel
theorem dX5_readSlot_89 : decode cX5_readSlot 89 = .ok (.aload_n 0, 1) := by decide +kernel
theorem dX5_readSlot_90 : decode cX5_readSlot 90 = .ok (.iconst 1, 1) := by decide +kernel
theorem dX5_readSlot_91 : decode cX5_readSlot 91 = .ok (.bipush 9, 2) := by decide +kernel
theorem dX5_readSlot_93 : decode cX5_readSlot 93 = .ok (.invokevirtual 122, 3) := by decide +kernel
theorem dX5_readSlot_96 : decode cX5_readSlot 96 = .ok (.istore 7, 2) := by decide +kernel
theorem dX5_readSlot_98 : decode cX5_readSlot 98 = .ok (.aload_n 0, 1) := by decide +kernel
theorem dX5_readSlot_99 : decode cX5_readSlot 99 = .ok (.getfield 28, 3) := by decide +kernel
theorem dX5_readSlot_102 : decode cX5_readSlot 102 = .ok (.ifCond .ne 18, 3) := by decide +kernel
theorem dX5_readSlot_105 : decode cX5_readSlot 105 = .ok (.aload_n 0, 1) := by decide +kernel
theorem dX5_readSlot_106 : decode cX5_readSlot 106 = .ok (.getfield 12, 3) := by decide +kernel
theorem dX5_readSlot_109 : decode cX5_readSlot 109 = .ok (.iload_n 1, 1) := by decide +kernel
theorem dX5_readSlot_110 : decode cX5_readSlot 110 = .ok (.iload_n 2, 1) := by decide +kernel
theorem dX5_readSlot_111 : decode cX5_readSlot 111 = .ok (.iload 5, 2) := by decide +kernel
theorem dX5_readSlot_113 : decode cX5_readSlot 113 = .ok (.iload 6, 2) := by decide +kernel
theorem dX5_readSlot_115 : decode cX5_readSlot 115 = .ok (.iload 7, 2) := by decide +kernel
theorem dX5_readSlot_117 : decode cX5_readSlot 117 = .ok (.invokevirtual 139, 3) := by decide +kernel
theorem dX5_readSlot_120 : decode cX5_readSlot 120 = .ok (.return_, 1) := by decide +kernel
theorem dX5_readOrder_0 : decode cX5_readOrder 0 = .ok (.aload_n 0, 1) := by decide +kernel
theorem dX5_readOrder_1 : decode cX5_readOrder 1 = .ok (.iconst 1, 1) := by decide +kernel
theorem dX5_readOrder_2 : decode cX5_readOrder 2 = .ok (.bipush 12, 2) := by decide +kernel
theorem dX5_readOrder_4 : decode cX5_readOrder 4 = .ok (.invokevirtual 122, 3) := by decide +kernel
theorem dX5_readOrder_7 : decode cX5_readOrder 7 = .ok (.istore_n 1, 1) := by decide +kernel
theorem dX5_readOrder_8 : decode cX5_readOrder 8 = .ok (.aload_n 0, 1) := by decide +kernel
theorem dX5_readOrder_9 : decode cX5_readOrder 9 = .ok (.iconst 1, 1) := by decide +kernel
theorem dX5_readOrder_10 : decode cX5_readOrder 10 = .ok (.bipush 12, 2) := by decide +kernel
theorem dX5_readOrder_12 : decode cX5_readOrder 12 = .ok (.invokevirtual 122, 3) := by decide +kernel
theorem dX5_readOrder_15 : decode cX5_readOrder 15 = .ok (.istore_n 2, 1) := by decide +kernel
theorem dX5_readOrder_16 : decode cX5_readOrder 16 = .ok (.aload_n 0, 1) := by decide +kernel
theorem dX5_readOrder_17 : decode cX5_readOrder 17 = .ok (.iconst 1, 1) := by decide +kernel
theorem dX5_readOrder_18 : decode cX5_readOrder 18 = .ok (.bipush 9, 2) := by decide +kernel
theorem dX5_readOrder_20 : decode cX5_readOrder 20 = .ok (.invokevirtual 122, 3) := by decide +kernel
theorem dX5_readOrder_23 : decode cX5_readOrder 23 = .ok (.istore_n 3, 1) := by decide +kernel
theorem dX5_readOrder_24 : decode cX5_readOrder 24 = .ok (.aload_n 0, 1) := by decide +kernel
theorem dX5_readOrder_25 : decode cX5_readOrder 25 = .ok (.iconst 0, 1) := by decide +kernel
theorem dX5_readOrder_26 : decode cX5_readOrder 26 = .ok (.bipush 29, 2) := by decide +kernel
theorem dX5_readOrder_28 : decode cX5_readOrder 28 = .ok (.invokevirtual 122, 3) := by decide +kernel
theorem dX5_readOrder_31 : decode cX5_readOrder 31 = .ok (.istore 4, 2) := by decide +kernel
theorem dX5_readOrder_33 : decode cX5_readOrder 33 = .ok (.aload_n 0, 1) := by decide +kernel
theorem dX5_readOrder_34 : decode cX5_readOrder 34 = .ok (.iconst 1, 1) := by decide +kernel
theorem dX5_readOrder_35 : decode cX5_readOrder 35 = .ok (.bipush 99, 2) := by decide +kernel
theorem dX5_readOrder_37 : decode cX5_readOrder 37 = .ok (.invokevirtual 122, 3) := by decide +kernel
theorem dX5_readOrder_40 : decode cX5_readOrder 40 = .ok (.istore 5, 2) := by decide +kernel
theorem dX5_readOrder_42 : decode cX5_readOrder 42 = .ok (.aload_n 0, 1) := by decide +kernel
theorem dX5_readOrder_43 : decode cX5_readOrder 43 = .ok (.getfield 28, 3) := by decide +kernel
theorem dX5_readOrder_46 : decode cX5_readOrder 46 = .ok (.ifCond .ne 17, 3) := by decide +kernel
theorem dX5_readOrder_49 : decode cX5_readOrder 49 = .ok (.aload_n 0, 1) := by decide +kernel
theorem dX5_readOrder_50 : decode cX5_readOrder 50 = .ok (.getfield 12, 3) := by decide +kernel
theorem dX5_readOrder_53 : decode cX5_readOrder 53 = .ok (.iload_n 1, 1) := by decide +kernel
theorem dX5_readOrder_54 : decode cX5_readOrder 54 = .ok (.iload_n 2, 1) := by decide +kernel
theorem dX5_readOrder_55 : decode cX5_readOrder 55 = .ok (.iload_n 3, 1) := by decide +kernel
theorem dX5_readOrder_56 : decode cX5_readOrder 56 = .ok (.iload 4, 2) := by decide +kernel
theorem dX5_readOrder_58 : decode cX5_readOrder 58 = .ok (.iload 5, 2) := by decide +kernel
theorem dX5_readOrder_60 : decode cX5_readOrder 60 = .ok (.invokevirtual 143, 3) := by decide +kernel
theorem dX5_readOrder_63 : decode cX5_readOrder 63 = .ok (.return_, 1) := by decide +kernel
theorem dX5_readOdds_0 : decode cX5_readOdds 0 = .ok (.aload_n 0, 1) := by decide +kernel
theorem dX5_readOdds_1 : decode cX5_readOdds 1 = .ok (.iconst 0, 1) := by decide +kernel
theorem dX5_readOdds_2 : decode cX5_readOdds 2 = .ok (.bipush 29, 2) := by decide +kernel
theorem dX5_readOdds_4 : decode cX5_readOdds 4 = .ok (.invokevirtual 122, 3) := by decide +kernel
theorem dX5_readOdds_7 : decode cX5_readOdds 7 = .ok (.istore_n 1, 1) := by decide +kernel
theorem dX5_readOdds_8 : decode cX5_readOdds 8 = .ok (.aload_n 0, 1) := by decide +kernel
theorem dX5_readOdds_9 : decode cX5_readOdds 9 = .ok (.iconst 1, 1) := by decide +kernel
theorem dX5_readOdds_10 : decode cX5_readOdds 10 = .ok (.bipush 9, 2) := by decide +kernel
theorem dX5_readOdds_12 : decode cX5_readOdds 12 = .ok (.invokevirtual 122, 3) := by decide +kernel
theorem dX5_readOdds_15 : decode cX5_readOdds 15 = .ok (.istore_n 2, 1) := by decide +kernel
theorem dX5_readOdds_16 : decode cX5_readOdds 16 = .ok (.aload_n 0, 1) := by decide +kernel
theorem dX5_readOdds_17 : decode cX5_readOdds 17 = .ok (.iconst 1, 1) := by decide +kernel
theorem dX5_readOdds_18 : decode cX5_readOdds 18 = .ok (.aload_n 0, 1) := by decide +kernel
theorem dX5_readOdds_19 : decode cX5_readOdds 19 = .ok (.getfield 12, 3) := by decide +kernel
theorem dX5_readOdds_22 : decode cX5_readOdds 22 = .ok (.getfield 146, 3) := by decide +kernel
theorem dX5_readOdds_25 : decode cX5_readOdds 25 = .ok (.iload_n 1, 1) := by decide +kernel
theorem dX5_readOdds_26 : decode cX5_readOdds 26 = .ok (.bipush 10, 2) := by decide +kernel
theorem dX5_readOdds_28 : decode cX5_readOdds 28 = .ok (.imul, 1) := by decide +kernel
theorem dX5_readOdds_29 : decode cX5_readOdds 29 = .ok (.iaload, 1) := by decide +kernel
theorem dX5_readOdds_30 : decode cX5_readOdds 30 = .ok (.invokevirtual 122, 3) := by decide +kernel
theorem dX5_readOdds_33 : decode cX5_readOdds 33 = .ok (.istore_n 3, 1) := by decide +kernel
theorem dX5_readOdds_34 : decode cX5_readOdds 34 = .ok (.aload_n 0, 1) := by decide +kernel
theorem dX5_readOdds_35 : decode cX5_readOdds 35 = .ok (.getfield 28, 3) := by decide +kernel
theorem dX5_readOdds_38 : decode cX5_readOdds 38 = .ok (.ifCond .ne 13, 3) := by decide +kernel
theorem dX5_readOdds_41 : decode cX5_readOdds 41 = .ok (.aload_n 0, 1) := by decide +kernel
theorem dX5_readOdds_42 : decode cX5_readOdds 42 = .ok (.getfield 12, 3) := by decide +kernel
theorem dX5_readOdds_45 : decode cX5_readOdds 45 = .ok (.iload_n 1, 1) := by decide +kernel
theorem dX5_readOdds_46 : decode cX5_readOdds 46 = .ok (.iload_n 2, 1) := by decide +kernel
theorem dX5_readOdds_47 : decode cX5_readOdds 47 = .ok (.iload_n 3, 1) := by decide +kernel
theorem dX5_readOdds_48 : decode cX5_readOdds 48 = .ok (.invokevirtual 149, 3) := by decide +kernel
theorem dX5_readOdds_51 : decode cX5_readOdds 51 = .ok (.return_, 1) := by decide +kernel
theorem dX5_readNumber_0 : decode cX5_readNumber 0 = .ok (.aload_n 0, 1) := by decide +kernel
theorem dX5_readNumber_1 : decode cX5_readNumber 1 = .ok (.getfield 28, 3) := by decide +kernel
theorem dX5_readNumber_4 : decode cX5_readNumber 4 = .ok (.ifCond .eq 5, 3) := by decide +kernel
theorem dX5_readNumber_7 : decode cX5_readNumber 7 = .ok (.iload_n 1, 1) := by decide +kernel
theorem dX5_readNumber_8 : decode cX5_readNumber 8 = .ok (.ireturn, 1) := by decide +kernel
theorem dX5_readNumber_9 : decode cX5_readNumber 9 = .ok (.aload_n 0, 1) := by decide +kernel
theorem dX5_readNumber_10 : decode cX5_readNumber 10 = .ok (.invokevirtual 47, 3) := by decide +kernel
theorem dX5_readNumber_13 : decode cX5_readNumber 13 = .ok (.aload_n 0, 1) := by decide +kernel
theorem dX5_readNumber_14 : decode cX5_readNumber 14 = .ok (.getfield 22, 3) := by decide +kernel
theorem dX5_readNumber_17 : decode cX5_readNumber 17 = .ok (.istore_n 3, 1) := by decide +kernel
theorem dX5_readNumber_18 : decode cX5_readNumber 18 = .ok (.iconst 0, 1) := by decide +kernel
theorem dX5_readNumber_19 : decode cX5_readNumber 19 = .ok (.istore 4, 2) := by decide +kernel
theorem dX5_readNumber_21 : decode cX5_readNumber 21 = .ok (.aload_n 0, 1) := by decide +kernel
theorem dX5_readNumber_22 : decode cX5_readNumber 22 = .ok (.getfield 22, 3) := by decide +kernel
theorem dX5_readNumber_25 : decode cX5_readNumber 25 = .ok (.aload_n 0, 1) := by decide +kernel
theorem dX5_readNumber_26 : decode cX5_readNumber 26 = .ok (.getfield 18, 3) := by decide +kernel
theorem dX5_readNumber_29 : decode cX5_readNumber 29 = .ok (.if_icmp .ge 70, 3) := by decide +kernel
theorem dX5_readNumber_32 : decode cX5_readNumber 32 = .ok (.aload_n 0, 1) := by decide +kernel
theorem dX5_readNumber_33 : decode cX5_readNumber 33 = .ok (.getfield 34, 3) := by decide +kernel
theorem dX5_readNumber_36 : decode cX5_readNumber 36 = .ok (.aload_n 0, 1) := by decide +kernel
theorem dX5_readNumber_37 : decode cX5_readNumber 37 = .ok (.getfield 22, 3) := by decide +kernel
theorem dX5_readNumber_40 : decode cX5_readNumber 40 = .ok (.baload, 1) := by decide +kernel
theorem dX5_readNumber_41 : decode cX5_readNumber 41 = .ok (.bipush 48, 2) := by decide +kernel
theorem dX5_readNumber_43 : decode cX5_readNumber 43 = .ok (.if_icmp .lt 56, 3) := by decide +kernel
theorem dX5_readNumber_46 : decode cX5_readNumber 46 = .ok (.aload_n 0, 1) := by decide +kernel
theorem dX5_readNumber_47 : decode cX5_readNumber 47 = .ok (.getfield 34, 3) := by decide +kernel
theorem dX5_readNumber_50 : decode cX5_readNumber 50 = .ok (.aload_n 0, 1) := by decide +kernel
theorem dX5_readNumber_51 : decode cX5_readNumber 51 = .ok (.getfield 22, 3) := by decide +kernel
theorem dX5_readNumber_54 : decode cX5_readNumber 54 = .ok (.baload, 1) := by decide +kernel
theorem dX5_readNumber_55 : decode cX5_readNumber 55 = .ok (.bipush 57, 2) := by decide +kernel
theorem dX5_readNumber_57 : decode cX5_readNumber 57 = .ok (.if_icmp .gt 42, 3) := by decide +kernel
theorem dX5_readNumber_60 : decode cX5_readNumber 60 = .ok (.sipush 10000, 3) := by decide +kernel
theorem dX5_readNumber_63 : decode cX5_readNumber 63 = .ok (.iload 4, 2) := by decide +kernel
theorem dX5_readNumber_65 : decode cX5_readNumber 65 = .ok (.bipush 10, 2) := by decide +kernel
theorem dX5_readNumber_67 : decode cX5_readNumber 67 = .ok (.imul, 1) := by decide +kernel
theorem dX5_readNumber_68 : decode cX5_readNumber 68 = .ok (.aload_n 0, 1) := by decide +kernel
theorem dX5_readNumber_69 : decode cX5_readNumber 69 = .ok (.getfield 34, 3) := by decide +kernel
theorem dX5_readNumber_72 : decode cX5_readNumber 72 = .ok (.aload_n 0, 1) := by decide +kernel
theorem dX5_readNumber_73 : decode cX5_readNumber 73 = .ok (.getfield 22, 3) := by decide +kernel
theorem dX5_readNumber_76 : decode cX5_readNumber 76 = .ok (.baload, 1) := by decide +kernel
theorem dX5_readNumber_77 : decode cX5_readNumber 77 = .ok (.iadd, 1) := by decide +kernel
theorem dX5_readNumber_78 : decode cX5_readNumber 78 = .ok (.bipush 48, 2) := by decide +kernel
theorem dX5_readNumber_80 : decode cX5_readNumber 80 = .ok (.isub, 1) := by decide +kernel
theorem dX5_readNumber_81 : decode cX5_readNumber 81 = .ok (.invokestatic 41, 3) := by decide +kernel
theorem dX5_readNumber_84 : decode cX5_readNumber 84 = .ok (.istore 4, 2) := by decide +kernel
theorem dX5_readNumber_86 : decode cX5_readNumber 86 = .ok (.aload_n 0, 1) := by decide +kernel
theorem dX5_readNumber_87 : decode cX5_readNumber 87 = .ok (.dup, 1) := by decide +kernel
theorem dX5_readNumber_88 : decode cX5_readNumber 88 = .ok (.getfield 22, 3) := by decide +kernel
theorem dX5_readNumber_91 : decode cX5_readNumber 91 = .ok (.iconst 1, 1) := by decide +kernel
theorem dX5_readNumber_92 : decode cX5_readNumber 92 = .ok (.iadd, 1) := by decide +kernel
theorem dX5_readNumber_93 : decode cX5_readNumber 93 = .ok (.putfield 22, 3) := by decide +kernel
theorem dX5_readNumber_96 : decode cX5_readNumber 96 = .ok (.goto (-75), 3) := by decide +kernel
theorem dX5_readNumber_99 : decode cX5_readNumber 99 = .ok (.aload_n 0, 1) := by decide +kernel
theorem dX5_readNumber_100 : decode cX5_readNumber 100 = .ok (.getfield 22, 3) := by decide +kernel
theorem dX5_readNumber_103 : decode cX5_readNumber 103 = .ok (.iload_n 3, 1) := by decide +kernel
theorem dX5_readNumber_104 : decode cX5_readNumber 104 = .ok (.if_icmp .ne 11, 3) := by decide +kernel
theorem dX5_readNumber_107 : decode cX5_readNumber 107 = .ok (.aload_n 0, 1) := by decide +kernel
theorem dX5_readNumber_108 : decode cX5_readNumber 108 = .ok (.iconst 1, 1) := by decide +kernel
theorem dX5_readNumber_109 : decode cX5_readNumber 109 = .ok (.iload_n 3, 1) := by decide +kernel
theorem dX5_readNumber_110 : decode cX5_readNumber 110 = .ok (.invokevirtual 57, 3) := by decide +kernel
theorem dX5_readNumber_113 : decode cX5_readNumber 113 = .ok (.iload_n 1, 1) := by decide +kernel
theorem dX5_readNumber_114 : decode cX5_readNumber 114 = .ok (.ireturn, 1) := by decide +kernel
theorem dX5_readNumber_115 : decode cX5_readNumber 115 = .ok (.iload 4, 2) := by decide +kernel
theorem dX5_readNumber_117 : decode cX5_readNumber 117 = .ok (.iload_n 1, 1) := by decide +kernel
theorem dX5_readNumber_118 : decode cX5_readNumber 118 = .ok (.if_icmp .lt 9, 3) := by decide +kernel
theorem dX5_readNumber_121 : decode cX5_readNumber 121 = .ok (.iload 4, 2) := by decide +kernel
theorem dX5_readNumber_123 : decode cX5_readNumber 123 = .ok (.iload_n 2, 1) := by decide +kernel
theorem dX5_readNumber_124 : decode cX5_readNumber 124 = .ok (.if_icmp .le 11, 3) := by decide +kernel
theorem dX5_readNumber_127 : decode cX5_readNumber 127 = .ok (.aload_n 0, 1) := by decide +kernel
theorem dX5_readNumber_128 : decode cX5_readNumber 128 = .ok (.iconst 2, 1) := by decide +kernel
theorem dX5_readNumber_129 : decode cX5_readNumber 129 = .ok (.iload_n 3, 1) := by decide +kernel
theorem dX5_readNumber_130 : decode cX5_readNumber 130 = .ok (.invokevirtual 57, 3) := by decide +kernel
theorem dX5_readNumber_133 : decode cX5_readNumber 133 = .ok (.iload_n 1, 1) := by decide +kernel
theorem dX5_readNumber_134 : decode cX5_readNumber 134 = .ok (.ireturn, 1) := by decide +kernel
theorem dX5_readNumber_135 : decode cX5_readNumber 135 = .ok (.iload 4, 2) := by decide +kernel
theorem dX5_readNumber_137 : decode cX5_readNumber 137 = .ok (.ireturn, 1) := by decide +kernel
theorem dX5_readEnd_0 : decode cX5_readEnd 0 = .ok (.aload_n 0, 1) := by decide +kernel
theorem dX5_readEnd_1 : decode cX5_readEnd 1 = .ok (.getfield 28, 3) := by decide +kernel
theorem dX5_readEnd_4 : decode cX5_readEnd 4 = .ok (.ifCond .eq 4, 3) := by decide +kernel
theorem dX5_readEnd_7 : decode cX5_readEnd 7 = .ok (.return_, 1) := by decide +kernel
theorem dX5_readEnd_8 : decode cX5_readEnd 8 = .ok (.aload_n 0, 1) := by decide +kernel
theorem dX5_readEnd_9 : decode cX5_readEnd 9 = .ok (.invokevirtual 47, 3) := by decide +kernel
theorem dX5_readEnd_12 : decode cX5_readEnd 12 = .ok (.aload_n 0, 1) := by decide +kernel
theorem dX5_readEnd_13 : decode cX5_readEnd 13 = .ok (.getfield 22, 3) := by decide +kernel
theorem dX5_readEnd_16 : decode cX5_readEnd 16 = .ok (.aload_n 0, 1) := by decide +kernel
theorem dX5_readEnd_17 : decode cX5_readEnd 17 = .ok (.getfield 18, 3) := by decide +kernel
theorem dX5_readEnd_20 : decode cX5_readEnd 20 = .ok (.if_icmp .ge 30, 3) := by decide +kernel
theorem dX5_readEnd_23 : decode cX5_readEnd 23 = .ok (.aload_n 0, 1) := by decide +kernel
theorem dX5_readEnd_24 : decode cX5_readEnd 24 = .ok (.getfield 34, 3) := by decide +kernel
theorem dX5_readEnd_27 : decode cX5_readEnd 27 = .ok (.aload_n 0, 1) := by decide +kernel
theorem dX5_readEnd_28 : decode cX5_readEnd 28 = .ok (.getfield 22, 3) := by decide +kernel
theorem dX5_readEnd_31 : decode cX5_readEnd 31 = .ok (.baload, 1) := by decide +kernel
theorem dX5_readEnd_32 : decode cX5_readEnd 32 = .ok (.bipush 59, 2) := by decide +kernel
theorem dX5_readEnd_34 : decode cX5_readEnd 34 = .ok (.if_icmp .ne 16, 3) := by decide +kernel
theorem dX5_readEnd_37 : decode cX5_readEnd 37 = .ok (.aload_n 0, 1) := by decide +kernel
theorem dX5_readEnd_38 : decode cX5_readEnd 38 = .ok (.dup, 1) := by decide +kernel
theorem dX5_readEnd_39 : decode cX5_readEnd 39 = .ok (.getfield 22, 3) := by decide +kernel
theorem dX5_readEnd_42 : decode cX5_readEnd 42 = .ok (.iconst 1, 1) := by decide +kernel
theorem dX5_readEnd_43 : decode cX5_readEnd 43 = .ok (.iadd, 1) := by decide +kernel
theorem dX5_readEnd_44 : decode cX5_readEnd 44 = .ok (.putfield 22, 3) := by decide +kernel
theorem dX5_readEnd_47 : decode cX5_readEnd 47 = .ok (.goto 12, 3) := by decide +kernel
theorem dX5_readEnd_50 : decode cX5_readEnd 50 = .ok (.aload_n 0, 1) := by decide +kernel
theorem dX5_readEnd_51 : decode cX5_readEnd 51 = .ok (.iconst 1, 1) := by decide +kernel
theorem dX5_readEnd_52 : decode cX5_readEnd 52 = .ok (.aload_n 0, 1) := by decide +kernel
theorem dX5_readEnd_53 : decode cX5_readEnd 53 = .ok (.getfield 22, 3) := by decide +kernel
theorem dX5_readEnd_56 : decode cX5_readEnd 56 = .ok (.invokevirtual 57, 3) := by decide +kernel
theorem dX5_readEnd_59 : decode cX5_readEnd 59 = .ok (.return_, 1) := by decide +kernel
theorem dX6_init_0 : decode cX6_init 0 = .ok (.aload_n 0, 1) := by decide +kernel
theorem dX6_init_1 : decode cX6_init 1 = .ok (.invokespecial 3, 3) := by decide +kernel
theorem dX6_init_4 : decode cX6_init 4 = .ok (.aload_n 0, 1) := by decide +kernel
theorem dX6_init_5 : decode cX6_init 5 = .ok (.bipush 18, 2) := by decide +kernel
theorem dX6_init_7 : decode cX6_init 7 = .ok (.newarray .int, 2) := by decide +kernel
theorem dX6_init_9 : decode cX6_init 9 = .ok (.putfield 9, 3) := by decide +kernel
theorem dX6_init_12 : decode cX6_init 12 = .ok (.aload_n 0, 1) := by decide +kernel
theorem dX6_init_13 : decode cX6_init 13 = .ok (.bipush 18, 2) := by decide +kernel
theorem dX6_init_15 : decode cX6_init 15 = .ok (.newarray .int, 2) := by decide +kernel
theorem dX6_init_17 : decode cX6_init 17 = .ok (.putfield 15, 3) := by decide +kernel
theorem dX6_init_20 : decode cX6_init 20 = .ok (.aload_n 0, 1) := by decide +kernel
theorem dX6_init_21 : decode cX6_init 21 = .ok (.bipush 18, 2) := by decide +kernel
theorem dX6_init_23 : decode cX6_init 23 = .ok (.newarray .int, 2) := by decide +kernel
theorem dX6_init_25 : decode cX6_init 25 = .ok (.putfield 18, 3) := by decide +kernel
theorem dX6_init_28 : decode cX6_init 28 = .ok (.aload_n 0, 1) := by decide +kernel
theorem dX6_init_29 : decode cX6_init 29 = .ok (.iconst 0, 1) := by decide +kernel
theorem dX6_init_30 : decode cX6_init 30 = .ok (.putfield 21, 3) := by decide +kernel
theorem dX6_init_33 : decode cX6_init 33 = .ok (.return_, 1) := by decide +kernel
theorem dX6_highest_0 : decode cX6_highest 0 = .ok (.aload_n 0, 1) := by decide +kernel
theorem dX6_highest_1 : decode cX6_highest 1 = .ok (.iconst 0, 1) := by decide +kernel
theorem dX6_highest_2 : decode cX6_highest 2 = .ok (.putfield 21, 3) := by decide +kernel
theorem dX6_highest_5 : decode cX6_highest 5 = .ok (.iconst 0, 1) := by decide +kernel
theorem dX6_highest_6 : decode cX6_highest 6 = .ok (.istore_n 2, 1) := by decide +kernel
theorem dX6_highest_7 : decode cX6_highest 7 = .ok (.iload_n 2, 1) := by decide +kernel
theorem dX6_highest_8 : decode cX6_highest 8 = .ok (.aload_n 1, 1) := by decide +kernel
theorem dX6_highest_9 : decode cX6_highest 9 = .ok (.getfield 25, 3) := by decide +kernel
theorem dX6_highest_12 : decode cX6_highest 12 = .ok (.if_icmp .ge 46, 3) := by decide +kernel
theorem dX6_highest_15 : decode cX6_highest 15 = .ok (.aload_n 1, 1) := by decide +kernel
theorem dX6_highest_16 : decode cX6_highest 16 = .ok (.iload_n 2, 1) := by decide +kernel
theorem dX6_highest_17 : decode cX6_highest 17 = .ok (.invokevirtual 30, 3) := by decide +kernel
theorem dX6_highest_20 : decode cX6_highest 20 = .ok (.ifCond .eq 32, 3) := by decide +kernel
theorem dX6_highest_23 : decode cX6_highest 23 = .ok (.aload_n 1, 1) := by decide +kernel
theorem dX6_highest_24 : decode cX6_highest 24 = .ok (.iload_n 2, 1) := by decide +kernel
theorem dX6_highest_25 : decode cX6_highest 25 = .ok (.invokevirtual 34, 3) := by decide +kernel
theorem dX6_highest_28 : decode cX6_highest 28 = .ok (.istore_n 3, 1) := by decide +kernel
theorem dX6_highest_29 : decode cX6_highest 29 = .ok (.aload_n 1, 1) := by decide +kernel
theorem dX6_highest_30 : decode cX6_highest 30 = .ok (.iload_n 2, 1) := by decide +kernel
theorem dX6_highest_31 : decode cX6_highest 31 = .ok (.invokevirtual 38, 3) := by decide +kernel
theorem dX6_highest_34 : decode cX6_highest 34 = .ok (.istore 4, 2) := by decide +kernel
theorem dX6_highest_36 : decode cX6_highest 36 = .ok (.aload_n 0, 1) := by decide +kernel
theorem dX6_highest_37 : decode cX6_highest 37 = .ok (.iload_n 3, 1) := by decide +kernel
theorem dX6_highest_38 : decode cX6_highest 38 = .ok (.iload 4, 2) := by decide +kernel
theorem dX6_highest_40 : decode cX6_highest 40 = .ok (.invokestatic 41, 3) := by decide +kernel
theorem dX6_highest_43 : decode cX6_highest 43 = .ok (.iload_n 3, 1) := by decide +kernel
theorem dX6_highest_44 : decode cX6_highest 44 = .ok (.iload 4, 2) := by decide +kernel
theorem dX6_highest_46 : decode cX6_highest 46 = .ok (.invokestatic 47, 3) := by decide +kernel
theorem dX6_highest_49 : decode cX6_highest 49 = .ok (.invokevirtual 50, 3) := by decide +kernel
theorem dX6_highest_52 : decode cX6_highest 52 = .ok (.iinc 2 1, 3) := by decide +kernel
theorem dX6_highest_55 : decode cX6_highest 55 = .ok (.goto (-48), 3) := by decide +kernel
theorem dX6_highest_58 : decode cX6_highest 58 = .ok (.iconst 0, 1) := by decide +kernel
theorem dX6_highest_59 : decode cX6_highest 59 = .ok (.istore_n 2, 1) := by decide +kernel
theorem dX6_highest_60 : decode cX6_highest 60 = .ok (.iconst 0, 1) := by decide +kernel
theorem dX6_highest_61 : decode cX6_highest 61 = .ok (.istore_n 3, 1) := by decide +kernel
theorem dX6_highest_62 : decode cX6_highest 62 = .ok (.iload_n 3, 1) := by decide +kernel
theorem dX6_highest_63 : decode cX6_highest 63 = .ok (.aload_n 0, 1) := by decide +kernel
theorem dX6_highest_64 : decode cX6_highest 64 = .ok (.getfield 21, 3) := by decide +kernel
theorem dX6_highest_67 : decode cX6_highest 67 = .ok (.if_icmp .ge 33, 3) := by decide +kernel
theorem dX6_highest_70 : decode cX6_highest 70 = .ok (.aload_n 0, 1) := by decide +kernel
theorem dX6_highest_71 : decode cX6_highest 71 = .ok (.getfield 18, 3) := by decide +kernel
theorem dX6_highest_74 : decode cX6_highest 74 = .ok (.iload_n 3, 1) := by decide +kernel
theorem dX6_highest_75 : decode cX6_highest 75 = .ok (.iconst 1, 1) := by decide +kernel
theorem dX6_highest_76 : decode cX6_highest 76 = .ok (.aload_n 0, 1) := by decide +kernel
theorem dX6_highest_77 : decode cX6_highest 77 = .ok (.iload_n 3, 1) := by decide +kernel
theorem dX6_highest_78 : decode cX6_highest 78 = .ok (.invokevirtual 54, 3) := by decide +kernel
theorem dX6_highest_81 : decode cX6_highest 81 = .ok (.iadd, 1) := by decide +kernel
theorem dX6_highest_82 : decode cX6_highest 82 = .ok (.iastore, 1) := by decide +kernel
theorem dX6_highest_83 : decode cX6_highest 83 = .ok (.iload_n 2, 1) := by decide +kernel
theorem dX6_highest_84 : decode cX6_highest 84 = .ok (.aload_n 0, 1) := by decide +kernel
theorem dX6_highest_85 : decode cX6_highest 85 = .ok (.getfield 18, 3) := by decide +kernel
theorem dX6_highest_88 : decode cX6_highest 88 = .ok (.iload_n 3, 1) := by decide +kernel
theorem dX6_highest_89 : decode cX6_highest 89 = .ok (.iaload, 1) := by decide +kernel
theorem dX6_highest_90 : decode cX6_highest 90 = .ok (.invokestatic 41, 3) := by decide +kernel
theorem dX6_highest_93 : decode cX6_highest 93 = .ok (.istore_n 2, 1) := by decide +kernel
theorem dX6_highest_94 : decode cX6_highest 94 = .ok (.iinc 3 1, 3) := by decide +kernel
theorem dX6_highest_97 : decode cX6_highest 97 = .ok (.goto (-35), 3) := by decide +kernel
theorem dX6_highest_100 : decode cX6_highest 100 = .ok (.iload_n 2, 1) := by decide +kernel
theorem dX6_highest_101 : decode cX6_highest 101 = .ok (.ireturn, 1) := by decide +kernel
theorem dX6_insert_0 : decode cX6_insert 0 = .ok (.aload_n 0, 1) := by decide +kernel
theorem dX6_insert_1 : decode cX6_insert 1 = .ok (.getfield 21, 3) := by decide +kernel
theorem dX6_insert_4 : decode cX6_insert 4 = .ok (.bipush 18, 2) := by decide +kernel
theorem dX6_insert_6 : decode cX6_insert 6 = .ok (.if_icmp .lt 4, 3) := by decide +kernel
theorem dX6_insert_9 : decode cX6_insert 9 = .ok (.return_, 1) := by decide +kernel
theorem dX6_insert_10 : decode cX6_insert 10 = .ok (.aload_n 0, 1) := by decide +kernel
theorem dX6_insert_11 : decode cX6_insert 11 = .ok (.getfield 21, 3) := by decide +kernel
theorem dX6_insert_14 : decode cX6_insert 14 = .ok (.istore_n 3, 1) := by decide +kernel
theorem dX6_insert_15 : decode cX6_insert 15 = .ok (.iload_n 3, 1) := by decide +kernel
theorem dX6_insert_16 : decode cX6_insert 16 = .ok (.ifCond .le 73, 3) := by decide +kernel
theorem dX6_insert_19 : decode cX6_insert 19 = .ok (.aload_n 0, 1) := by decide +kernel
theorem dX6_insert_20 : decode cX6_insert 20 = .ok (.getfield 9, 3) := by decide +kernel
theorem dX6_insert_23 : decode cX6_insert 23 = .ok (.iload_n 3, 1) := by decide +kernel
theorem dX6_insert_24 : decode cX6_insert 24 = .ok (.iconst 1, 1) := by decide +kernel
theorem dX6_insert_25 : decode cX6_insert 25 = .ok (.isub, 1) := by decide +kernel
theorem dX6_insert_26 : decode cX6_insert 26 = .ok (.iaload, 1) := by decide +kernel
theorem dX6_insert_27 : decode cX6_insert 27 = .ok (.iload_n 1, 1) := by decide +kernel
theorem dX6_insert_28 : decode cX6_insert 28 = .ok (.if_icmp .gt 27, 3) := by decide +kernel
theorem dX6_insert_31 : decode cX6_insert 31 = .ok (.aload_n 0, 1) := by decide +kernel
theorem dX6_insert_32 : decode cX6_insert 32 = .ok (.getfield 9, 3) := by decide +kernel
theorem dX6_insert_35 : decode cX6_insert 35 = .ok (.iload_n 3, 1) := by decide +kernel
theorem dX6_insert_36 : decode cX6_insert 36 = .ok (.iconst 1, 1) := by decide +kernel
theorem dX6_insert_37 : decode cX6_insert 37 = .ok (.isub, 1) := by decide +kernel
theorem dX6_insert_38 : decode cX6_insert 38 = .ok (.iaload, 1) := by decide +kernel
theorem dX6_insert_39 : decode cX6_insert 39 = .ok (.iload_n 1, 1) := by decide +kernel
theorem dX6_insert_40 : decode cX6_insert 40 = .ok (.if_icmp .ne 49, 3) := by decide +kernel
theorem dX6_insert_43 : decode cX6_insert 43 = .ok (.aload_n 0, 1) := by decide +kernel
theorem dX6_insert_44 : decode cX6_insert 44 = .ok (.getfield 15, 3) := by decide +kernel
theorem dX6_insert_47 : decode cX6_insert 47 = .ok (.iload_n 3, 1) := by decide +kernel
theorem dX6_insert_48 : decode cX6_insert 48 = .ok (.iconst 1, 1) := by decide +kernel
theorem dX6_insert_49 : decode cX6_insert 49 = .ok (.isub, 1) := by decide +kernel
theorem dX6_insert_50 : decode cX6_insert 50 = .ok (.iaload, 1) := by decide +kernel
theorem dX6_insert_51 : decode cX6_insert 51 = .ok (.iload_n 2, 1) := by decide +kernel
theorem dX6_insert_52 : decode cX6_insert 52 = .ok (.if_icmp .le 37, 3) := by decide +kernel
theorem dX6_insert_55 : decode cX6_insert 55 = .ok (.aload_n 0, 1) := by decide +kernel
theorem dX6_insert_56 : decode cX6_insert 56 = .ok (.getfield 9, 3) := by decide +kernel
theorem dX6_insert_59 : decode cX6_insert 59 = .ok (.iload_n 3, 1) := by decide +kernel
theorem dX6_insert_60 : decode cX6_insert 60 = .ok (.aload_n 0, 1) := by decide +kernel
theorem dX6_insert_61 : decode cX6_insert 61 = .ok (.getfield 9, 3) := by decide +kernel
theorem dX6_insert_64 : decode cX6_insert 64 = .ok (.iload_n 3, 1) := by decide +kernel
theorem dX6_insert_65 : decode cX6_insert 65 = .ok (.iconst 1, 1) := by decide +kernel
theorem dX6_insert_66 : decode cX6_insert 66 = .ok (.isub, 1) := by decide +kernel
theorem dX6_insert_67 : decode cX6_insert 67 = .ok (.iaload, 1) := by decide +kernel
theorem dX6_insert_68 : decode cX6_insert 68 = .ok (.iastore, 1) := by decide +kernel
theorem dX6_insert_69 : decode cX6_insert 69 = .ok (.aload_n 0, 1) := by decide +kernel
theorem dX6_insert_70 : decode cX6_insert 70 = .ok (.getfield 15, 3) := by decide +kernel
theorem dX6_insert_73 : decode cX6_insert 73 = .ok (.iload_n 3, 1) := by decide +kernel
theorem dX6_insert_74 : decode cX6_insert 74 = .ok (.aload_n 0, 1) := by decide +kernel
theorem dX6_insert_75 : decode cX6_insert 75 = .ok (.getfield 15, 3) := by decide +kernel
theorem dX6_insert_78 : decode cX6_insert 78 = .ok (.iload_n 3, 1) := by decide +kernel
theorem dX6_insert_79 : decode cX6_insert 79 = .ok (.iconst 1, 1) := by decide +kernel
theorem dX6_insert_80 : decode cX6_insert 80 = .ok (.isub, 1) := by decide +kernel
theorem dX6_insert_81 : decode cX6_insert 81 = .ok (.iaload, 1) := by decide +kernel
theorem dX6_insert_82 : decode cX6_insert 82 = .ok (.iastore, 1) := by decide +kernel
theorem dX6_insert_83 : decode cX6_insert 83 = .ok (.iinc 3 (-1), 3) := by decide +kernel
theorem dX6_insert_86 : decode cX6_insert 86 = .ok (.goto (-71), 3) := by decide +kernel
theorem dX6_insert_89 : decode cX6_insert 89 = .ok (.aload_n 0, 1) := by decide +kernel
theorem dX6_insert_90 : decode cX6_insert 90 = .ok (.getfield 9, 3) := by decide +kernel
theorem dX6_insert_93 : decode cX6_insert 93 = .ok (.iload_n 3, 1) := by decide +kernel
theorem dX6_insert_94 : decode cX6_insert 94 = .ok (.iload_n 1, 1) := by decide +kernel
theorem dX6_insert_95 : decode cX6_insert 95 = .ok (.iastore, 1) := by decide +kernel
theorem dX6_insert_96 : decode cX6_insert 96 = .ok (.aload_n 0, 1) := by decide +kernel
theorem dX6_insert_97 : decode cX6_insert 97 = .ok (.getfield 15, 3) := by decide +kernel
theorem dX6_insert_100 : decode cX6_insert 100 = .ok (.iload_n 3, 1) := by decide +kernel
theorem dX6_insert_101 : decode cX6_insert 101 = .ok (.iload_n 2, 1) := by decide +kernel
theorem dX6_insert_102 : decode cX6_insert 102 = .ok (.iastore, 1) := by decide +kernel
theorem dX6_insert_103 : decode cX6_insert 103 = .ok (.aload_n 0, 1) := by decide +kernel
theorem dX6_insert_104 : decode cX6_insert 104 = .ok (.dup, 1) := by decide +kernel
theorem dX6_insert_105 : decode cX6_insert 105 = .ok (.getfield 21, 3) := by decide +kernel
theorem dX6_insert_108 : decode cX6_insert 108 = .ok (.iconst 1, 1) := by decide +kernel
theorem dX6_insert_109 : decode cX6_insert 109 = .ok (.iadd, 1) := by decide +kernel
theorem dX6_insert_110 : decode cX6_insert 110 = .ok (.putfield 21, 3) := by decide +kernel
theorem dX6_insert_113 : decode cX6_insert 113 = .ok (.return_, 1) := by decide +kernel
theorem dX6_highestUpon_0 : decode cX6_highestUpon 0 = .ok (.iconst 0, 1) := by decide +kernel
theorem dX6_highestUpon_1 : decode cX6_highestUpon 1 = .ok (.istore_n 2, 1) := by decide +kernel
theorem dX6_highestUpon_2 : decode cX6_highestUpon 2 = .ok (.iconst 0, 1) := by decide +kernel
theorem dX6_highestUpon_3 : decode cX6_highestUpon 3 = .ok (.istore_n 3, 1) := by decide +kernel
theorem dX6_highestUpon_4 : decode cX6_highestUpon 4 = .ok (.iload_n 3, 1) := by decide +kernel
theorem dX6_highestUpon_5 : decode cX6_highestUpon 5 = .ok (.iload_n 1, 1) := by decide +kernel
theorem dX6_highestUpon_6 : decode cX6_highestUpon 6 = .ok (.if_icmp .ge 35, 3) := by decide +kernel
theorem dX6_highestUpon_9 : decode cX6_highestUpon 9 = .ok (.aload_n 0, 1) := by decide +kernel
theorem dX6_highestUpon_10 : decode cX6_highestUpon 10 = .ok (.getfield 15, 3) := by decide +kernel
theorem dX6_highestUpon_13 : decode cX6_highestUpon 13 = .ok (.iload_n 3, 1) := by decide +kernel
theorem dX6_highestUpon_14 : decode cX6_highestUpon 14 = .ok (.iaload, 1) := by decide +kernel
theorem dX6_highestUpon_15 : decode cX6_highestUpon 15 = .ok (.aload_n 0, 1) := by decide +kernel
theorem dX6_highestUpon_16 : decode cX6_highestUpon 16 = .ok (.getfield 15, 3) := by decide +kernel
theorem dX6_highestUpon_19 : decode cX6_highestUpon 19 = .ok (.iload_n 1, 1) := by decide +kernel
theorem dX6_highestUpon_20 : decode cX6_highestUpon 20 = .ok (.iaload, 1) := by decide +kernel
theorem dX6_highestUpon_21 : decode cX6_highestUpon 21 = .ok (.if_icmp .gt 14, 3) := by decide +kernel
theorem dX6_highestUpon_24 : decode cX6_highestUpon 24 = .ok (.iload_n 2, 1) := by decide +kernel
theorem dX6_highestUpon_25 : decode cX6_highestUpon 25 = .ok (.aload_n 0, 1) := by decide +kernel
theorem dX6_highestUpon_26 : decode cX6_highestUpon 26 = .ok (.getfield 18, 3) := by decide +kernel
theorem dX6_highestUpon_29 : decode cX6_highestUpon 29 = .ok (.iload_n 3, 1) := by decide +kernel
theorem dX6_highestUpon_30 : decode cX6_highestUpon 30 = .ok (.iaload, 1) := by decide +kernel
theorem dX6_highestUpon_31 : decode cX6_highestUpon 31 = .ok (.invokestatic 41, 3) := by decide +kernel
theorem dX6_highestUpon_34 : decode cX6_highestUpon 34 = .ok (.istore_n 2, 1) := by decide +kernel
theorem dX6_highestUpon_35 : decode cX6_highestUpon 35 = .ok (.iinc 3 1, 3) := by decide +kernel
theorem dX6_highestUpon_38 : decode cX6_highestUpon 38 = .ok (.goto (-34), 3) := by decide +kernel
theorem dX6_highestUpon_41 : decode cX6_highestUpon 41 = .ok (.iload_n 2, 1) := by decide +kernel
theorem dX6_highestUpon_42 : decode cX6_highestUpon 42 = .ok (.ireturn, 1) := by decide +kernel
theorem dX7_init_0 : decode cX7_init 0 = .ok (.aload_n 0, 1) := by decide +kernel
theorem dX7_init_1 : decode cX7_init 1 = .ok (.invokespecial 3, 3) := by decide +kernel
theorem dX7_init_4 : decode cX7_init 4 = .ok (.aload_n 0, 1) := by decide +kernel
theorem dX7_init_5 : decode cX7_init 5 = .ok (.bipush 12, 2) := by decide +kernel
theorem dX7_init_7 : decode cX7_init 7 = .ok (.newarray .int, 2) := by decide +kernel
theorem dX7_init_9 : decode cX7_init 9 = .ok (.putfield 9, 3) := by decide +kernel
theorem dX7_init_12 : decode cX7_init 12 = .ok (.aload_n 0, 1) := by decide +kernel
theorem dX7_init_13 : decode cX7_init 13 = .ok (.iconst 0, 1) := by decide +kernel
theorem dX7_init_14 : decode cX7_init 14 = .ok (.putfield 15, 3) := by decide +kernel
theorem dX7_init_17 : decode cX7_init 17 = .ok (.aload_n 0, 1) := by decide +kernel
theorem dX7_init_18 : decode cX7_init 18 = .ok (.iconst 0, 1) := by decide +kernel
theorem dX7_init_19 : decode cX7_init 19 = .ok (.putfield 19, 3) := by decide +kernel
theorem dX7_init_22 : decode cX7_init 22 = .ok (.return_, 1) := by decide +kernel
theorem dX7_begin_0 : decode cX7_begin 0 = .ok (.aload_n 0, 1) := by decide +kernel
theorem dX7_begin_1 : decode cX7_begin 1 = .ok (.iconst 0, 1) := by decide +kernel
theorem dX7_begin_2 : decode cX7_begin 2 = .ok (.putfield 15, 3) := by decide +kernel
theorem dX7_begin_5 : decode cX7_begin 5 = .ok (.aload_n 0, 1) := by decide +kernel
theorem dX7_begin_6 : decode cX7_begin 6 = .ok (.iconst 0, 1) := by decide +kernel
theorem dX7_begin_7 : decode cX7_begin 7 = .ok (.putfield 19, 3) := by decide +kernel
theorem dX7_begin_10 : decode cX7_begin 10 = .ok (.return_, 1) := by decide +kernel
theorem dX7_quarter_0 : decode cX7_quarter 0 = .ok (.aload_n 0, 1) := by decide +kernel
theorem dX7_quarter_1 : decode cX7_quarter 1 = .ok (.getfield 19, 3) := by decide +kernel
theorem dX7_quarter_4 : decode cX7_quarter 4 = .ok (.aload_n 0, 1) := by decide +kernel
theorem dX7_quarter_5 : decode cX7_quarter 5 = .ok (.getfield 9, 3) := by decide +kernel
theorem dX7_quarter_8 : decode cX7_quarter 8 = .ok (.arraylength, 1) := by decide +kernel
theorem dX7_quarter_9 : decode cX7_quarter 9 = .ok (.if_icmp .lt 5, 3) := by decide +kernel
theorem dX7_quarter_12 : decode cX7_quarter 12 = .ok (.iconst 2, 1) := by decide +kernel
theorem dX7_quarter_13 : decode cX7_quarter 13 = .ok (.ireturn, 1) := by decide +kernel
theorem dX7_quarter_14 : decode cX7_quarter 14 = .ok (.aload_n 0, 1) := by decide +kernel
theorem dX7_quarter_15 : decode cX7_quarter 15 = .ok (.getfield 19, 3) := by decide +kernel
theorem dX7_quarter_18 : decode cX7_quarter 18 = .ok (.aload_n 0, 1) := by decide +kernel
theorem dX7_quarter_19 : decode cX7_quarter 19 = .ok (.getfield 15, 3) := by decide +kernel
theorem dX7_quarter_22 : decode cX7_quarter 22 = .ok (.if_icmp .lt 23, 3) := by decide +kernel
theorem dX7_quarter_25 : decode cX7_quarter 25 = .ok (.aload_n 0, 1) := by decide +kernel
theorem dX7_quarter_26 : decode cX7_quarter 26 = .ok (.getfield 9, 3) := by decide +kernel
theorem dX7_quarter_29 : decode cX7_quarter 29 = .ok (.aload_n 0, 1) := by decide +kernel
theorem dX7_quarter_30 : decode cX7_quarter 30 = .ok (.getfield 19, 3) := by decide +kernel
theorem dX7_quarter_33 : decode cX7_quarter 33 = .ok (.iconst 0, 1) := by decide +kernel
theorem dX7_quarter_34 : decode cX7_quarter 34 = .ok (.iastore, 1) := by decide +kernel
theorem dX7_quarter_35 : decode cX7_quarter 35 = .ok (.aload_n 0, 1) := by decide +kernel
theorem dX7_quarter_36 : decode cX7_quarter 36 = .ok (.aload_n 0, 1) := by decide +kernel
theorem dX7_quarter_37 : decode cX7_quarter 37 = .ok (.getfield 19, 3) := by decide +kernel
theorem dX7_quarter_40 : decode cX7_quarter 40 = .ok (.iconst 1, 1) := by decide +kernel
theorem dX7_quarter_41 : decode cX7_quarter 41 = .ok (.iadd, 1) := by decide +kernel
theorem dX7_quarter_42 : decode cX7_quarter 42 = .ok (.putfield 15, 3) := by decide +kernel
theorem dX7_quarter_45 : decode cX7_quarter 45 = .ok (.aload_n 0, 1) := by decide +kernel
theorem dX7_quarter_46 : decode cX7_quarter 46 = .ok (.getfield 9, 3) := by decide +kernel
theorem dX7_quarter_49 : decode cX7_quarter 49 = .ok (.aload_n 0, 1) := by decide +kernel
theorem dX7_quarter_50 : decode cX7_quarter 50 = .ok (.getfield 19, 3) := by decide +kernel
theorem dX7_quarter_53 : decode cX7_quarter 53 = .ok (.iaload, 1) := by decide +kernel
theorem dX7_quarter_54 : decode cX7_quarter 54 = .ok (.istore_n 1, 1) := by decide +kernel
theorem dX7_quarter_55 : decode cX7_quarter 55 = .ok (.aload_n 0, 1) := by decide +kernel
theorem dX7_quarter_56 : decode cX7_quarter 56 = .ok (.dup, 1) := by decide +kernel
theorem dX7_quarter_57 : decode cX7_quarter 57 = .ok (.getfield 19, 3) := by decide +kernel
theorem dX7_quarter_60 : decode cX7_quarter 60 = .ok (.iconst 1, 1) := by decide +kernel
theorem dX7_quarter_61 : decode cX7_quarter 61 = .ok (.iadd, 1) := by decide +kernel
theorem dX7_quarter_62 : decode cX7_quarter 62 = .ok (.putfield 19, 3) := by decide +kernel
theorem dX7_quarter_65 : decode cX7_quarter 65 = .ok (.iload_n 1, 1) := by decide +kernel
theorem dX7_quarter_66 : decode cX7_quarter 66 = .ok (.ireturn, 1) := by decide +kernel
theorem dX7_weight_0 : decode cX7_weight 0 = .ok (.lconst 1, 1) := by decide +kernel
theorem dX7_weight_1 : decode cX7_weight 1 = .ok (.lstore_n 1, 1) := by decide +kernel
theorem dX7_weight_2 : decode cX7_weight 2 = .ok (.iconst 0, 1) := by decide +kernel
theorem dX7_weight_3 : decode cX7_weight 3 = .ok (.istore_n 3, 1) := by decide +kernel
theorem dX7_weight_4 : decode cX7_weight 4 = .ok (.iload_n 3, 1) := by decide +kernel
theorem dX7_weight_5 : decode cX7_weight 5 = .ok (.bipush 6, 2) := by decide +kernel
theorem dX7_weight_7 : decode cX7_weight 7 = .ok (.if_icmp .ge 42, 3) := by decide +kernel
theorem dX7_weight_10 : decode cX7_weight 10 = .ok (.iload_n 3, 1) := by decide +kernel
theorem dX7_weight_11 : decode cX7_weight 11 = .ok (.aload_n 0, 1) := by decide +kernel
theorem dX7_weight_12 : decode cX7_weight 12 = .ok (.getfield 19, 3) := by decide +kernel
theorem dX7_weight_15 : decode cX7_weight 15 = .ok (.if_icmp .lt 12, 3) := by decide +kernel
theorem dX7_weight_18 : decode cX7_weight 18 = .ok (.lload_n 1, 1) := by decide +kernel
theorem dX7_weight_19 : decode cX7_weight 19 = .ok (.ldc2_w 22, 3) := by decide +kernel
theorem dX7_weight_22 : decode cX7_weight 22 = .ok (.lmul, 1) := by decide +kernel
theorem dX7_weight_23 : decode cX7_weight 23 = .ok (.lstore_n 1, 1) := by decide +kernel
theorem dX7_weight_24 : decode cX7_weight 24 = .ok (.goto 19, 3) := by decide +kernel
theorem dX7_weight_27 : decode cX7_weight 27 = .ok (.aload_n 0, 1) := by decide +kernel
theorem dX7_weight_28 : decode cX7_weight 28 = .ok (.getfield 9, 3) := by decide +kernel
theorem dX7_weight_31 : decode cX7_weight 31 = .ok (.iload_n 3, 1) := by decide +kernel
theorem dX7_weight_32 : decode cX7_weight 32 = .ok (.iaload, 1) := by decide +kernel
theorem dX7_weight_33 : decode cX7_weight 33 = .ok (.iconst 2, 1) := by decide +kernel
theorem dX7_weight_34 : decode cX7_weight 34 = .ok (.if_icmp .ne 9, 3) := by decide +kernel
theorem dX7_weight_37 : decode cX7_weight 37 = .ok (.lload_n 1, 1) := by decide +kernel
theorem dX7_weight_38 : decode cX7_weight 38 = .ok (.ldc2_w 24, 3) := by decide +kernel
theorem dX7_weight_41 : decode cX7_weight 41 = .ok (.lmul, 1) := by decide +kernel
theorem dX7_weight_42 : decode cX7_weight 42 = .ok (.lstore_n 1, 1) := by decide +kernel
theorem dX7_weight_43 : decode cX7_weight 43 = .ok (.iinc 3 1, 3) := by decide +kernel
theorem dX7_weight_46 : decode cX7_weight 46 = .ok (.goto (-42), 3) := by decide +kernel
theorem dX7_weight_49 : decode cX7_weight 49 = .ok (.lload_n 1, 1) := by decide +kernel
theorem dX7_weight_50 : decode cX7_weight 50 = .ok (.lreturn, 1) := by decide +kernel
theorem dX7_advance_0 : decode cX7_advance 0 = .ok (.aload_n 0, 1) := by decide +kernel
theorem dX7_advance_1 : decode cX7_advance 1 = .ok (.iconst 0, 1) := by decide +kernel
theorem dX7_advance_2 : decode cX7_advance 2 = .ok (.putfield 19, 3) := by decide +kernel
theorem dX7_advance_5 : decode cX7_advance 5 = .ok (.aload_n 0, 1) := by decide +kernel
theorem dX7_advance_6 : decode cX7_advance 6 = .ok (.getfield 15, 3) := by decide +kernel
theorem dX7_advance_9 : decode cX7_advance 9 = .ok (.ifCond .le 31, 3) := by decide +kernel
theorem dX7_advance_12 : decode cX7_advance 12 = .ok (.aload_n 0, 1) := by decide +kernel
theorem dX7_advance_13 : decode cX7_advance 13 = .ok (.getfield 9, 3) := by decide +kernel
theorem dX7_advance_16 : decode cX7_advance 16 = .ok (.aload_n 0, 1) := by decide +kernel
theorem dX7_advance_17 : decode cX7_advance 17 = .ok (.getfield 15, 3) := by decide +kernel
theorem dX7_advance_20 : decode cX7_advance 20 = .ok (.iconst 1, 1) := by decide +kernel
theorem dX7_advance_21 : decode cX7_advance 21 = .ok (.isub, 1) := by decide +kernel
theorem dX7_advance_22 : decode cX7_advance 22 = .ok (.iaload, 1) := by decide +kernel
theorem dX7_advance_23 : decode cX7_advance 23 = .ok (.iconst 2, 1) := by decide +kernel
theorem dX7_advance_24 : decode cX7_advance 24 = .ok (.if_icmp .lt 16, 3) := by decide +kernel
theorem dX7_advance_27 : decode cX7_advance 27 = .ok (.aload_n 0, 1) := by decide +kernel
theorem dX7_advance_28 : decode cX7_advance 28 = .ok (.dup, 1) := by decide +kernel
theorem dX7_advance_29 : decode cX7_advance 29 = .ok (.getfield 15, 3) := by decide +kernel
theorem dX7_advance_32 : decode cX7_advance 32 = .ok (.iconst 1, 1) := by decide +kernel
theorem dX7_advance_33 : decode cX7_advance 33 = .ok (.isub, 1) := by decide +kernel
theorem dX7_advance_34 : decode cX7_advance 34 = .ok (.putfield 15, 3) := by decide +kernel
theorem dX7_advance_37 : decode cX7_advance 37 = .ok (.goto (-32), 3) := by decide +kernel
theorem dX7_advance_40 : decode cX7_advance 40 = .ok (.aload_n 0, 1) := by decide +kernel
theorem dX7_advance_41 : decode cX7_advance 41 = .ok (.getfield 15, 3) := by decide +kernel
theorem dX7_advance_44 : decode cX7_advance 44 = .ok (.iconst 1, 1) := by decide +kernel
theorem dX7_advance_45 : decode cX7_advance 45 = .ok (.if_icmp .ge 5, 3) := by decide +kernel
theorem dX7_advance_48 : decode cX7_advance 48 = .ok (.iconst 0, 1) := by decide +kernel
theorem dX7_advance_49 : decode cX7_advance 49 = .ok (.ireturn, 1) := by decide +kernel
theorem dX7_advance_50 : decode cX7_advance 50 = .ok (.aload_n 0, 1) := by decide +kernel
theorem dX7_advance_51 : decode cX7_advance 51 = .ok (.getfield 9, 3) := by decide +kernel
theorem dX7_advance_54 : decode cX7_advance 54 = .ok (.aload_n 0, 1) := by decide +kernel
theorem dX7_advance_55 : decode cX7_advance 55 = .ok (.getfield 15, 3) := by decide +kernel
theorem dX7_advance_58 : decode cX7_advance 58 = .ok (.iconst 1, 1) := by decide +kernel
theorem dX7_advance_59 : decode cX7_advance 59 = .ok (.isub, 1) := by decide +kernel
theorem dX7_advance_60 : decode cX7_advance 60 = .ok (.dup2, 1) := by decide +kernel
theorem dX7_advance_61 : decode cX7_advance 61 = .ok (.iaload, 1) := by decide +kernel
theorem dX7_advance_62 : decode cX7_advance 62 = .ok (.iconst 1, 1) := by decide +kernel
theorem dX7_advance_63 : decode cX7_advance 63 = .ok (.iadd, 1) := by decide +kernel
theorem dX7_advance_64 : decode cX7_advance 64 = .ok (.iastore, 1) := by decide +kernel
theorem dX7_advance_65 : decode cX7_advance 65 = .ok (.iconst 1, 1) := by decide +kernel
theorem dX7_advance_66 : decode cX7_advance 66 = .ok (.ireturn, 1) := by decide +kernel
theorem dX8_init_0 : decode cX8_init 0 = .ok (.aload_n 0, 1) := by decide +kernel
theorem dX8_init_1 : decode cX8_init 1 = .ok (.invokespecial 3, 3) := by decide +kernel
theorem dX8_init_4 : decode cX8_init 4 = .ok (.aload_n 0, 1) := by decide +kernel
theorem dX8_init_5 : decode cX8_init 5 = .ok (.bipush 108, 2) := by decide +kernel
theorem dX8_init_7 : decode cX8_init 7 = .ok (.newarray .int, 2) := by decide +kernel
theorem dX8_init_9 : decode cX8_init 9 = .ok (.putfield 9, 3) := by decide +kernel
theorem dX8_init_12 : decode cX8_init 12 = .ok (.aload_n 0, 1) := by decide +kernel
theorem dX8_init_13 : decode cX8_init 13 = .ok (.iconst 0, 1) := by decide +kernel
theorem dX8_init_14 : decode cX8_init 14 = .ok (.putfield 15, 3) := by decide +kernel
theorem dX8_init_17 : decode cX8_init 17 = .ok (.aload_n 0, 1) := by decide +kernel
theorem dX8_init_18 : decode cX8_init 18 = .ok (.bipush 12, 2) := by decide +kernel
theorem dX8_init_20 : decode cX8_init 20 = .ok (.newarray .int, 2) := by decide +kernel
theorem dX8_init_22 : decode cX8_init 22 = .ok (.putfield 19, 3) := by decide +kernel
theorem dX8_init_25 : decode cX8_init 25 = .ok (.aload_n 0, 1) := by decide +kernel
theorem dX8_init_26 : decode cX8_init 26 = .ok (.iconst 0, 1) := by decide +kernel
theorem dX8_init_27 : decode cX8_init 27 = .ok (.putfield 22, 3) := by decide +kernel
theorem dX8_init_30 : decode cX8_init 30 = .ok (.aload_n 0, 1) := by decide +kernel
theorem dX8_init_31 : decode cX8_init 31 = .ok (.bipush 6, 2) := by decide +kernel
theorem dX8_init_33 : decode cX8_init 33 = .ok (.newarray .int, 2) := by decide +kernel
theorem dX8_init_35 : decode cX8_init 35 = .ok (.putfield 25, 3) := by decide +kernel
theorem dX8_init_38 : decode cX8_init 38 = .ok (.aload_n 0, 1) := by decide +kernel
theorem dX8_init_39 : decode cX8_init 39 = .ok (.bipush 30, 2) := by decide +kernel
theorem dX8_init_41 : decode cX8_init 41 = .ok (.newarray .int, 2) := by decide +kernel
theorem dX8_init_43 : decode cX8_init 43 = .ok (.putfield 28, 3) := by decide +kernel
theorem dX8_init_46 : decode cX8_init 46 = .ok (.aload_n 0, 1) := by decide +kernel
theorem dX8_init_47 : decode cX8_init 47 = .ok (.bipush 48, 2) := by decide +kernel
theorem dX8_init_49 : decode cX8_init 49 = .ok (.newarray .int, 2) := by decide +kernel
theorem dX8_init_51 : decode cX8_init 51 = .ok (.putfield 31, 3) := by decide +kernel
theorem dX8_init_54 : decode cX8_init 54 = .ok (.aload_n 0, 1) := by decide +kernel
theorem dX8_init_55 : decode cX8_init 55 = .ok (.new 34, 3) := by decide +kernel
theorem dX8_init_58 : decode cX8_init 58 = .ok (.dup, 1) := by decide +kernel
theorem dX8_init_59 : decode cX8_init 59 = .ok (.invokespecial 36, 3) := by decide +kernel
theorem dX8_init_62 : decode cX8_init 62 = .ok (.putfield 37, 3) := by decide +kernel
theorem dX8_init_65 : decode cX8_init 65 = .ok (.aload_n 0, 1) := by decide +kernel
theorem dX8_init_66 : decode cX8_init 66 = .ok (.iconst 0, 1) := by decide +kernel
theorem dX8_init_67 : decode cX8_init 67 = .ok (.putfield 41, 3) := by decide +kernel
theorem dX8_init_70 : decode cX8_init 70 = .ok (.aload_n 0, 1) := by decide +kernel
theorem dX8_init_71 : decode cX8_init 71 = .ok (.iconst 0, 1) := by decide +kernel
theorem dX8_init_72 : decode cX8_init 72 = .ok (.putfield 44, 3) := by decide +kernel
theorem dX8_init_75 : decode cX8_init 75 = .ok (.aload_n 0, 1) := by decide +kernel
theorem dX8_init_76 : decode cX8_init 76 = .ok (.iconst 0, 1) := by decide +kernel
theorem dX8_init_77 : decode cX8_init 77 = .ok (.putfield 47, 3) := by decide +kernel
theorem dX8_init_80 : decode cX8_init 80 = .ok (.aload_n 0, 1) := by decide +kernel
theorem dX8_init_81 : decode cX8_init 81 = .ok (.iconst 0, 1) := by decide +kernel
theorem dX8_init_82 : decode cX8_init 82 = .ok (.putfield 50, 3) := by decide +kernel
theorem dX8_init_85 : decode cX8_init 85 = .ok (.aload_n 0, 1) := by decide +kernel
theorem dX8_init_86 : decode cX8_init 86 = .ok (.iconst 0, 1) := by decide +kernel
theorem dX8_init_87 : decode cX8_init 87 = .ok (.putfield 53, 3) := by decide +kernel
theorem dX8_init_90 : decode cX8_init 90 = .ok (.aload_n 0, 1) := by decide +kernel
theorem dX8_init_91 : decode cX8_init 91 = .ok (.aload_n 1, 1) := by decide +kernel
theorem dX8_init_92 : decode cX8_init 92 = .ok (.putfield 56, 3) := by decide +kernel
theorem dX8_init_95 : decode cX8_init 95 = .ok (.return_, 1) := by decide +kernel
theorem dX8_begin_0 : decode cX8_begin 0 = .ok (.aload_n 0, 1) := by decide +kernel
theorem dX8_begin_1 : decode cX8_begin 1 = .ok (.iconst 0, 1) := by decide +kernel
theorem dX8_begin_2 : decode cX8_begin 2 = .ok (.putfield 15, 3) := by decide +kernel
theorem dX8_begin_5 : decode cX8_begin 5 = .ok (.iconst 0, 1) := by decide +kernel
theorem dX8_begin_6 : decode cX8_begin 6 = .ok (.istore_n 1, 1) := by decide +kernel
theorem dX8_begin_7 : decode cX8_begin 7 = .ok (.iload_n 1, 1) := by decide +kernel
theorem dX8_begin_8 : decode cX8_begin 8 = .ok (.aload_n 0, 1) := by decide +kernel
theorem dX8_begin_9 : decode cX8_begin 9 = .ok (.getfield 56, 3) := by decide +kernel
theorem dX8_begin_12 : decode cX8_begin 12 = .ok (.getfield 60, 3) := by decide +kernel
theorem dX8_begin_15 : decode cX8_begin 15 = .ok (.if_icmp .ge 105, 3) := by decide +kernel
theorem dX8_begin_18 : decode cX8_begin 18 = .ok (.aload_n 0, 1) := by decide +kernel
theorem dX8_begin_19 : decode cX8_begin 19 = .ok (.getfield 15, 3) := by decide +kernel
theorem dX8_begin_22 : decode cX8_begin 22 = .ok (.bipush 6, 2) := by decide +kernel
theorem dX8_begin_24 : decode cX8_begin 24 = .ok (.imul, 1) := by decide +kernel
theorem dX8_begin_25 : decode cX8_begin 25 = .ok (.istore_n 2, 1) := by decide +kernel
theorem dX8_begin_26 : decode cX8_begin 26 = .ok (.aload_n 0, 1) := by decide +kernel
theorem dX8_begin_27 : decode cX8_begin 27 = .ok (.getfield 9, 3) := by decide +kernel
theorem dX8_begin_30 : decode cX8_begin 30 = .ok (.iload_n 2, 1) := by decide +kernel
theorem dX8_begin_31 : decode cX8_begin 31 = .ok (.iconst 0, 1) := by decide +kernel
theorem dX8_begin_32 : decode cX8_begin 32 = .ok (.iadd, 1) := by decide +kernel
theorem dX8_begin_33 : decode cX8_begin 33 = .ok (.iload_n 1, 1) := by decide +kernel
theorem dX8_begin_34 : decode cX8_begin 34 = .ok (.iastore, 1) := by decide +kernel
theorem dX8_begin_35 : decode cX8_begin 35 = .ok (.aload_n 0, 1) := by decide +kernel
theorem dX8_begin_36 : decode cX8_begin 36 = .ok (.getfield 9, 3) := by decide +kernel
theorem dX8_begin_39 : decode cX8_begin 39 = .ok (.iload_n 2, 1) := by decide +kernel
theorem dX8_begin_40 : decode cX8_begin 40 = .ok (.iconst 1, 1) := by decide +kernel
theorem dX8_begin_41 : decode cX8_begin 41 = .ok (.iadd, 1) := by decide +kernel
theorem dX8_begin_42 : decode cX8_begin 42 = .ok (.iconst 0, 1) := by decide +kernel
theorem dX8_begin_43 : decode cX8_begin 43 = .ok (.iastore, 1) := by decide +kernel
theorem dX8_begin_44 : decode cX8_begin 44 = .ok (.aload_n 0, 1) := by decide +kernel
theorem dX8_begin_45 : decode cX8_begin 45 = .ok (.getfield 9, 3) := by decide +kernel
theorem dX8_begin_48 : decode cX8_begin 48 = .ok (.iload_n 2, 1) := by decide +kernel
theorem dX8_begin_49 : decode cX8_begin 49 = .ok (.iconst 2, 1) := by decide +kernel
theorem dX8_begin_50 : decode cX8_begin 50 = .ok (.iadd, 1) := by decide +kernel
theorem dX8_begin_51 : decode cX8_begin 51 = .ok (.aload_n 0, 1) := by decide +kernel
theorem dX8_begin_52 : decode cX8_begin 52 = .ok (.getfield 56, 3) := by decide +kernel
theorem dX8_begin_55 : decode cX8_begin 55 = .ok (.getfield 65, 3) := by decide +kernel
theorem dX8_begin_58 : decode cX8_begin 58 = .ok (.iload_n 1, 1) := by decide +kernel
theorem dX8_begin_59 : decode cX8_begin 59 = .ok (.iconst 3, 1) := by decide +kernel
theorem dX8_begin_60 : decode cX8_begin 60 = .ok (.imul, 1) := by decide +kernel
theorem dX8_begin_61 : decode cX8_begin 61 = .ok (.iconst 0, 1) := by decide +kernel
theorem dX8_begin_62 : decode cX8_begin 62 = .ok (.iadd, 1) := by decide +kernel
theorem dX8_begin_63 : decode cX8_begin 63 = .ok (.iaload, 1) := by decide +kernel
theorem dX8_begin_64 : decode cX8_begin 64 = .ok (.iastore, 1) := by decide +kernel
theorem dX8_begin_65 : decode cX8_begin 65 = .ok (.aload_n 0, 1) := by decide +kernel
theorem dX8_begin_66 : decode cX8_begin 66 = .ok (.getfield 9, 3) := by decide +kernel
theorem dX8_begin_69 : decode cX8_begin 69 = .ok (.iload_n 2, 1) := by decide +kernel
theorem dX8_begin_70 : decode cX8_begin 70 = .ok (.iconst 3, 1) := by decide +kernel
theorem dX8_begin_71 : decode cX8_begin 71 = .ok (.iadd, 1) := by decide +kernel
theorem dX8_begin_72 : decode cX8_begin 72 = .ok (.iconst 0, 1) := by decide +kernel
theorem dX8_begin_73 : decode cX8_begin 73 = .ok (.iastore, 1) := by decide +kernel
theorem dX8_begin_74 : decode cX8_begin 74 = .ok (.aload_n 0, 1) := by decide +kernel
theorem dX8_begin_75 : decode cX8_begin 75 = .ok (.getfield 9, 3) := by decide +kernel
theorem dX8_begin_78 : decode cX8_begin 78 = .ok (.iload_n 2, 1) := by decide +kernel
theorem dX8_begin_79 : decode cX8_begin 79 = .ok (.iconst 4, 1) := by decide +kernel
theorem dX8_begin_80 : decode cX8_begin 80 = .ok (.iadd, 1) := by decide +kernel
theorem dX8_begin_81 : decode cX8_begin 81 = .ok (.aload_n 0, 1) := by decide +kernel
theorem dX8_begin_82 : decode cX8_begin 82 = .ok (.getfield 56, 3) := by decide +kernel
theorem dX8_begin_85 : decode cX8_begin 85 = .ok (.getfield 65, 3) := by decide +kernel
theorem dX8_begin_88 : decode cX8_begin 88 = .ok (.iload_n 1, 1) := by decide +kernel
theorem dX8_begin_89 : decode cX8_begin 89 = .ok (.iconst 3, 1) := by decide +kernel
theorem dX8_begin_90 : decode cX8_begin 90 = .ok (.imul, 1) := by decide +kernel
theorem dX8_begin_91 : decode cX8_begin 91 = .ok (.iconst 1, 1) := by decide +kernel
theorem dX8_begin_92 : decode cX8_begin 92 = .ok (.iadd, 1) := by decide +kernel
theorem dX8_begin_93 : decode cX8_begin 93 = .ok (.iaload, 1) := by decide +kernel
theorem dX8_begin_94 : decode cX8_begin 94 = .ok (.iastore, 1) := by decide +kernel
theorem dX8_begin_95 : decode cX8_begin 95 = .ok (.aload_n 0, 1) := by decide +kernel
theorem dX8_begin_96 : decode cX8_begin 96 = .ok (.getfield 9, 3) := by decide +kernel
theorem dX8_begin_99 : decode cX8_begin 99 = .ok (.iload_n 2, 1) := by decide +kernel
theorem dX8_begin_100 : decode cX8_begin 100 = .ok (.iconst 5, 1) := by decide +kernel
theorem dX8_begin_101 : decode cX8_begin 101 = .ok (.iadd, 1) := by decide +kernel
theorem dX8_begin_102 : decode cX8_begin 102 = .ok (.iconst 1, 1) := by decide +kernel
theorem dX8_begin_103 : decode cX8_begin 103 = .ok (.iastore, 1) := by decide +kernel
theorem dX8_begin_104 : decode cX8_begin 104 = .ok (.aload_n 0, 1) := by decide +kernel
theorem dX8_begin_105 : decode cX8_begin 105 = .ok (.dup, 1) := by decide +kernel
theorem dX8_begin_106 : decode cX8_begin 106 = .ok (.getfield 15, 3) := by decide +kernel
theorem dX8_begin_109 : decode cX8_begin 109 = .ok (.iconst 1, 1) := by decide +kernel
theorem dX8_begin_110 : decode cX8_begin 110 = .ok (.iadd, 1) := by decide +kernel
theorem dX8_begin_111 : decode cX8_begin 111 = .ok (.putfield 15, 3) := by decide +kernel
theorem dX8_begin_114 : decode cX8_begin 114 = .ok (.iinc 1 1, 3) := by decide +kernel
theorem dX8_begin_117 : decode cX8_begin 117 = .ok (.goto (-110), 3) := by decide +kernel
theorem dX8_begin_120 : decode cX8_begin 120 = .ok (.iconst 0, 1) := by decide +kernel
theorem dX8_begin_121 : decode cX8_begin 121 = .ok (.istore_n 1, 1) := by decide +kernel
theorem dX8_begin_122 : decode cX8_begin 122 = .ok (.iload_n 1, 1) := by decide +kernel
theorem dX8_begin_123 : decode cX8_begin 123 = .ok (.aload_n 0, 1) := by decide +kernel
theorem dX8_begin_124 : decode cX8_begin 124 = .ok (.getfield 56, 3) := by decide +kernel
theorem dX8_begin_127 : decode cX8_begin 127 = .ok (.getfield 68, 3) := by decide +kernel
theorem dX8_begin_130 : decode cX8_begin 130 = .ok (.if_icmp .ge 28, 3) := by decide +kernel
theorem dX8_begin_133 : decode cX8_begin 133 = .ok (.aload_n 0, 1) := by decide +kernel
theorem dX8_begin_134 : decode cX8_begin 134 = .ok (.getfield 19, 3) := by decide +kernel
theorem dX8_begin_137 : decode cX8_begin 137 = .ok (.iload_n 1, 1) := by decide +kernel
theorem dX8_begin_138 : decode cX8_begin 138 = .ok (.aload_n 0, 1) := by decide +kernel
theorem dX8_begin_139 : decode cX8_begin 139 = .ok (.getfield 56, 3) := by decide +kernel
theorem dX8_begin_142 : decode cX8_begin 142 = .ok (.getfield 71, 3) := by decide +kernel
theorem dX8_begin_145 : decode cX8_begin 145 = .ok (.iload_n 1, 1) := by decide +kernel
theorem dX8_begin_146 : decode cX8_begin 146 = .ok (.iconst 5, 1) := by decide +kernel
theorem dX8_begin_147 : decode cX8_begin 147 = .ok (.imul, 1) := by decide +kernel
theorem dX8_begin_148 : decode cX8_begin 148 = .ok (.iconst 4, 1) := by decide +kernel
theorem dX8_begin_149 : decode cX8_begin 149 = .ok (.iadd, 1) := by decide +kernel
theorem dX8_begin_150 : decode cX8_begin 150 = .ok (.iaload, 1) := by decide +kernel
theorem dX8_begin_151 : decode cX8_begin 151 = .ok (.iastore, 1) := by decide +kernel
theorem dX8_begin_152 : decode cX8_begin 152 = .ok (.iinc 1 1, 3) := by decide +kernel
theorem dX8_begin_155 : decode cX8_begin 155 = .ok (.goto (-33), 3) := by decide +kernel
theorem dX8_begin_158 : decode cX8_begin 158 = .ok (.aload_n 0, 1) := by decide +kernel
theorem dX8_begin_159 : decode cX8_begin 159 = .ok (.getfield 25, 3) := by decide +kernel
theorem dX8_begin_162 : decode cX8_begin 162 = .ok (.iconst 0, 1) := by decide +kernel
theorem dX8_begin_163 : decode cX8_begin 163 = .ok (.invokestatic 74, 3) := by decide +kernel
theorem dX8_begin_166 : decode cX8_begin 166 = .ok (.aload_n 0, 1) := by decide +kernel
theorem dX8_begin_167 : decode cX8_begin 167 = .ok (.iconst 0, 1) := by decide +kernel
theorem dX8_begin_168 : decode cX8_begin 168 = .ok (.putfield 22, 3) := by decide +kernel
theorem dX8_begin_171 : decode cX8_begin 171 = .ok (.aload_n 0, 1) := by decide +kernel
theorem dX8_begin_172 : decode cX8_begin 172 = .ok (.getfield 37, 3) := by decide +kernel
theorem dX8_begin_175 : decode cX8_begin 175 = .ok (.iconst 0, 1) := by decide +kernel
theorem dX8_begin_176 : decode cX8_begin 176 = .ok (.putfield 80, 3) := by decide +kernel
theorem dX8_begin_179 : decode cX8_begin 179 = .ok (.aload_n 0, 1) := by decide +kernel
theorem dX8_begin_180 : decode cX8_begin 180 = .ok (.iconst 0, 1) := by decide +kernel
theorem dX8_begin_181 : decode cX8_begin 181 = .ok (.putfield 41, 3) := by decide +kernel
theorem dX8_begin_184 : decode cX8_begin 184 = .ok (.aload_n 0, 1) := by decide +kernel
theorem dX8_begin_185 : decode cX8_begin 185 = .ok (.iconst 0, 1) := by decide +kernel
theorem dX8_begin_186 : decode cX8_begin 186 = .ok (.putfield 44, 3) := by decide +kernel
theorem dX8_begin_189 : decode cX8_begin 189 = .ok (.aload_n 0, 1) := by decide +kernel
theorem dX8_begin_190 : decode cX8_begin 190 = .ok (.iconst 0, 1) := by decide +kernel
theorem dX8_begin_191 : decode cX8_begin 191 = .ok (.putfield 47, 3) := by decide +kernel
theorem dX8_begin_194 : decode cX8_begin 194 = .ok (.aload_n 0, 1) := by decide +kernel
theorem dX8_begin_195 : decode cX8_begin 195 = .ok (.iconst 0, 1) := by decide +kernel
theorem dX8_begin_196 : decode cX8_begin 196 = .ok (.putfield 50, 3) := by decide +kernel
theorem dX8_begin_199 : decode cX8_begin 199 = .ok (.aload_n 0, 1) := by decide +kernel
theorem dX8_begin_200 : decode cX8_begin 200 = .ok (.iconst 0, 1) := by decide +kernel
theorem dX8_begin_201 : decode cX8_begin 201 = .ok (.putfield 53, 3) := by decide +kernel
theorem dX8_begin_204 : decode cX8_begin 204 = .ok (.return_, 1) := by decide +kernel
theorem dX8_copyFrom_0 : decode cX8_copyFrom 0 = .ok (.aload_n 1, 1) := by decide +kernel
theorem dX8_copyFrom_1 : decode cX8_copyFrom 1 = .ok (.getfield 9, 3) := by decide +kernel
theorem dX8_copyFrom_4 : decode cX8_copyFrom 4 = .ok (.iconst 0, 1) := by decide +kernel
theorem dX8_copyFrom_5 : decode cX8_copyFrom 5 = .ok (.aload_n 0, 1) := by decide +kernel
theorem dX8_copyFrom_6 : decode cX8_copyFrom 6 = .ok (.getfield 9, 3) := by decide +kernel
theorem dX8_copyFrom_9 : decode cX8_copyFrom 9 = .ok (.iconst 0, 1) := by decide +kernel
theorem dX8_copyFrom_10 : decode cX8_copyFrom 10 = .ok (.aload_n 1, 1) := by decide +kernel
theorem dX8_copyFrom_11 : decode cX8_copyFrom 11 = .ok (.getfield 15, 3) := by decide +kernel
theorem dX8_copyFrom_14 : decode cX8_copyFrom 14 = .ok (.bipush 6, 2) := by decide +kernel
theorem dX8_copyFrom_16 : decode cX8_copyFrom 16 = .ok (.imul, 1) := by decide +kernel
theorem dX8_copyFrom_17 : decode cX8_copyFrom 17 = .ok (.invokestatic 83, 3) := by decide +kernel
theorem dX8_copyFrom_20 : decode cX8_copyFrom 20 = .ok (.aload_n 0, 1) := by decide +kernel
theorem dX8_copyFrom_21 : decode cX8_copyFrom 21 = .ok (.aload_n 1, 1) := by decide +kernel
theorem dX8_copyFrom_22 : decode cX8_copyFrom 22 = .ok (.getfield 15, 3) := by decide +kernel
theorem dX8_copyFrom_25 : decode cX8_copyFrom 25 = .ok (.putfield 15, 3) := by decide +kernel
theorem dX8_copyFrom_28 : decode cX8_copyFrom 28 = .ok (.aload_n 1, 1) := by decide +kernel
theorem dX8_copyFrom_29 : decode cX8_copyFrom 29 = .ok (.getfield 19, 3) := by decide +kernel
theorem dX8_copyFrom_32 : decode cX8_copyFrom 32 = .ok (.iconst 0, 1) := by decide +kernel
theorem dX8_copyFrom_33 : decode cX8_copyFrom 33 = .ok (.aload_n 0, 1) := by decide +kernel
theorem dX8_copyFrom_34 : decode cX8_copyFrom 34 = .ok (.getfield 19, 3) := by decide +kernel
theorem dX8_copyFrom_37 : decode cX8_copyFrom 37 = .ok (.iconst 0, 1) := by decide +kernel
theorem dX8_copyFrom_38 : decode cX8_copyFrom 38 = .ok (.aload_n 0, 1) := by decide +kernel
theorem dX8_copyFrom_39 : decode cX8_copyFrom 39 = .ok (.getfield 19, 3) := by decide +kernel
theorem dX8_copyFrom_42 : decode cX8_copyFrom 42 = .ok (.arraylength, 1) := by decide +kernel
theorem dX8_copyFrom_43 : decode cX8_copyFrom 43 = .ok (.invokestatic 83, 3) := by decide +kernel
theorem dX8_copyFrom_46 : decode cX8_copyFrom 46 = .ok (.aload_n 0, 1) := by decide +kernel
theorem dX8_copyFrom_47 : decode cX8_copyFrom 47 = .ok (.aload_n 1, 1) := by decide +kernel
theorem dX8_copyFrom_48 : decode cX8_copyFrom 48 = .ok (.getfield 22, 3) := by decide +kernel
theorem dX8_copyFrom_51 : decode cX8_copyFrom 51 = .ok (.putfield 22, 3) := by decide +kernel
theorem dX8_copyFrom_54 : decode cX8_copyFrom 54 = .ok (.aload_n 1, 1) := by decide +kernel
theorem dX8_copyFrom_55 : decode cX8_copyFrom 55 = .ok (.getfield 25, 3) := by decide +kernel
theorem dX8_copyFrom_58 : decode cX8_copyFrom 58 = .ok (.iconst 0, 1) := by decide +kernel
theorem dX8_copyFrom_59 : decode cX8_copyFrom 59 = .ok (.aload_n 0, 1) := by decide +kernel
theorem dX8_copyFrom_60 : decode cX8_copyFrom 60 = .ok (.getfield 25, 3) := by decide +kernel
theorem dX8_copyFrom_63 : decode cX8_copyFrom 63 = .ok (.iconst 0, 1) := by decide +kernel
theorem dX8_copyFrom_64 : decode cX8_copyFrom 64 = .ok (.aload_n 0, 1) := by decide +kernel
theorem dX8_copyFrom_65 : decode cX8_copyFrom 65 = .ok (.getfield 25, 3) := by decide +kernel
theorem dX8_copyFrom_68 : decode cX8_copyFrom 68 = .ok (.arraylength, 1) := by decide +kernel
theorem dX8_copyFrom_69 : decode cX8_copyFrom 69 = .ok (.invokestatic 83, 3) := by decide +kernel
theorem dX8_copyFrom_72 : decode cX8_copyFrom 72 = .ok (.aload_n 1, 1) := by decide +kernel
theorem dX8_copyFrom_73 : decode cX8_copyFrom 73 = .ok (.getfield 28, 3) := by decide +kernel
theorem dX8_copyFrom_76 : decode cX8_copyFrom 76 = .ok (.iconst 0, 1) := by decide +kernel
theorem dX8_copyFrom_77 : decode cX8_copyFrom 77 = .ok (.aload_n 0, 1) := by decide +kernel
theorem dX8_copyFrom_78 : decode cX8_copyFrom 78 = .ok (.getfield 28, 3) := by decide +kernel
theorem dX8_copyFrom_81 : decode cX8_copyFrom 81 = .ok (.iconst 0, 1) := by decide +kernel
theorem dX8_copyFrom_82 : decode cX8_copyFrom 82 = .ok (.aload_n 1, 1) := by decide +kernel
theorem dX8_copyFrom_83 : decode cX8_copyFrom 83 = .ok (.getfield 41, 3) := by decide +kernel
theorem dX8_copyFrom_86 : decode cX8_copyFrom 86 = .ok (.invokestatic 83, 3) := by decide +kernel
theorem dX8_copyFrom_89 : decode cX8_copyFrom 89 = .ok (.aload_n 1, 1) := by decide +kernel
theorem dX8_copyFrom_90 : decode cX8_copyFrom 90 = .ok (.getfield 31, 3) := by decide +kernel
theorem dX8_copyFrom_93 : decode cX8_copyFrom 93 = .ok (.iconst 0, 1) := by decide +kernel
theorem dX8_copyFrom_94 : decode cX8_copyFrom 94 = .ok (.aload_n 0, 1) := by decide +kernel
theorem dX8_copyFrom_95 : decode cX8_copyFrom 95 = .ok (.getfield 31, 3) := by decide +kernel
theorem dX8_copyFrom_98 : decode cX8_copyFrom 98 = .ok (.iconst 0, 1) := by decide +kernel
theorem dX8_copyFrom_99 : decode cX8_copyFrom 99 = .ok (.aload_n 1, 1) := by decide +kernel
theorem dX8_copyFrom_100 : decode cX8_copyFrom 100 = .ok (.getfield 47, 3) := by decide +kernel
theorem dX8_copyFrom_103 : decode cX8_copyFrom 103 = .ok (.iconst 4, 1) := by decide +kernel
theorem dX8_copyFrom_104 : decode cX8_copyFrom 104 = .ok (.imul, 1) := by decide +kernel
theorem dX8_copyFrom_105 : decode cX8_copyFrom 105 = .ok (.invokestatic 83, 3) := by decide +kernel
theorem dX8_copyFrom_108 : decode cX8_copyFrom 108 = .ok (.aload_n 0, 1) := by decide +kernel
theorem dX8_copyFrom_109 : decode cX8_copyFrom 109 = .ok (.getfield 37, 3) := by decide +kernel
theorem dX8_copyFrom_112 : decode cX8_copyFrom 112 = .ok (.aload_n 1, 1) := by decide +kernel
theorem dX8_copyFrom_113 : decode cX8_copyFrom 113 = .ok (.getfield 37, 3) := by decide +kernel
theorem dX8_copyFrom_116 : decode cX8_copyFrom 116 = .ok (.getfield 80, 3) := by decide +kernel
theorem dX8_copyFrom_119 : decode cX8_copyFrom 119 = .ok (.putfield 80, 3) := by decide +kernel
theorem dX8_copyFrom_122 : decode cX8_copyFrom 122 = .ok (.aload_n 0, 1) := by decide +kernel
theorem dX8_copyFrom_123 : decode cX8_copyFrom 123 = .ok (.aload_n 1, 1) := by decide +kernel
theorem dX8_copyFrom_124 : decode cX8_copyFrom 124 = .ok (.getfield 41, 3) := by decide +kernel
theorem dX8_copyFrom_127 : decode cX8_copyFrom 127 = .ok (.putfield 41, 3) := by decide +kernel
theorem dX8_copyFrom_130 : decode cX8_copyFrom 130 = .ok (.aload_n 0, 1) := by decide +kernel
theorem dX8_copyFrom_131 : decode cX8_copyFrom 131 = .ok (.aload_n 1, 1) := by decide +kernel
theorem dX8_copyFrom_132 : decode cX8_copyFrom 132 = .ok (.getfield 44, 3) := by decide +kernel
theorem dX8_copyFrom_135 : decode cX8_copyFrom 135 = .ok (.putfield 44, 3) := by decide +kernel
theorem dX8_copyFrom_138 : decode cX8_copyFrom 138 = .ok (.aload_n 0, 1) := by decide +kernel
theorem dX8_copyFrom_139 : decode cX8_copyFrom 139 = .ok (.aload_n 1, 1) := by decide +kernel
theorem dX8_copyFrom_140 : decode cX8_copyFrom 140 = .ok (.getfield 47, 3) := by decide +kernel
theorem dX8_copyFrom_143 : decode cX8_copyFrom 143 = .ok (.putfield 47, 3) := by decide +kernel
theorem dX8_copyFrom_146 : decode cX8_copyFrom 146 = .ok (.aload_n 0, 1) := by decide +kernel
theorem dX8_copyFrom_147 : decode cX8_copyFrom 147 = .ok (.aload_n 1, 1) := by decide +kernel
theorem dX8_copyFrom_148 : decode cX8_copyFrom 148 = .ok (.getfield 50, 3) := by decide +kernel
theorem dX8_copyFrom_151 : decode cX8_copyFrom 151 = .ok (.putfield 50, 3) := by decide +kernel
theorem dX8_copyFrom_154 : decode cX8_copyFrom 154 = .ok (.aload_n 0, 1) := by decide +kernel
theorem dX8_copyFrom_155 : decode cX8_copyFrom 155 = .ok (.aload_n 1, 1) := by decide +kernel
theorem dX8_copyFrom_156 : decode cX8_copyFrom 156 = .ok (.getfield 53, 3) := by decide +kernel
theorem dX8_copyFrom_159 : decode cX8_copyFrom 159 = .ok (.putfield 53, 3) := by decide +kernel
theorem dX8_copyFrom_162 : decode cX8_copyFrom 162 = .ok (.return_, 1) := by decide +kernel
theorem dX8_needOf_0 : decode cX8_needOf 0 = .ok (.aload_n 0, 1) := by decide +kernel
theorem dX8_needOf_1 : decode cX8_needOf 1 = .ok (.getfield 56, 3) := by decide +kernel
theorem dX8_needOf_4 : decode cX8_needOf 4 = .ok (.iload_n 1, 1) := by decide +kernel
theorem dX8_needOf_5 : decode cX8_needOf 5 = .ok (.invokevirtual 89, 3) := by decide +kernel
theorem dX8_needOf_8 : decode cX8_needOf 8 = .ok (.ifCond .eq 8, 3) := by decide +kernel
theorem dX8_needOf_11 : decode cX8_needOf 11 = .ok (.bipush 6, 2) := by decide +kernel
theorem dX8_needOf_13 : decode cX8_needOf 13 = .ok (.goto 4, 3) := by decide +kernel
theorem dX8_needOf_16 : decode cX8_needOf 16 = .ok (.iconst 4, 1) := by decide +kernel
theorem dX8_needOf_17 : decode cX8_needOf 17 = .ok (.aload_n 0, 1) := by decide +kernel
theorem dX8_needOf_18 : decode cX8_needOf 18 = .ok (.getfield 19, 3) := by decide +kernel
theorem dX8_needOf_21 : decode cX8_needOf 21 = .ok (.iload_n 1, 1) := by decide +kernel
theorem dX8_needOf_22 : decode cX8_needOf 22 = .ok (.iaload, 1) := by decide +kernel
theorem dX8_needOf_23 : decode cX8_needOf 23 = .ok (.iconst 3, 1) := by decide +kernel
theorem dX8_needOf_24 : decode cX8_needOf 24 = .ok (.idiv, 1) := by decide +kernel
theorem dX8_needOf_25 : decode cX8_needOf 25 = .ok (.isub, 1) := by decide +kernel
theorem dX8_needOf_26 : decode cX8_needOf 26 = .ok (.ireturn, 1) := by decide +kernel
theorem dX8_pieceUnder_0 : decode cX8_pieceUnder 0 = .ok (.iload_n 1, 1) := by decide +kernel
theorem dX8_pieceUnder_1 : decode cX8_pieceUnder 1 = .ok (.iconst 5, 1) := by decide +kernel
theorem dX8_pieceUnder_2 : decode cX8_pieceUnder 2 = .ok (.imul, 1) := by decide +kernel
theorem dX8_pieceUnder_3 : decode cX8_pieceUnder 3 = .ok (.istore_n 2, 1) := by decide +kernel
theorem dX8_pieceUnder_4 : decode cX8_pieceUnder 4 = .ok (.aload_n 0, 1) := by decide +kernel
theorem dX8_pieceUnder_5 : decode cX8_pieceUnder 5 = .ok (.getfield 56, 3) := by decide +kernel
theorem dX8_pieceUnder_8 : decode cX8_pieceUnder 8 = .ok (.getfield 71, 3) := by decide +kernel
theorem dX8_pieceUnder_11 : decode cX8_pieceUnder 11 = .ok (.iload_n 2, 1) := by decide +kernel
theorem dX8_pieceUnder_12 : decode cX8_pieceUnder 12 = .ok (.iconst 1, 1) := by decide +kernel
theorem dX8_pieceUnder_13 : decode cX8_pieceUnder 13 = .ok (.iadd, 1) := by decide +kernel
theorem dX8_pieceUnder_14 : decode cX8_pieceUnder 14 = .ok (.iaload, 1) := by decide +kernel
theorem dX8_pieceUnder_15 : decode cX8_pieceUnder 15 = .ok (.ifCond .ne 7, 3) := by decide +kernel
theorem dX8_pieceUnder_18 : decode cX8_pieceUnder 18 = .ok (.iconst 1, 1) := by decide +kernel
theorem dX8_pieceUnder_19 : decode cX8_pieceUnder 19 = .ok (.goto 4, 3) := by decide +kernel
theorem dX8_pieceUnder_22 : decode cX8_pieceUnder 22 = .ok (.iconst 0, 1) := by decide +kernel
theorem dX8_pieceUnder_23 : decode cX8_pieceUnder 23 = .ok (.istore_n 3, 1) := by decide +kernel
theorem dX8_pieceUnder_24 : decode cX8_pieceUnder 24 = .ok (.aload_n 0, 1) := by decide +kernel
theorem dX8_pieceUnder_25 : decode cX8_pieceUnder 25 = .ok (.getfield 56, 3) := by decide +kernel
theorem dX8_pieceUnder_28 : decode cX8_pieceUnder 28 = .ok (.getfield 71, 3) := by decide +kernel
theorem dX8_pieceUnder_31 : decode cX8_pieceUnder 31 = .ok (.iload_n 2, 1) := by decide +kernel
theorem dX8_pieceUnder_32 : decode cX8_pieceUnder 32 = .ok (.iload_n 3, 1) := by decide +kernel
theorem dX8_pieceUnder_33 : decode cX8_pieceUnder 33 = .ok (.ifCond .eq 7, 3) := by decide +kernel
theorem dX8_pieceUnder_36 : decode cX8_pieceUnder 36 = .ok (.iconst 2, 1) := by decide +kernel
theorem dX8_pieceUnder_37 : decode cX8_pieceUnder 37 = .ok (.goto 4, 3) := by decide +kernel
theorem dX8_pieceUnder_40 : decode cX8_pieceUnder 40 = .ok (.iconst 3, 1) := by decide +kernel
theorem dX8_pieceUnder_41 : decode cX8_pieceUnder 41 = .ok (.iadd, 1) := by decide +kernel
theorem dX8_pieceUnder_42 : decode cX8_pieceUnder 42 = .ok (.iaload, 1) := by decide +kernel
theorem dX8_pieceUnder_43 : decode cX8_pieceUnder 43 = .ok (.istore 4, 2) := by decide +kernel
theorem dX8_pieceUnder_45 : decode cX8_pieceUnder 45 = .ok (.aload_n 0, 1) := by decide +kernel
theorem dX8_pieceUnder_46 : decode cX8_pieceUnder 46 = .ok (.getfield 56, 3) := by decide +kernel
theorem dX8_pieceUnder_49 : decode cX8_pieceUnder 49 = .ok (.getfield 71, 3) := by decide +kernel
theorem dX8_pieceUnder_52 : decode cX8_pieceUnder 52 = .ok (.iload_n 2, 1) := by decide +kernel
theorem dX8_pieceUnder_53 : decode cX8_pieceUnder 53 = .ok (.iload_n 3, 1) := by decide +kernel
theorem dX8_pieceUnder_54 : decode cX8_pieceUnder 54 = .ok (.ifCond .eq 7, 3) := by decide +kernel
theorem dX8_pieceUnder_57 : decode cX8_pieceUnder 57 = .ok (.iconst 3, 1) := by decide +kernel
theorem dX8_pieceUnder_58 : decode cX8_pieceUnder 58 = .ok (.goto 4, 3) := by decide +kernel
theorem dX8_pieceUnder_61 : decode cX8_pieceUnder 61 = .ok (.iconst 2, 1) := by decide +kernel
theorem dX8_pieceUnder_62 : decode cX8_pieceUnder 62 = .ok (.iadd, 1) := by decide +kernel
theorem dX8_pieceUnder_63 : decode cX8_pieceUnder 63 = .ok (.iaload, 1) := by decide +kernel
theorem dX8_pieceUnder_64 : decode cX8_pieceUnder 64 = .ok (.istore 5, 2) := by decide +kernel
theorem dX8_pieceUnder_66 : decode cX8_pieceUnder 66 = .ok (.aload_n 0, 1) := by decide +kernel
theorem dX8_pieceUnder_67 : decode cX8_pieceUnder 67 = .ok (.getfield 56, 3) := by decide +kernel
theorem dX8_pieceUnder_70 : decode cX8_pieceUnder 70 = .ok (.getfield 71, 3) := by decide +kernel
theorem dX8_pieceUnder_73 : decode cX8_pieceUnder 73 = .ok (.iload_n 2, 1) := by decide +kernel
theorem dX8_pieceUnder_74 : decode cX8_pieceUnder 74 = .ok (.iconst 0, 1) := by decide +kernel
theorem dX8_pieceUnder_75 : decode cX8_pieceUnder 75 = .ok (.iadd, 1) := by decide +kernel
theorem dX8_pieceUnder_76 : decode cX8_pieceUnder 76 = .ok (.iaload, 1) := by decide +kernel
theorem dX8_pieceUnder_77 : decode cX8_pieceUnder 77 = .ok (.istore 6, 2) := by decide +kernel
theorem dX8_pieceUnder_79 : decode cX8_pieceUnder 79 = .ok (.iconst 0, 1) := by decide +kernel
theorem dX8_pieceUnder_80 : decode cX8_pieceUnder 80 = .ok (.istore 7, 2) := by decide +kernel
theorem dX8_pieceUnder_82 : decode cX8_pieceUnder 82 = .ok (.iload 7, 2) := by decide +kernel
theorem dX8_pieceUnder_84 : decode cX8_pieceUnder 84 = .ok (.aload_n 0, 1) := by decide +kernel
theorem dX8_pieceUnder_85 : decode cX8_pieceUnder 85 = .ok (.getfield 15, 3) := by decide +kernel
theorem dX8_pieceUnder_88 : decode cX8_pieceUnder 88 = .ok (.if_icmp .ge 102, 3) := by decide +kernel
theorem dX8_pieceUnder_91 : decode cX8_pieceUnder 91 = .ok (.iload 7, 2) := by decide +kernel
theorem dX8_pieceUnder_93 : decode cX8_pieceUnder 93 = .ok (.bipush 6, 2) := by decide +kernel
theorem dX8_pieceUnder_95 : decode cX8_pieceUnder 95 = .ok (.imul, 1) := by decide +kernel
theorem dX8_pieceUnder_96 : decode cX8_pieceUnder 96 = .ok (.istore 8, 2) := by decide +kernel
theorem dX8_pieceUnder_98 : decode cX8_pieceUnder 98 = .ok (.aload_n 0, 1) := by decide +kernel
theorem dX8_pieceUnder_99 : decode cX8_pieceUnder 99 = .ok (.getfield 9, 3) := by decide +kernel
theorem dX8_pieceUnder_102 : decode cX8_pieceUnder 102 = .ok (.iload 8, 2) := by decide +kernel
theorem dX8_pieceUnder_104 : decode cX8_pieceUnder 104 = .ok (.iconst 0, 1) := by decide +kernel
theorem dX8_pieceUnder_105 : decode cX8_pieceUnder 105 = .ok (.iadd, 1) := by decide +kernel
theorem dX8_pieceUnder_106 : decode cX8_pieceUnder 106 = .ok (.iaload, 1) := by decide +kernel
theorem dX8_pieceUnder_107 : decode cX8_pieceUnder 107 = .ok (.iload 6, 2) := by decide +kernel
theorem dX8_pieceUnder_109 : decode cX8_pieceUnder 109 = .ok (.if_icmp .ne 75, 3) := by decide +kernel
theorem dX8_pieceUnder_112 : decode cX8_pieceUnder 112 = .ok (.aload_n 0, 1) := by decide +kernel
theorem dX8_pieceUnder_113 : decode cX8_pieceUnder 113 = .ok (.getfield 9, 3) := by decide +kernel
theorem dX8_pieceUnder_116 : decode cX8_pieceUnder 116 = .ok (.iload 8, 2) := by decide +kernel
theorem dX8_pieceUnder_118 : decode cX8_pieceUnder 118 = .ok (.iconst 5, 1) := by decide +kernel
theorem dX8_pieceUnder_119 : decode cX8_pieceUnder 119 = .ok (.iadd, 1) := by decide +kernel
theorem dX8_pieceUnder_120 : decode cX8_pieceUnder 120 = .ok (.iaload, 1) := by decide +kernel
theorem dX8_pieceUnder_121 : decode cX8_pieceUnder 121 = .ok (.iconst 1, 1) := by decide +kernel
theorem dX8_pieceUnder_122 : decode cX8_pieceUnder 122 = .ok (.if_icmp .ne 62, 3) := by decide +kernel
theorem dX8_pieceUnder_125 : decode cX8_pieceUnder 125 = .ok (.aload_n 0, 1) := by decide +kernel
theorem dX8_pieceUnder_126 : decode cX8_pieceUnder 126 = .ok (.getfield 9, 3) := by decide +kernel
theorem dX8_pieceUnder_129 : decode cX8_pieceUnder 129 = .ok (.iload 8, 2) := by decide +kernel
theorem dX8_pieceUnder_131 : decode cX8_pieceUnder 131 = .ok (.iconst 1, 1) := by decide +kernel
theorem dX8_pieceUnder_132 : decode cX8_pieceUnder 132 = .ok (.iadd, 1) := by decide +kernel
theorem dX8_pieceUnder_133 : decode cX8_pieceUnder 133 = .ok (.iaload, 1) := by decide +kernel
theorem dX8_pieceUnder_134 : decode cX8_pieceUnder 134 = .ok (.iload 4, 2) := by decide +kernel
theorem dX8_pieceUnder_136 : decode cX8_pieceUnder 136 = .ok (.if_icmp .gt 48, 3) := by decide +kernel
theorem dX8_pieceUnder_139 : decode cX8_pieceUnder 139 = .ok (.iload 4, 2) := by decide +kernel
theorem dX8_pieceUnder_141 : decode cX8_pieceUnder 141 = .ok (.aload_n 0, 1) := by decide +kernel
theorem dX8_pieceUnder_142 : decode cX8_pieceUnder 142 = .ok (.getfield 9, 3) := by decide +kernel
theorem dX8_pieceUnder_145 : decode cX8_pieceUnder 145 = .ok (.iload 8, 2) := by decide +kernel
theorem dX8_pieceUnder_147 : decode cX8_pieceUnder 147 = .ok (.iconst 2, 1) := by decide +kernel
theorem dX8_pieceUnder_148 : decode cX8_pieceUnder 148 = .ok (.iadd, 1) := by decide +kernel
theorem dX8_pieceUnder_149 : decode cX8_pieceUnder 149 = .ok (.iaload, 1) := by decide +kernel
theorem dX8_pieceUnder_150 : decode cX8_pieceUnder 150 = .ok (.if_icmp .ge 34, 3) := by decide +kernel
theorem dX8_pieceUnder_153 : decode cX8_pieceUnder 153 = .ok (.aload_n 0, 1) := by decide +kernel
theorem dX8_pieceUnder_154 : decode cX8_pieceUnder 154 = .ok (.getfield 9, 3) := by decide +kernel
theorem dX8_pieceUnder_157 : decode cX8_pieceUnder 157 = .ok (.iload 8, 2) := by decide +kernel
theorem dX8_pieceUnder_159 : decode cX8_pieceUnder 159 = .ok (.iconst 3, 1) := by decide +kernel
theorem dX8_pieceUnder_160 : decode cX8_pieceUnder 160 = .ok (.iadd, 1) := by decide +kernel
theorem dX8_pieceUnder_161 : decode cX8_pieceUnder 161 = .ok (.iaload, 1) := by decide +kernel
theorem dX8_pieceUnder_162 : decode cX8_pieceUnder 162 = .ok (.iload 5, 2) := by decide +kernel
theorem dX8_pieceUnder_164 : decode cX8_pieceUnder 164 = .ok (.if_icmp .gt 20, 3) := by decide +kernel
theorem dX8_pieceUnder_167 : decode cX8_pieceUnder 167 = .ok (.iload 5, 2) := by decide +kernel
theorem dX8_pieceUnder_169 : decode cX8_pieceUnder 169 = .ok (.aload_n 0, 1) := by decide +kernel
theorem dX8_pieceUnder_170 : decode cX8_pieceUnder 170 = .ok (.getfield 9, 3) := by decide +kernel
theorem dX8_pieceUnder_173 : decode cX8_pieceUnder 173 = .ok (.iload 8, 2) := by decide +kernel
theorem dX8_pieceUnder_175 : decode cX8_pieceUnder 175 = .ok (.iconst 4, 1) := by decide +kernel
theorem dX8_pieceUnder_176 : decode cX8_pieceUnder 176 = .ok (.iadd, 1) := by decide +kernel
theorem dX8_pieceUnder_177 : decode cX8_pieceUnder 177 = .ok (.iaload, 1) := by decide +kernel
theorem dX8_pieceUnder_178 : decode cX8_pieceUnder 178 = .ok (.if_icmp .ge 6, 3) := by decide +kernel
theorem dX8_pieceUnder_181 : decode cX8_pieceUnder 181 = .ok (.iload 7, 2) := by decide +kernel
theorem dX8_pieceUnder_183 : decode cX8_pieceUnder 183 = .ok (.ireturn, 1) := by decide +kernel
theorem dX8_pieceUnder_184 : decode cX8_pieceUnder 184 = .ok (.iinc 7 1, 3) := by decide +kernel
theorem dX8_pieceUnder_187 : decode cX8_pieceUnder 187 = .ok (.goto (-105), 3) := by decide +kernel
theorem dX8_pieceUnder_190 : decode cX8_pieceUnder 190 = .ok (.iconst (-1), 1) := by decide +kernel
theorem dX8_pieceUnder_191 : decode cX8_pieceUnder 191 = .ok (.ireturn, 1) := by decide +kernel
theorem dX8_lowEdge_0 : decode cX8_lowEdge 0 = .ok (.iload_n 1, 1) := by decide +kernel
theorem dX8_lowEdge_1 : decode cX8_lowEdge 1 = .ok (.bipush 6, 2) := by decide +kernel
theorem dX8_lowEdge_3 : decode cX8_lowEdge 3 = .ok (.imul, 1) := by decide +kernel
theorem dX8_lowEdge_4 : decode cX8_lowEdge 4 = .ok (.aload_n 0, 1) := by decide +kernel
theorem dX8_lowEdge_5 : decode cX8_lowEdge 5 = .ok (.getfield 56, 3) := by decide +kernel
theorem dX8_lowEdge_8 : decode cX8_lowEdge 8 = .ok (.getfield 71, 3) := by decide +kernel
theorem dX8_lowEdge_11 : decode cX8_lowEdge 11 = .ok (.iload_n 2, 1) := by decide +kernel
theorem dX8_lowEdge_12 : decode cX8_lowEdge 12 = .ok (.iconst 5, 1) := by decide +kernel
theorem dX8_lowEdge_13 : decode cX8_lowEdge 13 = .ok (.imul, 1) := by decide +kernel
theorem dX8_lowEdge_14 : decode cX8_lowEdge 14 = .ok (.iconst 1, 1) := by decide +kernel
theorem dX8_lowEdge_15 : decode cX8_lowEdge 15 = .ok (.iadd, 1) := by decide +kernel
theorem dX8_lowEdge_16 : decode cX8_lowEdge 16 = .ok (.iaload, 1) := by decide +kernel
theorem dX8_lowEdge_17 : decode cX8_lowEdge 17 = .ok (.ifCond .ne 7, 3) := by decide +kernel
theorem dX8_lowEdge_20 : decode cX8_lowEdge 20 = .ok (.iconst 1, 1) := by decide +kernel
theorem dX8_lowEdge_21 : decode cX8_lowEdge 21 = .ok (.goto 4, 3) := by decide +kernel
theorem dX8_lowEdge_24 : decode cX8_lowEdge 24 = .ok (.iconst 3, 1) := by decide +kernel
theorem dX8_lowEdge_25 : decode cX8_lowEdge 25 = .ok (.iadd, 1) := by decide +kernel
theorem dX8_lowEdge_26 : decode cX8_lowEdge 26 = .ok (.ireturn, 1) := by decide +kernel
theorem dX8_isInside_0 : decode cX8_isInside 0 = .ok (.iload_n 1, 1) := by decide +kernel
theorem dX8_isInside_1 : decode cX8_isInside 1 = .ok (.iconst (-1), 1) := by decide +kernel
theorem dX8_isInside_2 : decode cX8_isInside 2 = .ok (.if_icmp .ne 5, 3) := by decide +kernel
theorem dX8_isInside_5 : decode cX8_isInside 5 = .ok (.iconst 0, 1) := by decide +kernel
theorem dX8_isInside_6 : decode cX8_isInside 6 = .ok (.ireturn, 1) := by decide +kernel
theorem dX8_isInside_7 : decode cX8_isInside 7 = .ok (.aload_n 0, 1) := by decide +kernel
theorem dX8_isInside_8 : decode cX8_isInside 8 = .ok (.iload_n 1, 1) := by decide +kernel
theorem dX8_isInside_9 : decode cX8_isInside 9 = .ok (.iload_n 2, 1) := by decide +kernel
theorem dX8_isInside_10 : decode cX8_isInside 10 = .ok (.invokevirtual 93, 3) := by decide +kernel
theorem dX8_isInside_13 : decode cX8_isInside 13 = .ok (.istore 4, 2) := by decide +kernel
theorem dX8_isInside_15 : decode cX8_isInside 15 = .ok (.aload_n 0, 1) := by decide +kernel
theorem dX8_isInside_16 : decode cX8_isInside 16 = .ok (.getfield 9, 3) := by decide +kernel
theorem dX8_isInside_19 : decode cX8_isInside 19 = .ok (.iload 4, 2) := by decide +kernel
theorem dX8_isInside_21 : decode cX8_isInside 21 = .ok (.iaload, 1) := by decide +kernel
theorem dX8_isInside_22 : decode cX8_isInside 22 = .ok (.iload_n 3, 1) := by decide +kernel
theorem dX8_isInside_23 : decode cX8_isInside 23 = .ok (.if_icmp .ge 20, 3) := by decide +kernel
theorem dX8_isInside_26 : decode cX8_isInside 26 = .ok (.iload_n 3, 1) := by decide +kernel
theorem dX8_isInside_27 : decode cX8_isInside 27 = .ok (.aload_n 0, 1) := by decide +kernel
theorem dX8_isInside_28 : decode cX8_isInside 28 = .ok (.getfield 9, 3) := by decide +kernel
theorem dX8_isInside_31 : decode cX8_isInside 31 = .ok (.iload 4, 2) := by decide +kernel
theorem dX8_isInside_33 : decode cX8_isInside 33 = .ok (.iconst 1, 1) := by decide +kernel
theorem dX8_isInside_34 : decode cX8_isInside 34 = .ok (.iadd, 1) := by decide +kernel
theorem dX8_isInside_35 : decode cX8_isInside 35 = .ok (.iaload, 1) := by decide +kernel
theorem dX8_isInside_36 : decode cX8_isInside 36 = .ok (.if_icmp .ge 7, 3) := by decide +kernel
theorem dX8_isInside_39 : decode cX8_isInside 39 = .ok (.iconst 1, 1) := by decide +kernel
theorem dX8_isInside_40 : decode cX8_isInside 40 = .ok (.goto 4, 3) := by decide +kernel
theorem dX8_isInside_43 : decode cX8_isInside 43 = .ok (.iconst 0, 1) := by decide +kernel
theorem dX8_isInside_44 : decode cX8_isInside 44 = .ok (.ireturn, 1) := by decide +kernel
theorem dX8_isAlive_0 : decode cX8_isAlive 0 = .ok (.aload_n 0, 1) := by decide +kernel
theorem dX8_isAlive_1 : decode cX8_isAlive 1 = .ok (.getfield 22, 3) := by decide +kernel
theorem dX8_isAlive_4 : decode cX8_isAlive 4 = .ok (.iload_n 1, 1) := by decide +kernel
theorem dX8_isAlive_5 : decode cX8_isAlive 5 = .ok (.ishr, 1) := by decide +kernel
theorem dX8_isAlive_6 : decode cX8_isAlive 6 = .ok (.iconst 1, 1) := by decide +kernel
theorem dX8_isAlive_7 : decode cX8_isAlive 7 = .ok (.iand, 1) := by decide +kernel
theorem dX8_isAlive_8 : decode cX8_isAlive 8 = .ok (.iconst 1, 1) := by decide +kernel
theorem dX8_isAlive_9 : decode cX8_isAlive 9 = .ok (.if_icmp .ne 5, 3) := by decide +kernel
theorem dX8_isAlive_12 : decode cX8_isAlive 12 = .ok (.iconst 0, 1) := by decide +kernel
theorem dX8_isAlive_13 : decode cX8_isAlive 13 = .ok (.ireturn, 1) := by decide +kernel
theorem dX8_isAlive_14 : decode cX8_isAlive 14 = .ok (.aload_n 0, 1) := by decide +kernel
theorem dX8_isAlive_15 : decode cX8_isAlive 15 = .ok (.iload_n 1, 1) := by decide +kernel
theorem dX8_isAlive_16 : decode cX8_isAlive 16 = .ok (.invokevirtual 97, 3) := by decide +kernel
theorem dX8_isAlive_19 : decode cX8_isAlive 19 = .ok (.istore_n 2, 1) := by decide +kernel
theorem dX8_isAlive_20 : decode cX8_isAlive 20 = .ok (.iload_n 2, 1) := by decide +kernel
theorem dX8_isAlive_21 : decode cX8_isAlive 21 = .ok (.iconst (-1), 1) := by decide +kernel
theorem dX8_isAlive_22 : decode cX8_isAlive 22 = .ok (.if_icmp .eq 29, 3) := by decide +kernel
theorem dX8_isAlive_25 : decode cX8_isAlive 25 = .ok (.aload_n 0, 1) := by decide +kernel
theorem dX8_isAlive_26 : decode cX8_isAlive 26 = .ok (.iload_n 2, 1) := by decide +kernel
theorem dX8_isAlive_27 : decode cX8_isAlive 27 = .ok (.iload_n 1, 1) := by decide +kernel
theorem dX8_isAlive_28 : decode cX8_isAlive 28 = .ok (.aload_n 0, 1) := by decide +kernel
theorem dX8_isAlive_29 : decode cX8_isAlive 29 = .ok (.getfield 56, 3) := by decide +kernel
theorem dX8_isAlive_32 : decode cX8_isAlive 32 = .ok (.getfield 71, 3) := by decide +kernel
theorem dX8_isAlive_35 : decode cX8_isAlive 35 = .ok (.iload_n 1, 1) := by decide +kernel
theorem dX8_isAlive_36 : decode cX8_isAlive 36 = .ok (.iconst 5, 1) := by decide +kernel
theorem dX8_isAlive_37 : decode cX8_isAlive 37 = .ok (.imul, 1) := by decide +kernel
theorem dX8_isAlive_38 : decode cX8_isAlive 38 = .ok (.iconst 2, 1) := by decide +kernel
theorem dX8_isAlive_39 : decode cX8_isAlive 39 = .ok (.iadd, 1) := by decide +kernel
theorem dX8_isAlive_40 : decode cX8_isAlive 40 = .ok (.iaload, 1) := by decide +kernel
theorem dX8_isAlive_41 : decode cX8_isAlive 41 = .ok (.invokevirtual 101, 3) := by decide +kernel
theorem dX8_isAlive_44 : decode cX8_isAlive 44 = .ok (.ifCond .eq 7, 3) := by decide +kernel
theorem dX8_isAlive_47 : decode cX8_isAlive 47 = .ok (.iconst 1, 1) := by decide +kernel
theorem dX8_isAlive_48 : decode cX8_isAlive 48 = .ok (.goto 4, 3) := by decide +kernel
theorem dX8_isAlive_51 : decode cX8_isAlive 51 = .ok (.iconst 0, 1) := by decide +kernel
theorem dX8_isAlive_52 : decode cX8_isAlive 52 = .ok (.ireturn, 1) := by decide +kernel
theorem dX8_canSplit_0 : decode cX8_canSplit 0 = .ok (.aload_n 0, 1) := by decide +kernel
theorem dX8_canSplit_1 : decode cX8_canSplit 1 = .ok (.iload_n 1, 1) := by decide +kernel
theorem dX8_canSplit_2 : decode cX8_canSplit 2 = .ok (.invokevirtual 105, 3) := by decide +kernel
theorem dX8_canSplit_5 : decode cX8_canSplit 5 = .ok (.ifCond .eq 35, 3) := by decide +kernel
theorem dX8_canSplit_8 : decode cX8_canSplit 8 = .ok (.aload_n 0, 1) := by decide +kernel
theorem dX8_canSplit_9 : decode cX8_canSplit 9 = .ok (.aload_n 0, 1) := by decide +kernel
theorem dX8_canSplit_10 : decode cX8_canSplit 10 = .ok (.iload_n 1, 1) := by decide +kernel
theorem dX8_canSplit_11 : decode cX8_canSplit 11 = .ok (.invokevirtual 97, 3) := by decide +kernel
theorem dX8_canSplit_14 : decode cX8_canSplit 14 = .ok (.iload_n 1, 1) := by decide +kernel
theorem dX8_canSplit_15 : decode cX8_canSplit 15 = .ok (.aload_n 0, 1) := by decide +kernel
theorem dX8_canSplit_16 : decode cX8_canSplit 16 = .ok (.getfield 56, 3) := by decide +kernel
theorem dX8_canSplit_19 : decode cX8_canSplit 19 = .ok (.getfield 71, 3) := by decide +kernel
theorem dX8_canSplit_22 : decode cX8_canSplit 22 = .ok (.iload_n 1, 1) := by decide +kernel
theorem dX8_canSplit_23 : decode cX8_canSplit 23 = .ok (.iconst 5, 1) := by decide +kernel
theorem dX8_canSplit_24 : decode cX8_canSplit 24 = .ok (.imul, 1) := by decide +kernel
theorem dX8_canSplit_25 : decode cX8_canSplit 25 = .ok (.iconst 2, 1) := by decide +kernel
theorem dX8_canSplit_26 : decode cX8_canSplit 26 = .ok (.iadd, 1) := by decide +kernel
theorem dX8_canSplit_27 : decode cX8_canSplit 27 = .ok (.iaload, 1) := by decide +kernel
theorem dX8_canSplit_28 : decode cX8_canSplit 28 = .ok (.iload_n 2, 1) := by decide +kernel
theorem dX8_canSplit_29 : decode cX8_canSplit 29 = .ok (.iadd, 1) := by decide +kernel
theorem dX8_canSplit_30 : decode cX8_canSplit 30 = .ok (.invokevirtual 101, 3) := by decide +kernel
theorem dX8_canSplit_33 : decode cX8_canSplit 33 = .ok (.ifCond .eq 7, 3) := by decide +kernel
theorem dX8_canSplit_36 : decode cX8_canSplit 36 = .ok (.iconst 1, 1) := by decide +kernel
theorem dX8_canSplit_37 : decode cX8_canSplit 37 = .ok (.goto 4, 3) := by decide +kernel
theorem dX8_canSplit_40 : decode cX8_canSplit 40 = .ok (.iconst 0, 1) := by decide +kernel
theorem dX8_canSplit_41 : decode cX8_canSplit 41 = .ok (.ireturn, 1) := by decide +kernel
theorem dX8_firstAlive_0 : decode cX8_firstAlive 0 = .ok (.iconst 0, 1) := by decide +kernel
theorem dX8_firstAlive_1 : decode cX8_firstAlive 1 = .ok (.istore_n 2, 1) := by decide +kernel
theorem dX8_firstAlive_2 : decode cX8_firstAlive 2 = .ok (.iconst 0, 1) := by decide +kernel
theorem dX8_firstAlive_3 : decode cX8_firstAlive 3 = .ok (.istore_n 3, 1) := by decide +kernel
theorem dX8_firstAlive_4 : decode cX8_firstAlive 4 = .ok (.iconst 0, 1) := by decide +kernel
theorem dX8_firstAlive_5 : decode cX8_firstAlive 5 = .ok (.istore 4, 2) := by decide +kernel
theorem dX8_firstAlive_7 : decode cX8_firstAlive 7 = .ok (.iload 4, 2) := by decide +kernel
theorem dX8_firstAlive_9 : decode cX8_firstAlive 9 = .ok (.aload_n 0, 1) := by decide +kernel
theorem dX8_firstAlive_10 : decode cX8_firstAlive 10 = .ok (.getfield 56, 3) := by decide +kernel
theorem dX8_firstAlive_13 : decode cX8_firstAlive 13 = .ok (.getfield 68, 3) := by decide +kernel
theorem dX8_firstAlive_16 : decode cX8_firstAlive 16 = .ok (.if_icmp .ge 33, 3) := by decide +kernel
theorem dX8_firstAlive_19 : decode cX8_firstAlive 19 = .ok (.iload_n 2, 1) := by decide +kernel
theorem dX8_firstAlive_20 : decode cX8_firstAlive 20 = .ok (.iload_n 1, 1) := by decide +kernel
theorem dX8_firstAlive_21 : decode cX8_firstAlive 21 = .ok (.if_icmp .ge 28, 3) := by decide +kernel
theorem dX8_firstAlive_24 : decode cX8_firstAlive 24 = .ok (.aload_n 0, 1) := by decide +kernel
theorem dX8_firstAlive_25 : decode cX8_firstAlive 25 = .ok (.iload 4, 2) := by decide +kernel
theorem dX8_firstAlive_27 : decode cX8_firstAlive 27 = .ok (.invokevirtual 105, 3) := by decide +kernel
theorem dX8_firstAlive_30 : decode cX8_firstAlive 30 = .ok (.ifCond .eq 13, 3) := by decide +kernel
theorem dX8_firstAlive_33 : decode cX8_firstAlive 33 = .ok (.iload_n 3, 1) := by decide +kernel
theorem dX8_firstAlive_34 : decode cX8_firstAlive 34 = .ok (.iconst 1, 1) := by decide +kernel
theorem dX8_firstAlive_35 : decode cX8_firstAlive 35 = .ok (.iload 4, 2) := by decide +kernel
theorem dX8_firstAlive_37 : decode cX8_firstAlive 37 = .ok (.ishl, 1) := by decide +kernel
theorem dX8_firstAlive_38 : decode cX8_firstAlive 38 = .ok (.ior, 1) := by decide +kernel
theorem dX8_firstAlive_39 : decode cX8_firstAlive 39 = .ok (.istore_n 3, 1) := by decide +kernel
theorem dX8_firstAlive_40 : decode cX8_firstAlive 40 = .ok (.iinc 2 1, 3) := by decide +kernel
theorem dX8_firstAlive_43 : decode cX8_firstAlive 43 = .ok (.iinc 4 1, 3) := by decide +kernel
theorem dX8_firstAlive_46 : decode cX8_firstAlive 46 = .ok (.goto (-39), 3) := by decide +kernel
theorem dX8_firstAlive_49 : decode cX8_firstAlive 49 = .ok (.iload_n 3, 1) := by decide +kernel
theorem dX8_firstAlive_50 : decode cX8_firstAlive 50 = .ok (.ireturn, 1) := by decide +kernel
theorem dX8_fillable_0 : decode cX8_fillable 0 = .ok (.iconst 0, 1) := by decide +kernel
theorem dX8_fillable_1 : decode cX8_fillable 1 = .ok (.istore_n 2, 1) := by decide +kernel
theorem dX8_fillable_2 : decode cX8_fillable 2 = .ok (.iconst 0, 1) := by decide +kernel
theorem dX8_fillable_3 : decode cX8_fillable 3 = .ok (.istore_n 3, 1) := by decide +kernel
theorem dX8_fillable_4 : decode cX8_fillable 4 = .ok (.iconst 0, 1) := by decide +kernel
theorem dX8_fillable_5 : decode cX8_fillable 5 = .ok (.istore 4, 2) := by decide +kernel
theorem dX8_fillable_7 : decode cX8_fillable 7 = .ok (.iload 4, 2) := by decide +kernel
theorem dX8_fillable_9 : decode cX8_fillable 9 = .ok (.aload_n 0, 1) := by decide +kernel
theorem dX8_fillable_10 : decode cX8_fillable 10 = .ok (.getfield 56, 3) := by decide +kernel
theorem dX8_fillable_13 : decode cX8_fillable 13 = .ok (.getfield 68, 3) := by decide +kernel
theorem dX8_fillable_16 : decode cX8_fillable 16 = .ok (.if_icmp .ge 49, 3) := by decide +kernel
theorem dX8_fillable_19 : decode cX8_fillable 19 = .ok (.iload_n 2, 1) := by decide +kernel
theorem dX8_fillable_20 : decode cX8_fillable 20 = .ok (.aload_n 0, 1) := by decide +kernel
theorem dX8_fillable_21 : decode cX8_fillable 21 = .ok (.getfield 56, 3) := by decide +kernel
theorem dX8_fillable_24 : decode cX8_fillable 24 = .ok (.getfield 108, 3) := by decide +kernel
theorem dX8_fillable_27 : decode cX8_fillable 27 = .ok (.if_icmp .ge 38, 3) := by decide +kernel
theorem dX8_fillable_30 : decode cX8_fillable 30 = .ok (.iload_n 1, 1) := by decide +kernel
theorem dX8_fillable_31 : decode cX8_fillable 31 = .ok (.iload 4, 2) := by decide +kernel
theorem dX8_fillable_33 : decode cX8_fillable 33 = .ok (.ishr, 1) := by decide +kernel
theorem dX8_fillable_34 : decode cX8_fillable 34 = .ok (.iconst 1, 1) := by decide +kernel
theorem dX8_fillable_35 : decode cX8_fillable 35 = .ok (.iand, 1) := by decide +kernel
theorem dX8_fillable_36 : decode cX8_fillable 36 = .ok (.iconst 1, 1) := by decide +kernel
theorem dX8_fillable_37 : decode cX8_fillable 37 = .ok (.if_icmp .ne 22, 3) := by decide +kernel
theorem dX8_fillable_40 : decode cX8_fillable 40 = .ok (.aload_n 0, 1) := by decide +kernel
theorem dX8_fillable_41 : decode cX8_fillable 41 = .ok (.iload 4, 2) := by decide +kernel
theorem dX8_fillable_43 : decode cX8_fillable 43 = .ok (.invokevirtual 105, 3) := by decide +kernel
theorem dX8_fillable_46 : decode cX8_fillable 46 = .ok (.ifCond .eq 13, 3) := by decide +kernel
theorem dX8_fillable_49 : decode cX8_fillable 49 = .ok (.iload_n 3, 1) := by decide +kernel
theorem dX8_fillable_50 : decode cX8_fillable 50 = .ok (.iconst 1, 1) := by decide +kernel
theorem dX8_fillable_51 : decode cX8_fillable 51 = .ok (.iload 4, 2) := by decide +kernel
theorem dX8_fillable_53 : decode cX8_fillable 53 = .ok (.ishl, 1) := by decide +kernel
theorem dX8_fillable_54 : decode cX8_fillable 54 = .ok (.ior, 1) := by decide +kernel
theorem dX8_fillable_55 : decode cX8_fillable 55 = .ok (.istore_n 3, 1) := by decide +kernel
theorem dX8_fillable_56 : decode cX8_fillable 56 = .ok (.iinc 2 1, 3) := by decide +kernel
theorem dX8_fillable_59 : decode cX8_fillable 59 = .ok (.iinc 4 1, 3) := by decide +kernel
theorem dX8_fillable_62 : decode cX8_fillable 62 = .ok (.goto (-55), 3) := by decide +kernel
theorem dX8_fillable_65 : decode cX8_fillable 65 = .ok (.iload_n 3, 1) := by decide +kernel
theorem dX8_fillable_66 : decode cX8_fillable 66 = .ok (.ireturn, 1) := by decide +kernel
theorem dX8_partWide_0 : decode cX8_partWide 0 = .ok (.aload_n 0, 1) := by decide +kernel
theorem dX8_partWide_1 : decode cX8_partWide 1 = .ok (.iload_n 1, 1) := by decide +kernel
theorem dX8_partWide_2 : decode cX8_partWide 2 = .ok (.iload_n 2, 1) := by decide +kernel
theorem dX8_partWide_3 : decode cX8_partWide 3 = .ok (.iload_n 3, 1) := by decide +kernel
theorem dX8_partWide_4 : decode cX8_partWide 4 = .ok (.iconst 1, 1) := by decide +kernel
theorem dX8_partWide_5 : decode cX8_partWide 5 = .ok (.invokevirtual 111, 3) := by decide +kernel
theorem dX8_partWide_8 : decode cX8_partWide 8 = .ok (.ireturn, 1) := by decide +kernel
theorem dX8_partHigh_0 : decode cX8_partHigh 0 = .ok (.aload_n 0, 1) := by decide +kernel
theorem dX8_partHigh_1 : decode cX8_partHigh 1 = .ok (.iload_n 1, 1) := by decide +kernel
theorem dX8_partHigh_2 : decode cX8_partHigh 2 = .ok (.iload_n 2, 1) := by decide +kernel
theorem dX8_partHigh_3 : decode cX8_partHigh 3 = .ok (.iload_n 3, 1) := by decide +kernel
theorem dX8_partHigh_4 : decode cX8_partHigh 4 = .ok (.iconst 0, 1) := by decide +kernel
theorem dX8_partHigh_5 : decode cX8_partHigh 5 = .ok (.invokevirtual 111, 3) := by decide +kernel
theorem dX8_partHigh_8 : decode cX8_partHigh 8 = .ok (.ireturn, 1) := by decide +kernel
theorem dX8_partSide_0 : decode cX8_partSide 0 = .ok (.aload_n 0, 1) := by decide +kernel
theorem dX8_partSide_1 : decode cX8_partSide 1 = .ok (.iload_n 1, 1) := by decide +kernel
theorem dX8_partSide_2 : decode cX8_partSide 2 = .ok (.invokevirtual 97, 3) := by decide +kernel
theorem dX8_partSide_5 : decode cX8_partSide 5 = .ok (.istore 5, 2) := by decide +kernel
theorem dX8_partSide_7 : decode cX8_partSide 7 = .ok (.iload 5, 2) := by decide +kernel
theorem dX8_partSide_9 : decode cX8_partSide 9 = .ok (.iconst (-1), 1) := by decide +kernel
theorem dX8_partSide_10 : decode cX8_partSide 10 = .ok (.if_icmp .ne 5, 3) := by decide +kernel
theorem dX8_partSide_13 : decode cX8_partSide 13 = .ok (.iconst 0, 1) := by decide +kernel
theorem dX8_partSide_14 : decode cX8_partSide 14 = .ok (.ireturn, 1) := by decide +kernel
theorem dX8_partSide_15 : decode cX8_partSide 15 = .ok (.iload_n 1, 1) := by decide +kernel
theorem dX8_partSide_16 : decode cX8_partSide 16 = .ok (.iconst 5, 1) := by decide +kernel
theorem dX8_partSide_17 : decode cX8_partSide 17 = .ok (.imul, 1) := by decide +kernel
theorem dX8_partSide_18 : decode cX8_partSide 18 = .ok (.istore 6, 2) := by decide +kernel
theorem dX8_partSide_20 : decode cX8_partSide 20 = .ok (.aload_n 0, 1) := by decide +kernel
theorem dX8_partSide_21 : decode cX8_partSide 21 = .ok (.getfield 56, 3) := by decide +kernel
theorem dX8_partSide_24 : decode cX8_partSide 24 = .ok (.getfield 71, 3) := by decide +kernel
theorem dX8_partSide_27 : decode cX8_partSide 27 = .ok (.iload 6, 2) := by decide +kernel
theorem dX8_partSide_29 : decode cX8_partSide 29 = .ok (.iconst 1, 1) := by decide +kernel
theorem dX8_partSide_30 : decode cX8_partSide 30 = .ok (.iadd, 1) := by decide +kernel
theorem dX8_partSide_31 : decode cX8_partSide 31 = .ok (.iaload, 1) := by decide +kernel
theorem dX8_partSide_32 : decode cX8_partSide 32 = .ok (.ifCond .ne 7, 3) := by decide +kernel
theorem dX8_partSide_35 : decode cX8_partSide 35 = .ok (.iconst 1, 1) := by decide +kernel
theorem dX8_partSide_36 : decode cX8_partSide 36 = .ok (.goto 4, 3) := by decide +kernel
theorem dX8_partSide_39 : decode cX8_partSide 39 = .ok (.iconst 0, 1) := by decide +kernel
theorem dX8_partSide_40 : decode cX8_partSide 40 = .ok (.istore 7, 2) := by decide +kernel
theorem dX8_partSide_42 : decode cX8_partSide 42 = .ok (.iload 7, 2) := by decide +kernel
theorem dX8_partSide_44 : decode cX8_partSide 44 = .ok (.iload 4, 2) := by decide +kernel
theorem dX8_partSide_46 : decode cX8_partSide 46 = .ok (.if_icmp .eq 24, 3) := by decide +kernel
theorem dX8_partSide_49 : decode cX8_partSide 49 = .ok (.iload 4, 2) := by decide +kernel
theorem dX8_partSide_51 : decode cX8_partSide 51 = .ok (.ifCond .eq 12, 3) := by decide +kernel
theorem dX8_partSide_54 : decode cX8_partSide 54 = .ok (.aload_n 0, 1) := by decide +kernel
theorem dX8_partSide_55 : decode cX8_partSide 55 = .ok (.iload 5, 2) := by decide +kernel
theorem dX8_partSide_57 : decode cX8_partSide 57 = .ok (.invokevirtual 115, 3) := by decide +kernel
theorem dX8_partSide_60 : decode cX8_partSide 60 = .ok (.goto 9, 3) := by decide +kernel
theorem dX8_partSide_63 : decode cX8_partSide 63 = .ok (.aload_n 0, 1) := by decide +kernel
theorem dX8_partSide_64 : decode cX8_partSide 64 = .ok (.iload 5, 2) := by decide +kernel
theorem dX8_partSide_66 : decode cX8_partSide 66 = .ok (.invokevirtual 118, 3) := by decide +kernel
theorem dX8_partSide_69 : decode cX8_partSide 69 = .ok (.ireturn, 1) := by decide +kernel
theorem dX8_partSide_70 : decode cX8_partSide 70 = .ok (.aload_n 0, 1) := by decide +kernel
theorem dX8_partSide_71 : decode cX8_partSide 71 = .ok (.iload 5, 2) := by decide +kernel
theorem dX8_partSide_73 : decode cX8_partSide 73 = .ok (.iload_n 1, 1) := by decide +kernel
theorem dX8_partSide_74 : decode cX8_partSide 74 = .ok (.invokevirtual 93, 3) := by decide +kernel
theorem dX8_partSide_77 : decode cX8_partSide 77 = .ok (.istore 8, 2) := by decide +kernel
theorem dX8_partSide_79 : decode cX8_partSide 79 = .ok (.aload_n 0, 1) := by decide +kernel
theorem dX8_partSide_80 : decode cX8_partSide 80 = .ok (.getfield 56, 3) := by decide +kernel
theorem dX8_partSide_83 : decode cX8_partSide 83 = .ok (.getfield 71, 3) := by decide +kernel
theorem dX8_partSide_86 : decode cX8_partSide 86 = .ok (.iload 6, 2) := by decide +kernel
theorem dX8_partSide_88 : decode cX8_partSide 88 = .ok (.iconst 2, 1) := by decide +kernel
theorem dX8_partSide_89 : decode cX8_partSide 89 = .ok (.iadd, 1) := by decide +kernel
theorem dX8_partSide_90 : decode cX8_partSide 90 = .ok (.iaload, 1) := by decide +kernel
theorem dX8_partSide_91 : decode cX8_partSide 91 = .ok (.iload_n 2, 1) := by decide +kernel
theorem dX8_partSide_92 : decode cX8_partSide 92 = .ok (.iadd, 1) := by decide +kernel
theorem dX8_partSide_93 : decode cX8_partSide 93 = .ok (.istore 9, 2) := by decide +kernel
theorem dX8_partSide_95 : decode cX8_partSide 95 = .ok (.iload_n 3, 1) := by decide +kernel
theorem dX8_partSide_96 : decode cX8_partSide 96 = .ok (.ifCond .ne 16, 3) := by decide +kernel
theorem dX8_partSide_99 : decode cX8_partSide 99 = .ok (.iload 9, 2) := by decide +kernel
theorem dX8_partSide_101 : decode cX8_partSide 101 = .ok (.aload_n 0, 1) := by decide +kernel
theorem dX8_partSide_102 : decode cX8_partSide 102 = .ok (.getfield 9, 3) := by decide +kernel
theorem dX8_partSide_105 : decode cX8_partSide 105 = .ok (.iload 8, 2) := by decide +kernel
theorem dX8_partSide_107 : decode cX8_partSide 107 = .ok (.iaload, 1) := by decide +kernel
theorem dX8_partSide_108 : decode cX8_partSide 108 = .ok (.isub, 1) := by decide +kernel
theorem dX8_partSide_109 : decode cX8_partSide 109 = .ok (.goto 15, 3) := by decide +kernel
theorem dX8_partSide_112 : decode cX8_partSide 112 = .ok (.aload_n 0, 1) := by decide +kernel
theorem dX8_partSide_113 : decode cX8_partSide 113 = .ok (.getfield 9, 3) := by decide +kernel
theorem dX8_partSide_116 : decode cX8_partSide 116 = .ok (.iload 8, 2) := by decide +kernel
theorem dX8_partSide_118 : decode cX8_partSide 118 = .ok (.iconst 1, 1) := by decide +kernel
theorem dX8_partSide_119 : decode cX8_partSide 119 = .ok (.iadd, 1) := by decide +kernel
theorem dX8_partSide_120 : decode cX8_partSide 120 = .ok (.iaload, 1) := by decide +kernel
theorem dX8_partSide_121 : decode cX8_partSide 121 = .ok (.iload 9, 2) := by decide +kernel
theorem dX8_partSide_123 : decode cX8_partSide 123 = .ok (.isub, 1) := by decide +kernel
theorem dX8_partSide_124 : decode cX8_partSide 124 = .ok (.ireturn, 1) := by decide +kernel
theorem dX8_pieceWide_0 : decode cX8_pieceWide 0 = .ok (.aload_n 0, 1) := by decide +kernel
theorem dX8_pieceWide_1 : decode cX8_pieceWide 1 = .ok (.getfield 9, 3) := by decide +kernel
theorem dX8_pieceWide_4 : decode cX8_pieceWide 4 = .ok (.iload_n 1, 1) := by decide +kernel
theorem dX8_pieceWide_5 : decode cX8_pieceWide 5 = .ok (.bipush 6, 2) := by decide +kernel
theorem dX8_pieceWide_7 : decode cX8_pieceWide 7 = .ok (.imul, 1) := by decide +kernel
theorem dX8_pieceWide_8 : decode cX8_pieceWide 8 = .ok (.iconst 2, 1) := by decide +kernel
theorem dX8_pieceWide_9 : decode cX8_pieceWide 9 = .ok (.iadd, 1) := by decide +kernel
theorem dX8_pieceWide_10 : decode cX8_pieceWide 10 = .ok (.iaload, 1) := by decide +kernel
theorem dX8_pieceWide_11 : decode cX8_pieceWide 11 = .ok (.aload_n 0, 1) := by decide +kernel
theorem dX8_pieceWide_12 : decode cX8_pieceWide 12 = .ok (.getfield 9, 3) := by decide +kernel
theorem dX8_pieceWide_15 : decode cX8_pieceWide 15 = .ok (.iload_n 1, 1) := by decide +kernel
theorem dX8_pieceWide_16 : decode cX8_pieceWide 16 = .ok (.bipush 6, 2) := by decide +kernel
theorem dX8_pieceWide_18 : decode cX8_pieceWide 18 = .ok (.imul, 1) := by decide +kernel
theorem dX8_pieceWide_19 : decode cX8_pieceWide 19 = .ok (.iconst 1, 1) := by decide +kernel
theorem dX8_pieceWide_20 : decode cX8_pieceWide 20 = .ok (.iadd, 1) := by decide +kernel
theorem dX8_pieceWide_21 : decode cX8_pieceWide 21 = .ok (.iaload, 1) := by decide +kernel
theorem dX8_pieceWide_22 : decode cX8_pieceWide 22 = .ok (.isub, 1) := by decide +kernel
theorem dX8_pieceWide_23 : decode cX8_pieceWide 23 = .ok (.ireturn, 1) := by decide +kernel
theorem dX8_pieceHigh_0 : decode cX8_pieceHigh 0 = .ok (.aload_n 0, 1) := by decide +kernel
theorem dX8_pieceHigh_1 : decode cX8_pieceHigh 1 = .ok (.getfield 9, 3) := by decide +kernel
theorem dX8_pieceHigh_4 : decode cX8_pieceHigh 4 = .ok (.iload_n 1, 1) := by decide +kernel
theorem dX8_pieceHigh_5 : decode cX8_pieceHigh 5 = .ok (.bipush 6, 2) := by decide +kernel
theorem dX8_pieceHigh_7 : decode cX8_pieceHigh 7 = .ok (.imul, 1) := by decide +kernel
theorem dX8_pieceHigh_8 : decode cX8_pieceHigh 8 = .ok (.iconst 4, 1) := by decide +kernel
theorem dX8_pieceHigh_9 : decode cX8_pieceHigh 9 = .ok (.iadd, 1) := by decide +kernel
theorem dX8_pieceHigh_10 : decode cX8_pieceHigh 10 = .ok (.iaload, 1) := by decide +kernel
theorem dX8_pieceHigh_11 : decode cX8_pieceHigh 11 = .ok (.aload_n 0, 1) := by decide +kernel
theorem dX8_pieceHigh_12 : decode cX8_pieceHigh 12 = .ok (.getfield 9, 3) := by decide +kernel
theorem dX8_pieceHigh_15 : decode cX8_pieceHigh 15 = .ok (.iload_n 1, 1) := by decide +kernel
theorem dX8_pieceHigh_16 : decode cX8_pieceHigh 16 = .ok (.bipush 6, 2) := by decide +kernel
theorem dX8_pieceHigh_18 : decode cX8_pieceHigh 18 = .ok (.imul, 1) := by decide +kernel
theorem dX8_pieceHigh_19 : decode cX8_pieceHigh 19 = .ok (.iconst 3, 1) := by decide +kernel
theorem dX8_pieceHigh_20 : decode cX8_pieceHigh 20 = .ok (.iadd, 1) := by decide +kernel
theorem dX8_pieceHigh_21 : decode cX8_pieceHigh 21 = .ok (.iaload, 1) := by decide +kernel
theorem dX8_pieceHigh_22 : decode cX8_pieceHigh 22 = .ok (.isub, 1) := by decide +kernel
theorem dX8_pieceHigh_23 : decode cX8_pieceHigh 23 = .ok (.ireturn, 1) := by decide +kernel
theorem dX8_isLying_0 : decode cX8_isLying 0 = .ok (.aload_n 0, 1) := by decide +kernel
theorem dX8_isLying_1 : decode cX8_isLying 1 = .ok (.getfield 9, 3) := by decide +kernel
theorem dX8_isLying_4 : decode cX8_isLying 4 = .ok (.iload_n 1, 1) := by decide +kernel
theorem dX8_isLying_5 : decode cX8_isLying 5 = .ok (.bipush 6, 2) := by decide +kernel
theorem dX8_isLying_7 : decode cX8_isLying 7 = .ok (.imul, 1) := by decide +kernel
theorem dX8_isLying_8 : decode cX8_isLying 8 = .ok (.iconst 5, 1) := by decide +kernel
theorem dX8_isLying_9 : decode cX8_isLying 9 = .ok (.iadd, 1) := by decide +kernel
theorem dX8_isLying_10 : decode cX8_isLying 10 = .ok (.iaload, 1) := by decide +kernel
theorem dX8_isLying_11 : decode cX8_isLying 11 = .ok (.iconst 1, 1) := by decide +kernel
theorem dX8_isLying_12 : decode cX8_isLying 12 = .ok (.if_icmp .ne 7, 3) := by decide +kernel
theorem dX8_isLying_15 : decode cX8_isLying 15 = .ok (.iconst 1, 1) := by decide +kernel
theorem dX8_isLying_16 : decode cX8_isLying 16 = .ok (.goto 4, 3) := by decide +kernel
theorem dX8_isLying_19 : decode cX8_isLying 19 = .ok (.iconst 0, 1) := by decide +kernel
theorem dX8_isLying_20 : decode cX8_isLying 20 = .ok (.ireturn, 1) := by decide +kernel
theorem dX8_drawCold_0 : decode cX8_drawCold 0 = .ok (.aload_n 0, 1) := by decide +kernel
theorem dX8_drawCold_1 : decode cX8_drawCold 1 = .ok (.getfield 41, 3) := by decide +kernel
theorem dX8_drawCold_4 : decode cX8_drawCold 4 = .ok (.bipush 30, 2) := by decide +kernel
theorem dX8_drawCold_6 : decode cX8_drawCold 6 = .ok (.if_icmp .ge 38, 3) := by decide +kernel
theorem dX8_drawCold_9 : decode cX8_drawCold 9 = .ok (.aload_n 0, 1) := by decide +kernel
theorem dX8_drawCold_10 : decode cX8_drawCold 10 = .ok (.getfield 56, 3) := by decide +kernel
theorem dX8_drawCold_13 : decode cX8_drawCold 13 = .ok (.aload_n 0, 1) := by decide +kernel
theorem dX8_drawCold_14 : decode cX8_drawCold 14 = .ok (.getfield 41, 3) := by decide +kernel
theorem dX8_drawCold_17 : decode cX8_drawCold 17 = .ok (.invokevirtual 121, 3) := by decide +kernel
theorem dX8_drawCold_20 : decode cX8_drawCold 20 = .ok (.ifCond .eq 24, 3) := by decide +kernel
theorem dX8_drawCold_23 : decode cX8_drawCold 23 = .ok (.aload_n 0, 1) := by decide +kernel
theorem dX8_drawCold_24 : decode cX8_drawCold 24 = .ok (.getfield 56, 3) := by decide +kernel
theorem dX8_drawCold_27 : decode cX8_drawCold 27 = .ok (.aload_n 0, 1) := by decide +kernel
theorem dX8_drawCold_28 : decode cX8_drawCold 28 = .ok (.getfield 41, 3) := by decide +kernel
theorem dX8_drawCold_31 : decode cX8_drawCold 31 = .ok (.aload_n 0, 1) := by decide +kernel
theorem dX8_drawCold_32 : decode cX8_drawCold 32 = .ok (.getfield 37, 3) := by decide +kernel
theorem dX8_drawCold_35 : decode cX8_drawCold 35 = .ok (.invokevirtual 124, 3) := by decide +kernel
theorem dX8_drawCold_38 : decode cX8_drawCold 38 = .ok (.invokevirtual 128, 3) := by decide +kernel
theorem dX8_drawCold_41 : decode cX8_drawCold 41 = .ok (.goto 4, 3) := by decide +kernel
theorem dX8_drawCold_44 : decode cX8_drawCold 44 = .ok (.iconst 0, 1) := by decide +kernel
theorem dX8_drawCold_45 : decode cX8_drawCold 45 = .ok (.ireturn, 1) := by decide +kernel
theorem dX8_actAlike_0 : decode cX8_actAlike 0 = .ok (.iconst 0, 1) := by decide +kernel
theorem dX8_actAlike_1 : decode cX8_actAlike 1 = .ok (.istore 4, 2) := by decide +kernel
theorem dX8_actAlike_3 : decode cX8_actAlike 3 = .ok (.iload 4, 2) := by decide +kernel
theorem dX8_actAlike_5 : decode cX8_actAlike 5 = .ok (.aload_n 0, 1) := by decide +kernel
theorem dX8_actAlike_6 : decode cX8_actAlike 6 = .ok (.getfield 56, 3) := by decide +kernel
theorem dX8_actAlike_9 : decode cX8_actAlike 9 = .ok (.getfield 68, 3) := by decide +kernel
theorem dX8_actAlike_12 : decode cX8_actAlike 12 = .ok (.if_icmp .ge 45, 3) := by decide +kernel
theorem dX8_actAlike_15 : decode cX8_actAlike 15 = .ok (.iload_n 1, 1) := by decide +kernel
theorem dX8_actAlike_16 : decode cX8_actAlike 16 = .ok (.iload 4, 2) := by decide +kernel
theorem dX8_actAlike_18 : decode cX8_actAlike 18 = .ok (.ishr, 1) := by decide +kernel
theorem dX8_actAlike_19 : decode cX8_actAlike 19 = .ok (.ifCond .eq 38, 3) := by decide +kernel
theorem dX8_actAlike_22 : decode cX8_actAlike 22 = .ok (.iload_n 1, 1) := by decide +kernel
theorem dX8_actAlike_23 : decode cX8_actAlike 23 = .ok (.iload 4, 2) := by decide +kernel
theorem dX8_actAlike_25 : decode cX8_actAlike 25 = .ok (.ishr, 1) := by decide +kernel
theorem dX8_actAlike_26 : decode cX8_actAlike 26 = .ok (.iconst 1, 1) := by decide +kernel
theorem dX8_actAlike_27 : decode cX8_actAlike 27 = .ok (.iand, 1) := by decide +kernel
theorem dX8_actAlike_28 : decode cX8_actAlike 28 = .ok (.iconst 1, 1) := by decide +kernel
theorem dX8_actAlike_29 : decode cX8_actAlike 29 = .ok (.if_icmp .ne 22, 3) := by decide +kernel
theorem dX8_actAlike_32 : decode cX8_actAlike 32 = .ok (.aload_n 0, 1) := by decide +kernel
theorem dX8_actAlike_33 : decode cX8_actAlike 33 = .ok (.iload 4, 2) := by decide +kernel
theorem dX8_actAlike_35 : decode cX8_actAlike 35 = .ok (.iload_n 2, 1) := by decide +kernel
theorem dX8_actAlike_36 : decode cX8_actAlike 36 = .ok (.invokevirtual 131, 3) := by decide +kernel
theorem dX8_actAlike_39 : decode cX8_actAlike 39 = .ok (.aload_n 0, 1) := by decide +kernel
theorem dX8_actAlike_40 : decode cX8_actAlike 40 = .ok (.iload 4, 2) := by decide +kernel
theorem dX8_actAlike_42 : decode cX8_actAlike 42 = .ok (.iload_n 3, 1) := by decide +kernel
theorem dX8_actAlike_43 : decode cX8_actAlike 43 = .ok (.invokevirtual 131, 3) := by decide +kernel
theorem dX8_actAlike_46 : decode cX8_actAlike 46 = .ok (.if_icmp .eq 5, 3) := by decide +kernel
theorem dX8_actAlike_49 : decode cX8_actAlike 49 = .ok (.iconst 0, 1) := by decide +kernel
theorem dX8_actAlike_50 : decode cX8_actAlike 50 = .ok (.ireturn, 1) := by decide +kernel
theorem dX8_actAlike_51 : decode cX8_actAlike 51 = .ok (.iinc 4 1, 3) := by decide +kernel
theorem dX8_actAlike_54 : decode cX8_actAlike 54 = .ok (.goto (-51), 3) := by decide +kernel
theorem dX8_actAlike_57 : decode cX8_actAlike 57 = .ok (.iconst 1, 1) := by decide +kernel
theorem dX8_actAlike_58 : decode cX8_actAlike 58 = .ok (.ireturn, 1) := by decide +kernel
theorem dX8_effectOf_0 : decode cX8_effectOf 0 = .ok (.aload_n 0, 1) := by decide +kernel
theorem dX8_effectOf_1 : decode cX8_effectOf 1 = .ok (.iload_n 1, 1) := by decide +kernel
theorem dX8_effectOf_2 : decode cX8_effectOf 2 = .ok (.invokevirtual 134, 3) := by decide +kernel
theorem dX8_effectOf_5 : decode cX8_effectOf 5 = .ok (.istore_n 3, 1) := by decide +kernel
theorem dX8_effectOf_6 : decode cX8_effectOf 6 = .ok (.iload_n 2, 1) := by decide +kernel
theorem dX8_effectOf_7 : decode cX8_effectOf 7 = .ok (.iload_n 3, 1) := by decide +kernel
theorem dX8_effectOf_8 : decode cX8_effectOf 8 = .ok (.if_icmp .ge 13, 3) := by decide +kernel
theorem dX8_effectOf_11 : decode cX8_effectOf 11 = .ok (.iload_n 2, 1) := by decide +kernel
theorem dX8_effectOf_12 : decode cX8_effectOf 12 = .ok (.ifCond .ne 7, 3) := by decide +kernel
theorem dX8_effectOf_15 : decode cX8_effectOf 15 = .ok (.iconst 0, 1) := by decide +kernel
theorem dX8_effectOf_16 : decode cX8_effectOf 16 = .ok (.goto 4, 3) := by decide +kernel
theorem dX8_effectOf_19 : decode cX8_effectOf 19 = .ok (.iconst 1, 1) := by decide +kernel
theorem dX8_effectOf_20 : decode cX8_effectOf 20 = .ok (.ireturn, 1) := by decide +kernel
theorem dX8_effectOf_21 : decode cX8_effectOf 21 = .ok (.aload_n 0, 1) := by decide +kernel
theorem dX8_effectOf_22 : decode cX8_effectOf 22 = .ok (.getfield 56, 3) := by decide +kernel
theorem dX8_effectOf_25 : decode cX8_effectOf 25 = .ok (.iload_n 1, 1) := by decide +kernel
theorem dX8_effectOf_26 : decode cX8_effectOf 26 = .ok (.invokevirtual 89, 3) := by decide +kernel
theorem dX8_effectOf_29 : decode cX8_effectOf 29 = .ok (.ifCond .eq 14, 3) := by decide +kernel
theorem dX8_effectOf_32 : decode cX8_effectOf 32 = .ok (.iload_n 2, 1) := by decide +kernel
theorem dX8_effectOf_33 : decode cX8_effectOf 33 = .ok (.iload_n 3, 1) := by decide +kernel
theorem dX8_effectOf_34 : decode cX8_effectOf 34 = .ok (.iconst 2, 1) := by decide +kernel
theorem dX8_effectOf_35 : decode cX8_effectOf 35 = .ok (.iadd, 1) := by decide +kernel
theorem dX8_effectOf_36 : decode cX8_effectOf 36 = .ok (.if_icmp .ge 7, 3) := by decide +kernel
theorem dX8_effectOf_39 : decode cX8_effectOf 39 = .ok (.iconst 2, 1) := by decide +kernel
theorem dX8_effectOf_40 : decode cX8_effectOf 40 = .ok (.goto 4, 3) := by decide +kernel
theorem dX8_effectOf_43 : decode cX8_effectOf 43 = .ok (.iconst 3, 1) := by decide +kernel
theorem dX8_effectOf_44 : decode cX8_effectOf 44 = .ok (.ireturn, 1) := by decide +kernel
theorem dX8_goThrough_0 : decode cX8_goThrough 0 = .ok (.aload_n 0, 1) := by decide +kernel
theorem dX8_goThrough_1 : decode cX8_goThrough 1 = .ok (.getfield 41, 3) := by decide +kernel
theorem dX8_goThrough_4 : decode cX8_goThrough 4 = .ok (.bipush 30, 2) := by decide +kernel
theorem dX8_goThrough_6 : decode cX8_goThrough 6 = .ok (.if_icmp .lt 5, 3) := by decide +kernel
theorem dX8_goThrough_9 : decode cX8_goThrough 9 = .ok (.iconst 0, 1) := by decide +kernel
theorem dX8_goThrough_10 : decode cX8_goThrough 10 = .ok (.ireturn, 1) := by decide +kernel
theorem dX8_goThrough_11 : decode cX8_goThrough 11 = .ok (.aload_n 0, 1) := by decide +kernel
theorem dX8_goThrough_12 : decode cX8_goThrough 12 = .ok (.getfield 47, 3) := by decide +kernel
theorem dX8_goThrough_15 : decode cX8_goThrough 15 = .ok (.istore 4, 2) := by decide +kernel
theorem dX8_goThrough_17 : decode cX8_goThrough 17 = .ok (.iconst 0, 1) := by decide +kernel
theorem dX8_goThrough_18 : decode cX8_goThrough 18 = .ok (.istore 5, 2) := by decide +kernel
theorem dX8_goThrough_20 : decode cX8_goThrough 20 = .ok (.iload 5, 2) := by decide +kernel
theorem dX8_goThrough_22 : decode cX8_goThrough 22 = .ok (.aload_n 0, 1) := by decide +kernel
theorem dX8_goThrough_23 : decode cX8_goThrough 23 = .ok (.getfield 56, 3) := by decide +kernel
theorem dX8_goThrough_26 : decode cX8_goThrough 26 = .ok (.getfield 68, 3) := by decide +kernel
theorem dX8_goThrough_29 : decode cX8_goThrough 29 = .ok (.if_icmp .ge 66, 3) := by decide +kernel
theorem dX8_goThrough_32 : decode cX8_goThrough 32 = .ok (.iload_n 1, 1) := by decide +kernel
theorem dX8_goThrough_33 : decode cX8_goThrough 33 = .ok (.iload 5, 2) := by decide +kernel
theorem dX8_goThrough_35 : decode cX8_goThrough 35 = .ok (.ishr, 1) := by decide +kernel
theorem dX8_goThrough_36 : decode cX8_goThrough 36 = .ok (.ifCond .eq 59, 3) := by decide +kernel
theorem dX8_goThrough_39 : decode cX8_goThrough 39 = .ok (.iload_n 1, 1) := by decide +kernel
theorem dX8_goThrough_40 : decode cX8_goThrough 40 = .ok (.iload 5, 2) := by decide +kernel
theorem dX8_goThrough_42 : decode cX8_goThrough 42 = .ok (.ishr, 1) := by decide +kernel
theorem dX8_goThrough_43 : decode cX8_goThrough 43 = .ok (.iconst 1, 1) := by decide +kernel
theorem dX8_goThrough_44 : decode cX8_goThrough 44 = .ok (.iand, 1) := by decide +kernel
theorem dX8_goThrough_45 : decode cX8_goThrough 45 = .ok (.iconst 1, 1) := by decide +kernel
theorem dX8_goThrough_46 : decode cX8_goThrough 46 = .ok (.if_icmp .ne 43, 3) := by decide +kernel
theorem dX8_goThrough_49 : decode cX8_goThrough 49 = .ok (.aload_n 0, 1) := by decide +kernel
theorem dX8_goThrough_50 : decode cX8_goThrough 50 = .ok (.iload 5, 2) := by decide +kernel
theorem dX8_goThrough_52 : decode cX8_goThrough 52 = .ok (.invokevirtual 105, 3) := by decide +kernel
theorem dX8_goThrough_55 : decode cX8_goThrough 55 = .ok (.ifCond .eq 34, 3) := by decide +kernel
theorem dX8_goThrough_58 : decode cX8_goThrough 58 = .ok (.iload_n 2, 1) := by decide +kernel
theorem dX8_goThrough_59 : decode cX8_goThrough 59 = .ok (.aload_n 0, 1) := by decide +kernel
theorem dX8_goThrough_60 : decode cX8_goThrough 60 = .ok (.iload 5, 2) := by decide +kernel
theorem dX8_goThrough_62 : decode cX8_goThrough 62 = .ok (.invokevirtual 134, 3) := by decide +kernel
theorem dX8_goThrough_65 : decode cX8_goThrough 65 = .ok (.if_icmp .lt 14, 3) := by decide +kernel
theorem dX8_goThrough_68 : decode cX8_goThrough 68 = .ok (.aload_n 0, 1) := by decide +kernel
theorem dX8_goThrough_69 : decode cX8_goThrough 69 = .ok (.iload 5, 2) := by decide +kernel
theorem dX8_goThrough_71 : decode cX8_goThrough 71 = .ok (.iload_n 2, 1) := by decide +kernel
theorem dX8_goThrough_72 : decode cX8_goThrough 72 = .ok (.aload_n 3, 1) := by decide +kernel
theorem dX8_goThrough_73 : decode cX8_goThrough 73 = .ok (.invokevirtual 137, 3) := by decide +kernel
theorem dX8_goThrough_76 : decode cX8_goThrough 76 = .ok (.goto 13, 3) := by decide +kernel
theorem dX8_goThrough_79 : decode cX8_goThrough 79 = .ok (.iload_n 2, 1) := by decide +kernel
theorem dX8_goThrough_80 : decode cX8_goThrough 80 = .ok (.ifCond .le 9, 3) := by decide +kernel
theorem dX8_goThrough_83 : decode cX8_goThrough 83 = .ok (.aload_n 0, 1) := by decide +kernel
theorem dX8_goThrough_84 : decode cX8_goThrough 84 = .ok (.iload 5, 2) := by decide +kernel
theorem dX8_goThrough_86 : decode cX8_goThrough 86 = .ok (.invokevirtual 141, 3) := by decide +kernel
theorem dX8_goThrough_89 : decode cX8_goThrough 89 = .ok (.iinc 5 1, 3) := by decide +kernel
theorem dX8_goThrough_92 : decode cX8_goThrough 92 = .ok (.goto (-72), 3) := by decide +kernel
theorem dX8_goThrough_95 : decode cX8_goThrough 95 = .ok (.aload_n 0, 1) := by decide +kernel
theorem dX8_goThrough_96 : decode cX8_goThrough 96 = .ok (.getfield 41, 3) := by decide +kernel
theorem dX8_goThrough_99 : decode cX8_goThrough 99 = .ok (.aload_n 0, 1) := by decide +kernel
theorem dX8_goThrough_100 : decode cX8_goThrough 100 = .ok (.getfield 56, 3) := by decide +kernel
theorem dX8_goThrough_103 : decode cX8_goThrough 103 = .ok (.getfield 145, 3) := by decide +kernel
theorem dX8_goThrough_106 : decode cX8_goThrough 106 = .ok (.if_icmp .ge 7, 3) := by decide +kernel
theorem dX8_goThrough_109 : decode cX8_goThrough 109 = .ok (.aload_n 0, 1) := by decide +kernel
theorem dX8_goThrough_110 : decode cX8_goThrough 110 = .ok (.invokevirtual 148, 3) := by decide +kernel
theorem dX8_goThrough_113 : decode cX8_goThrough 113 = .ok (.aload_n 0, 1) := by decide +kernel
theorem dX8_goThrough_114 : decode cX8_goThrough 114 = .ok (.getfield 28, 3) := by decide +kernel
theorem dX8_goThrough_117 : decode cX8_goThrough 117 = .ok (.aload_n 0, 1) := by decide +kernel
theorem dX8_goThrough_118 : decode cX8_goThrough 118 = .ok (.getfield 41, 3) := by decide +kernel
theorem dX8_goThrough_121 : decode cX8_goThrough 121 = .ok (.iload_n 2, 1) := by decide +kernel
theorem dX8_goThrough_122 : decode cX8_goThrough 122 = .ok (.iastore, 1) := by decide +kernel
theorem dX8_goThrough_123 : decode cX8_goThrough 123 = .ok (.aload_n 0, 1) := by decide +kernel
theorem dX8_goThrough_124 : decode cX8_goThrough 124 = .ok (.dup, 1) := by decide +kernel
theorem dX8_goThrough_125 : decode cX8_goThrough 125 = .ok (.getfield 41, 3) := by decide +kernel
theorem dX8_goThrough_128 : decode cX8_goThrough 128 = .ok (.iconst 1, 1) := by decide +kernel
theorem dX8_goThrough_129 : decode cX8_goThrough 129 = .ok (.iadd, 1) := by decide +kernel
theorem dX8_goThrough_130 : decode cX8_goThrough 130 = .ok (.putfield 41, 3) := by decide +kernel
theorem dX8_goThrough_133 : decode cX8_goThrough 133 = .ok (.aload_n 0, 1) := by decide +kernel
theorem dX8_goThrough_134 : decode cX8_goThrough 134 = .ok (.getfield 47, 3) := by decide +kernel
theorem dX8_goThrough_137 : decode cX8_goThrough 137 = .ok (.iload 4, 2) := by decide +kernel
theorem dX8_goThrough_139 : decode cX8_goThrough 139 = .ok (.isub, 1) := by decide +kernel
theorem dX8_goThrough_140 : decode cX8_goThrough 140 = .ok (.ireturn, 1) := by decide +kernel
theorem dX8_bruise_0 : decode cX8_bruise 0 = .ok (.aload_n 0, 1) := by decide +kernel
theorem dX8_bruise_1 : decode cX8_bruise 1 = .ok (.getfield 19, 3) := by decide +kernel
theorem dX8_bruise_4 : decode cX8_bruise 4 = .ok (.iload_n 1, 1) := by decide +kernel
theorem dX8_bruise_5 : decode cX8_bruise 5 = .ok (.iconst 1, 1) := by decide +kernel
theorem dX8_bruise_6 : decode cX8_bruise 6 = .ok (.aload_n 0, 1) := by decide +kernel
theorem dX8_bruise_7 : decode cX8_bruise 7 = .ok (.getfield 19, 3) := by decide +kernel
theorem dX8_bruise_10 : decode cX8_bruise 10 = .ok (.iload_n 1, 1) := by decide +kernel
theorem dX8_bruise_11 : decode cX8_bruise 11 = .ok (.iaload, 1) := by decide +kernel
theorem dX8_bruise_12 : decode cX8_bruise 12 = .ok (.iconst 1, 1) := by decide +kernel
theorem dX8_bruise_13 : decode cX8_bruise 13 = .ok (.isub, 1) := by decide +kernel
theorem dX8_bruise_14 : decode cX8_bruise 14 = .ok (.invokestatic 151, 3) := by decide +kernel
theorem dX8_bruise_17 : decode cX8_bruise 17 = .ok (.iastore, 1) := by decide +kernel
theorem dX8_bruise_18 : decode cX8_bruise 18 = .ok (.aload_n 0, 1) := by decide +kernel
theorem dX8_bruise_19 : decode cX8_bruise 19 = .ok (.dup, 1) := by decide +kernel
theorem dX8_bruise_20 : decode cX8_bruise 20 = .ok (.getfield 53, 3) := by decide +kernel
theorem dX8_bruise_23 : decode cX8_bruise 23 = .ok (.iconst 1, 1) := by decide +kernel
theorem dX8_bruise_24 : decode cX8_bruise 24 = .ok (.iadd, 1) := by decide +kernel
theorem dX8_bruise_25 : decode cX8_bruise 25 = .ok (.putfield 53, 3) := by decide +kernel
theorem dX8_bruise_28 : decode cX8_bruise 28 = .ok (.return_, 1) := by decide +kernel
theorem dX8_split_0 : decode cX8_split 0 = .ok (.aload_n 0, 1) := by decide +kernel
theorem dX8_split_1 : decode cX8_split 1 = .ok (.iload_n 1, 1) := by decide +kernel
theorem dX8_split_2 : decode cX8_split 2 = .ok (.invokevirtual 97, 3) := by decide +kernel
theorem dX8_split_5 : decode cX8_split 5 = .ok (.istore 4, 2) := by decide +kernel
theorem dX8_split_7 : decode cX8_split 7 = .ok (.iload 4, 2) := by decide +kernel
theorem dX8_split_9 : decode cX8_split 9 = .ok (.iconst (-1), 1) := by decide +kernel
theorem dX8_split_10 : decode cX8_split 10 = .ok (.if_icmp .eq 21, 3) := by decide +kernel
theorem dX8_split_13 : decode cX8_split 13 = .ok (.aload_n 0, 1) := by decide +kernel
theorem dX8_split_14 : decode cX8_split 14 = .ok (.getfield 15, 3) := by decide +kernel
theorem dX8_split_17 : decode cX8_split 17 = .ok (.bipush 18, 2) := by decide +kernel
theorem dX8_split_19 : decode cX8_split 19 = .ok (.if_icmp .ge 12, 3) := by decide +kernel
theorem dX8_split_22 : decode cX8_split 22 = .ok (.aload_n 0, 1) := by decide +kernel
theorem dX8_split_23 : decode cX8_split 23 = .ok (.getfield 47, 3) := by decide +kernel
theorem dX8_split_26 : decode cX8_split 26 = .ok (.bipush 12, 2) := by decide +kernel
theorem dX8_split_28 : decode cX8_split 28 = .ok (.if_icmp .lt 4, 3) := by decide +kernel
theorem dX8_split_31 : decode cX8_split 31 = .ok (.return_, 1) := by decide +kernel
theorem dX8_split_32 : decode cX8_split 32 = .ok (.aload_n 0, 1) := by decide +kernel
theorem dX8_split_33 : decode cX8_split 33 = .ok (.getfield 56, 3) := by decide +kernel
theorem dX8_split_36 : decode cX8_split 36 = .ok (.getfield 71, 3) := by decide +kernel
theorem dX8_split_39 : decode cX8_split 39 = .ok (.iload_n 1, 1) := by decide +kernel
theorem dX8_split_40 : decode cX8_split 40 = .ok (.iconst 5, 1) := by decide +kernel
theorem dX8_split_41 : decode cX8_split 41 = .ok (.imul, 1) := by decide +kernel
theorem dX8_split_42 : decode cX8_split 42 = .ok (.iconst 2, 1) := by decide +kernel
theorem dX8_split_43 : decode cX8_split 43 = .ok (.iadd, 1) := by decide +kernel
theorem dX8_split_44 : decode cX8_split 44 = .ok (.iaload, 1) := by decide +kernel
theorem dX8_split_45 : decode cX8_split 45 = .ok (.istore 5, 2) := by decide +kernel
theorem dX8_split_47 : decode cX8_split 47 = .ok (.iconst 0, 1) := by decide +kernel
theorem dX8_split_48 : decode cX8_split 48 = .ok (.istore 6, 2) := by decide +kernel
theorem dX8_split_50 : decode cX8_split 50 = .ok (.aload_n 0, 1) := by decide +kernel
theorem dX8_split_51 : decode cX8_split 51 = .ok (.getfield 56, 3) := by decide +kernel
theorem dX8_split_54 : decode cX8_split 54 = .ok (.iload_n 1, 1) := by decide +kernel
theorem dX8_split_55 : decode cX8_split 55 = .ok (.invokevirtual 89, 3) := by decide +kernel
theorem dX8_split_58 : decode cX8_split 58 = .ok (.ifCond .eq 42, 3) := by decide +kernel
theorem dX8_split_61 : decode cX8_split 61 = .ok (.iload_n 2, 1) := by decide +kernel
theorem dX8_split_62 : decode cX8_split 62 = .ok (.aload_n 0, 1) := by decide +kernel
theorem dX8_split_63 : decode cX8_split 63 = .ok (.iload_n 1, 1) := by decide +kernel
theorem dX8_split_64 : decode cX8_split 64 = .ok (.invokevirtual 134, 3) := by decide +kernel
theorem dX8_split_67 : decode cX8_split 67 = .ok (.iconst 2, 1) := by decide +kernel
theorem dX8_split_68 : decode cX8_split 68 = .ok (.iadd, 1) := by decide +kernel
theorem dX8_split_69 : decode cX8_split 69 = .ok (.if_icmp .ge 31, 3) := by decide +kernel
theorem dX8_split_72 : decode cX8_split 72 = .ok (.aload_n 3, 1) := by decide +kernel
theorem dX8_split_73 : decode cX8_split 73 = .ok (.invokevirtual 156, 3) := by decide +kernel
theorem dX8_split_76 : decode cX8_split 76 = .ok (.istore 7, 2) := by decide +kernel
theorem dX8_split_78 : decode cX8_split 78 = .ok (.iload 7, 2) := by decide +kernel
theorem dX8_split_80 : decode cX8_split 80 = .ok (.ifCond .ne 7, 3) := by decide +kernel
theorem dX8_split_83 : decode cX8_split 83 = .ok (.iconst (-1), 1) := by decide +kernel
theorem dX8_split_84 : decode cX8_split 84 = .ok (.goto 14, 3) := by decide +kernel
theorem dX8_split_87 : decode cX8_split 87 = .ok (.iload 7, 2) := by decide +kernel
theorem dX8_split_89 : decode cX8_split 89 = .ok (.iconst 1, 1) := by decide +kernel
theorem dX8_split_90 : decode cX8_split 90 = .ok (.if_icmp .ne 7, 3) := by decide +kernel
theorem dX8_split_93 : decode cX8_split 93 = .ok (.iconst 1, 1) := by decide +kernel
theorem dX8_split_94 : decode cX8_split 94 = .ok (.goto 4, 3) := by decide +kernel
theorem dX8_split_97 : decode cX8_split 97 = .ok (.iconst 0, 1) := by decide +kernel
theorem dX8_split_98 : decode cX8_split 98 = .ok (.istore 6, 2) := by decide +kernel
theorem dX8_split_100 : decode cX8_split 100 = .ok (.aload_n 0, 1) := by decide +kernel
theorem dX8_split_101 : decode cX8_split 101 = .ok (.iload 4, 2) := by decide +kernel
theorem dX8_split_103 : decode cX8_split 103 = .ok (.iload_n 1, 1) := by decide +kernel
theorem dX8_split_104 : decode cX8_split 104 = .ok (.iload 5, 2) := by decide +kernel
theorem dX8_split_106 : decode cX8_split 106 = .ok (.iload 6, 2) := by decide +kernel
theorem dX8_split_108 : decode cX8_split 108 = .ok (.iadd, 1) := by decide +kernel
theorem dX8_split_109 : decode cX8_split 109 = .ok (.invokevirtual 101, 3) := by decide +kernel
theorem dX8_split_112 : decode cX8_split 112 = .ok (.ifCond .ne 6, 3) := by decide +kernel
theorem dX8_split_115 : decode cX8_split 115 = .ok (.iconst 0, 1) := by decide +kernel
theorem dX8_split_116 : decode cX8_split 116 = .ok (.istore 6, 2) := by decide +kernel
theorem dX8_split_118 : decode cX8_split 118 = .ok (.aload_n 0, 1) := by decide +kernel
theorem dX8_split_119 : decode cX8_split 119 = .ok (.iload 4, 2) := by decide +kernel
theorem dX8_split_121 : decode cX8_split 121 = .ok (.aload_n 0, 1) := by decide +kernel
theorem dX8_split_122 : decode cX8_split 122 = .ok (.iload 4, 2) := by decide +kernel
theorem dX8_split_124 : decode cX8_split 124 = .ok (.iload_n 1, 1) := by decide +kernel
theorem dX8_split_125 : decode cX8_split 125 = .ok (.invokevirtual 93, 3) := by decide +kernel
theorem dX8_split_128 : decode cX8_split 128 = .ok (.iload 5, 2) := by decide +kernel
theorem dX8_split_130 : decode cX8_split 130 = .ok (.iload 6, 2) := by decide +kernel
theorem dX8_split_132 : decode cX8_split 132 = .ok (.iadd, 1) := by decide +kernel
theorem dX8_split_133 : decode cX8_split 133 = .ok (.invokevirtual 161, 3) := by decide +kernel
theorem dX8_split_136 : decode cX8_split 136 = .ok (.aload_n 0, 1) := by decide +kernel
theorem dX8_split_137 : decode cX8_split 137 = .ok (.dup, 1) := by decide +kernel
theorem dX8_split_138 : decode cX8_split 138 = .ok (.getfield 22, 3) := by decide +kernel
theorem dX8_split_141 : decode cX8_split 141 = .ok (.iconst 1, 1) := by decide +kernel
theorem dX8_split_142 : decode cX8_split 142 = .ok (.iload_n 1, 1) := by decide +kernel
theorem dX8_split_143 : decode cX8_split 143 = .ok (.ishl, 1) := by decide +kernel
theorem dX8_split_144 : decode cX8_split 144 = .ok (.ior, 1) := by decide +kernel
theorem dX8_split_145 : decode cX8_split 145 = .ok (.putfield 22, 3) := by decide +kernel
theorem dX8_split_148 : decode cX8_split 148 = .ok (.aload_n 0, 1) := by decide +kernel
theorem dX8_split_149 : decode cX8_split 149 = .ok (.iload_n 1, 1) := by decide +kernel
theorem dX8_split_150 : decode cX8_split 150 = .ok (.iload_n 2, 1) := by decide +kernel
theorem dX8_split_151 : decode cX8_split 151 = .ok (.iload 6, 2) := by decide +kernel
theorem dX8_split_153 : decode cX8_split 153 = .ok (.invokevirtual 165, 3) := by decide +kernel
theorem dX8_split_156 : decode cX8_split 156 = .ok (.return_, 1) := by decide +kernel
theorem dX8_note_0 : decode cX8_note 0 = .ok (.aload_n 0, 1) := by decide +kernel
theorem dX8_note_1 : decode cX8_note 1 = .ok (.getfield 47, 3) := by decide +kernel
theorem dX8_note_4 : decode cX8_note 4 = .ok (.iconst 4, 1) := by decide +kernel
theorem dX8_note_5 : decode cX8_note 5 = .ok (.imul, 1) := by decide +kernel
theorem dX8_note_6 : decode cX8_note 6 = .ok (.istore 4, 2) := by decide +kernel
theorem dX8_note_8 : decode cX8_note 8 = .ok (.aload_n 0, 1) := by decide +kernel
theorem dX8_note_9 : decode cX8_note 9 = .ok (.getfield 31, 3) := by decide +kernel
theorem dX8_note_12 : decode cX8_note 12 = .ok (.iload 4, 2) := by decide +kernel
theorem dX8_note_14 : decode cX8_note 14 = .ok (.iload_n 1, 1) := by decide +kernel
theorem dX8_note_15 : decode cX8_note 15 = .ok (.iastore, 1) := by decide +kernel
theorem dX8_note_16 : decode cX8_note 16 = .ok (.aload_n 0, 1) := by decide +kernel
theorem dX8_note_17 : decode cX8_note 17 = .ok (.getfield 31, 3) := by decide +kernel
theorem dX8_note_20 : decode cX8_note 20 = .ok (.iload 4, 2) := by decide +kernel
theorem dX8_note_22 : decode cX8_note 22 = .ok (.iconst 1, 1) := by decide +kernel
theorem dX8_note_23 : decode cX8_note 23 = .ok (.iadd, 1) := by decide +kernel
theorem dX8_note_24 : decode cX8_note 24 = .ok (.aload_n 0, 1) := by decide +kernel
theorem dX8_note_25 : decode cX8_note 25 = .ok (.getfield 41, 3) := by decide +kernel
theorem dX8_note_28 : decode cX8_note 28 = .ok (.iastore, 1) := by decide +kernel
theorem dX8_note_29 : decode cX8_note 29 = .ok (.aload_n 0, 1) := by decide +kernel
theorem dX8_note_30 : decode cX8_note 30 = .ok (.getfield 31, 3) := by decide +kernel
theorem dX8_note_33 : decode cX8_note 33 = .ok (.iload 4, 2) := by decide +kernel
theorem dX8_note_35 : decode cX8_note 35 = .ok (.iconst 2, 1) := by decide +kernel
theorem dX8_note_36 : decode cX8_note 36 = .ok (.iadd, 1) := by decide +kernel
theorem dX8_note_37 : decode cX8_note 37 = .ok (.iload_n 2, 1) := by decide +kernel
theorem dX8_note_38 : decode cX8_note 38 = .ok (.iastore, 1) := by decide +kernel
theorem dX8_note_39 : decode cX8_note 39 = .ok (.aload_n 0, 1) := by decide +kernel
theorem dX8_note_40 : decode cX8_note 40 = .ok (.getfield 31, 3) := by decide +kernel
theorem dX8_note_43 : decode cX8_note 43 = .ok (.iload 4, 2) := by decide +kernel
theorem dX8_note_45 : decode cX8_note 45 = .ok (.iconst 3, 1) := by decide +kernel
theorem dX8_note_46 : decode cX8_note 46 = .ok (.iadd, 1) := by decide +kernel
theorem dX8_note_47 : decode cX8_note 47 = .ok (.iload_n 3, 1) := by decide +kernel
theorem dX8_note_48 : decode cX8_note 48 = .ok (.iastore, 1) := by decide +kernel
theorem dX8_note_49 : decode cX8_note 49 = .ok (.aload_n 0, 1) := by decide +kernel
theorem dX8_note_50 : decode cX8_note 50 = .ok (.dup, 1) := by decide +kernel
theorem dX8_note_51 : decode cX8_note 51 = .ok (.getfield 47, 3) := by decide +kernel
theorem dX8_note_54 : decode cX8_note 54 = .ok (.iconst 1, 1) := by decide +kernel
theorem dX8_note_55 : decode cX8_note 55 = .ok (.iadd, 1) := by decide +kernel
theorem dX8_note_56 : decode cX8_note 56 = .ok (.putfield 47, 3) := by decide +kernel
theorem dX8_note_59 : decode cX8_note 59 = .ok (.iload_n 3, 1) := by decide +kernel
theorem dX8_note_60 : decode cX8_note 60 = .ok (.ifCond .eq 13, 3) := by decide +kernel
theorem dX8_note_63 : decode cX8_note 63 = .ok (.aload_n 0, 1) := by decide +kernel
theorem dX8_note_64 : decode cX8_note 64 = .ok (.dup, 1) := by decide +kernel
theorem dX8_note_65 : decode cX8_note 65 = .ok (.getfield 50, 3) := by decide +kernel
theorem dX8_note_68 : decode cX8_note 68 = .ok (.iconst 1, 1) := by decide +kernel
theorem dX8_note_69 : decode cX8_note 69 = .ok (.iadd, 1) := by decide +kernel
theorem dX8_note_70 : decode cX8_note 70 = .ok (.putfield 50, 3) := by decide +kernel
theorem dX8_note_73 : decode cX8_note 73 = .ok (.return_, 1) := by decide +kernel
theorem dX8_divide_0 : decode cX8_divide 0 = .ok (.iload_n 1, 1) := by decide +kernel
theorem dX8_divide_1 : decode cX8_divide 1 = .ok (.bipush 6, 2) := by decide +kernel
theorem dX8_divide_3 : decode cX8_divide 3 = .ok (.imul, 1) := by decide +kernel
theorem dX8_divide_4 : decode cX8_divide 4 = .ok (.istore 4, 2) := by decide +kernel
theorem dX8_divide_6 : decode cX8_divide 6 = .ok (.aload_n 0, 1) := by decide +kernel
theorem dX8_divide_7 : decode cX8_divide 7 = .ok (.getfield 15, 3) := by decide +kernel
theorem dX8_divide_10 : decode cX8_divide 10 = .ok (.bipush 6, 2) := by decide +kernel
theorem dX8_divide_12 : decode cX8_divide 12 = .ok (.imul, 1) := by decide +kernel
theorem dX8_divide_13 : decode cX8_divide 13 = .ok (.istore 5, 2) := by decide +kernel
theorem dX8_divide_15 : decode cX8_divide 15 = .ok (.aload_n 0, 1) := by decide +kernel
theorem dX8_divide_16 : decode cX8_divide 16 = .ok (.getfield 9, 3) := by decide +kernel
theorem dX8_divide_19 : decode cX8_divide 19 = .ok (.iload 4, 2) := by decide +kernel
theorem dX8_divide_21 : decode cX8_divide 21 = .ok (.aload_n 0, 1) := by decide +kernel
theorem dX8_divide_22 : decode cX8_divide 22 = .ok (.getfield 9, 3) := by decide +kernel
theorem dX8_divide_25 : decode cX8_divide 25 = .ok (.iload 5, 2) := by decide +kernel
theorem dX8_divide_27 : decode cX8_divide 27 = .ok (.bipush 6, 2) := by decide +kernel
theorem dX8_divide_29 : decode cX8_divide 29 = .ok (.invokestatic 83, 3) := by decide +kernel
theorem dX8_divide_32 : decode cX8_divide 32 = .ok (.aload_n 0, 1) := by decide +kernel
theorem dX8_divide_33 : decode cX8_divide 33 = .ok (.getfield 9, 3) := by decide +kernel
theorem dX8_divide_36 : decode cX8_divide 36 = .ok (.iload_n 2, 1) := by decide +kernel
theorem dX8_divide_37 : decode cX8_divide 37 = .ok (.iconst 1, 1) := by decide +kernel
theorem dX8_divide_38 : decode cX8_divide 38 = .ok (.iadd, 1) := by decide +kernel
theorem dX8_divide_39 : decode cX8_divide 39 = .ok (.iload_n 3, 1) := by decide +kernel
theorem dX8_divide_40 : decode cX8_divide 40 = .ok (.iastore, 1) := by decide +kernel
theorem dX8_divide_41 : decode cX8_divide 41 = .ok (.aload_n 0, 1) := by decide +kernel
theorem dX8_divide_42 : decode cX8_divide 42 = .ok (.getfield 9, 3) := by decide +kernel
theorem dX8_divide_45 : decode cX8_divide 45 = .ok (.iload 5, 2) := by decide +kernel
theorem dX8_divide_47 : decode cX8_divide 47 = .ok (.iload_n 2, 1) := by decide +kernel
theorem dX8_divide_48 : decode cX8_divide 48 = .ok (.iadd, 1) := by decide +kernel
theorem dX8_divide_49 : decode cX8_divide 49 = .ok (.iload 4, 2) := by decide +kernel
theorem dX8_divide_51 : decode cX8_divide 51 = .ok (.isub, 1) := by decide +kernel
theorem dX8_divide_52 : decode cX8_divide 52 = .ok (.iload_n 3, 1) := by decide +kernel
theorem dX8_divide_53 : decode cX8_divide 53 = .ok (.iastore, 1) := by decide +kernel
theorem dX8_divide_54 : decode cX8_divide 54 = .ok (.aload_n 0, 1) := by decide +kernel
theorem dX8_divide_55 : decode cX8_divide 55 = .ok (.dup, 1) := by decide +kernel
theorem dX8_divide_56 : decode cX8_divide 56 = .ok (.getfield 15, 3) := by decide +kernel
theorem dX8_divide_59 : decode cX8_divide 59 = .ok (.iconst 1, 1) := by decide +kernel
theorem dX8_divide_60 : decode cX8_divide 60 = .ok (.iadd, 1) := by decide +kernel
theorem dX8_divide_61 : decode cX8_divide 61 = .ok (.putfield 15, 3) := by decide +kernel
theorem dX8_divide_64 : decode cX8_divide 64 = .ok (.return_, 1) := by decide +kernel
theorem dX8_deliver_0 : decode cX8_deliver 0 = .ok (.aload_n 0, 1) := by decide +kernel
theorem dX8_deliver_1 : decode cX8_deliver 1 = .ok (.getfield 56, 3) := by decide +kernel
theorem dX8_deliver_4 : decode cX8_deliver 4 = .ok (.getfield 168, 3) := by decide +kernel
theorem dX8_deliver_7 : decode cX8_deliver 7 = .ok (.istore_n 1, 1) := by decide +kernel
theorem dX8_deliver_8 : decode cX8_deliver 8 = .ok (.iconst 0, 1) := by decide +kernel
theorem dX8_deliver_9 : decode cX8_deliver 9 = .ok (.istore_n 2, 1) := by decide +kernel
theorem dX8_deliver_10 : decode cX8_deliver 10 = .ok (.iload_n 2, 1) := by decide +kernel
theorem dX8_deliver_11 : decode cX8_deliver 11 = .ok (.aload_n 0, 1) := by decide +kernel
theorem dX8_deliver_12 : decode cX8_deliver 12 = .ok (.getfield 56, 3) := by decide +kernel
theorem dX8_deliver_15 : decode cX8_deliver 15 = .ok (.getfield 171, 3) := by decide +kernel
theorem dX8_deliver_18 : decode cX8_deliver 18 = .ok (.if_icmp .ge 30, 3) := by decide +kernel
theorem dX8_deliver_21 : decode cX8_deliver 21 = .ok (.iload_n 1, 1) := by decide +kernel
theorem dX8_deliver_22 : decode cX8_deliver 22 = .ok (.ifCond .le 26, 3) := by decide +kernel
theorem dX8_deliver_25 : decode cX8_deliver 25 = .ok (.aload_n 0, 1) := by decide +kernel
theorem dX8_deliver_26 : decode cX8_deliver 26 = .ok (.iload_n 2, 1) := by decide +kernel
theorem dX8_deliver_27 : decode cX8_deliver 27 = .ok (.invokevirtual 174, 3) := by decide +kernel
theorem dX8_deliver_30 : decode cX8_deliver 30 = .ok (.ifCond .eq 12, 3) := by decide +kernel
theorem dX8_deliver_33 : decode cX8_deliver 33 = .ok (.iload_n 1, 1) := by decide +kernel
theorem dX8_deliver_34 : decode cX8_deliver 34 = .ok (.aload_n 0, 1) := by decide +kernel
theorem dX8_deliver_35 : decode cX8_deliver 35 = .ok (.iload_n 2, 1) := by decide +kernel
theorem dX8_deliver_36 : decode cX8_deliver 36 = .ok (.iload_n 1, 1) := by decide +kernel
theorem dX8_deliver_37 : decode cX8_deliver 37 = .ok (.invokevirtual 177, 3) := by decide +kernel
theorem dX8_deliver_40 : decode cX8_deliver 40 = .ok (.isub, 1) := by decide +kernel
theorem dX8_deliver_41 : decode cX8_deliver 41 = .ok (.istore_n 1, 1) := by decide +kernel
theorem dX8_deliver_42 : decode cX8_deliver 42 = .ok (.iinc 2 1, 3) := by decide +kernel
theorem dX8_deliver_45 : decode cX8_deliver 45 = .ok (.goto (-35), 3) := by decide +kernel
theorem dX8_deliver_48 : decode cX8_deliver 48 = .ok (.return_, 1) := by decide +kernel
theorem dX8_isDone_0 : decode cX8_isDone 0 = .ok (.aload_n 0, 1) := by decide +kernel
theorem dX8_isDone_1 : decode cX8_isDone 1 = .ok (.getfield 25, 3) := by decide +kernel
theorem dX8_isDone_4 : decode cX8_isDone 4 = .ok (.iload_n 1, 1) := by decide +kernel
theorem dX8_isDone_5 : decode cX8_isDone 5 = .ok (.iaload, 1) := by decide +kernel
theorem dX8_isDone_6 : decode cX8_isDone 6 = .ok (.aload_n 0, 1) := by decide +kernel
theorem dX8_isDone_7 : decode cX8_isDone 7 = .ok (.getfield 56, 3) := by decide +kernel
theorem dX8_isDone_10 : decode cX8_isDone 10 = .ok (.getfield 180, 3) := by decide +kernel
theorem dX8_isDone_13 : decode cX8_isDone 13 = .ok (.iload_n 1, 1) := by decide +kernel
theorem dX8_isDone_14 : decode cX8_isDone 14 = .ok (.iconst 5, 1) := by decide +kernel
theorem dX8_isDone_15 : decode cX8_isDone 15 = .ok (.imul, 1) := by decide +kernel
theorem dX8_isDone_16 : decode cX8_isDone 16 = .ok (.iconst 2, 1) := by decide +kernel
theorem dX8_isDone_17 : decode cX8_isDone 17 = .ok (.iadd, 1) := by decide +kernel
theorem dX8_isDone_18 : decode cX8_isDone 18 = .ok (.iaload, 1) := by decide +kernel
theorem dX8_isDone_19 : decode cX8_isDone 19 = .ok (.if_icmp .lt 7, 3) := by decide +kernel
theorem dX8_isDone_22 : decode cX8_isDone 22 = .ok (.iconst 1, 1) := by decide +kernel
theorem dX8_isDone_23 : decode cX8_isDone 23 = .ok (.goto 4, 3) := by decide +kernel
theorem dX8_isDone_26 : decode cX8_isDone 26 = .ok (.iconst 0, 1) := by decide +kernel
theorem dX8_isDone_27 : decode cX8_isDone 27 = .ok (.ireturn, 1) := by decide +kernel
theorem dX8_isOpen_0 : decode cX8_isOpen 0 = .ok (.aload_n 0, 1) := by decide +kernel
theorem dX8_isOpen_1 : decode cX8_isOpen 1 = .ok (.iload_n 1, 1) := by decide +kernel
theorem dX8_isOpen_2 : decode cX8_isOpen 2 = .ok (.invokevirtual 183, 3) := by decide +kernel
theorem dX8_isOpen_5 : decode cX8_isOpen 5 = .ok (.ifCond .ne 27, 3) := by decide +kernel
theorem dX8_isOpen_8 : decode cX8_isOpen 8 = .ok (.aload_n 0, 1) := by decide +kernel
theorem dX8_isOpen_9 : decode cX8_isOpen 9 = .ok (.getfield 41, 3) := by decide +kernel
theorem dX8_isOpen_12 : decode cX8_isOpen 12 = .ok (.aload_n 0, 1) := by decide +kernel
theorem dX8_isOpen_13 : decode cX8_isOpen 13 = .ok (.getfield 56, 3) := by decide +kernel
theorem dX8_isOpen_16 : decode cX8_isOpen 16 = .ok (.getfield 180, 3) := by decide +kernel
theorem dX8_isOpen_19 : decode cX8_isOpen 19 = .ok (.iload_n 1, 1) := by decide +kernel
theorem dX8_isOpen_20 : decode cX8_isOpen 20 = .ok (.iconst 5, 1) := by decide +kernel
theorem dX8_isOpen_21 : decode cX8_isOpen 21 = .ok (.imul, 1) := by decide +kernel
theorem dX8_isOpen_22 : decode cX8_isOpen 22 = .ok (.iconst 3, 1) := by decide +kernel
theorem dX8_isOpen_23 : decode cX8_isOpen 23 = .ok (.iadd, 1) := by decide +kernel
theorem dX8_isOpen_24 : decode cX8_isOpen 24 = .ok (.iaload, 1) := by decide +kernel
theorem dX8_isOpen_25 : decode cX8_isOpen 25 = .ok (.if_icmp .gt 7, 3) := by decide +kernel
theorem dX8_isOpen_28 : decode cX8_isOpen 28 = .ok (.iconst 1, 1) := by decide +kernel
theorem dX8_isOpen_29 : decode cX8_isOpen 29 = .ok (.goto 4, 3) := by decide +kernel
theorem dX8_isOpen_32 : decode cX8_isOpen 32 = .ok (.iconst 0, 1) := by decide +kernel
theorem dX8_isOpen_33 : decode cX8_isOpen 33 = .ok (.ireturn, 1) := by decide +kernel
theorem dX8_deliverTo_0 : decode cX8_deliverTo 0 = .ok (.iconst 0, 1) := by decide +kernel
theorem dX8_deliverTo_1 : decode cX8_deliverTo 1 = .ok (.istore_n 3, 1) := by decide +kernel
theorem dX8_deliverTo_2 : decode cX8_deliverTo 2 = .ok (.iconst 0, 1) := by decide +kernel
theorem dX8_deliverTo_3 : decode cX8_deliverTo 3 = .ok (.istore 4, 2) := by decide +kernel
theorem dX8_deliverTo_5 : decode cX8_deliverTo 5 = .ok (.iload 4, 2) := by decide +kernel
theorem dX8_deliverTo_7 : decode cX8_deliverTo 7 = .ok (.aload_n 0, 1) := by decide +kernel
theorem dX8_deliverTo_8 : decode cX8_deliverTo 8 = .ok (.getfield 15, 3) := by decide +kernel
theorem dX8_deliverTo_11 : decode cX8_deliverTo 11 = .ok (.if_icmp .ge 102, 3) := by decide +kernel
theorem dX8_deliverTo_14 : decode cX8_deliverTo 14 = .ok (.iload_n 3, 1) := by decide +kernel
theorem dX8_deliverTo_15 : decode cX8_deliverTo 15 = .ok (.iload_n 2, 1) := by decide +kernel
theorem dX8_deliverTo_16 : decode cX8_deliverTo 16 = .ok (.if_icmp .ge 97, 3) := by decide +kernel
theorem dX8_deliverTo_19 : decode cX8_deliverTo 19 = .ok (.aload_n 0, 1) := by decide +kernel
theorem dX8_deliverTo_20 : decode cX8_deliverTo 20 = .ok (.iload_n 1, 1) := by decide +kernel
theorem dX8_deliverTo_21 : decode cX8_deliverTo 21 = .ok (.invokevirtual 183, 3) := by decide +kernel
theorem dX8_deliverTo_24 : decode cX8_deliverTo 24 = .ok (.ifCond .ne 89, 3) := by decide +kernel
theorem dX8_deliverTo_27 : decode cX8_deliverTo 27 = .ok (.aload_n 0, 1) := by decide +kernel
theorem dX8_deliverTo_28 : decode cX8_deliverTo 28 = .ok (.iload 4, 2) := by decide +kernel
theorem dX8_deliverTo_30 : decode cX8_deliverTo 30 = .ok (.invokevirtual 186, 3) := by decide +kernel
theorem dX8_deliverTo_33 : decode cX8_deliverTo 33 = .ok (.ifCond .eq 74, 3) := by decide +kernel
theorem dX8_deliverTo_36 : decode cX8_deliverTo 36 = .ok (.aload_n 0, 1) := by decide +kernel
theorem dX8_deliverTo_37 : decode cX8_deliverTo 37 = .ok (.getfield 56, 3) := by decide +kernel
theorem dX8_deliverTo_40 : decode cX8_deliverTo 40 = .ok (.iload_n 1, 1) := by decide +kernel
theorem dX8_deliverTo_41 : decode cX8_deliverTo 41 = .ok (.aload_n 0, 1) := by decide +kernel
theorem dX8_deliverTo_42 : decode cX8_deliverTo 42 = .ok (.iload 4, 2) := by decide +kernel
theorem dX8_deliverTo_44 : decode cX8_deliverTo 44 = .ok (.invokevirtual 115, 3) := by decide +kernel
theorem dX8_deliverTo_47 : decode cX8_deliverTo 47 = .ok (.aload_n 0, 1) := by decide +kernel
theorem dX8_deliverTo_48 : decode cX8_deliverTo 48 = .ok (.iload 4, 2) := by decide +kernel
theorem dX8_deliverTo_50 : decode cX8_deliverTo 50 = .ok (.invokevirtual 118, 3) := by decide +kernel
theorem dX8_deliverTo_53 : decode cX8_deliverTo 53 = .ok (.invokevirtual 189, 3) := by decide +kernel
theorem dX8_deliverTo_56 : decode cX8_deliverTo 56 = .ok (.ifCond .eq 51, 3) := by decide +kernel
theorem dX8_deliverTo_59 : decode cX8_deliverTo 59 = .ok (.aload_n 0, 1) := by decide +kernel
theorem dX8_deliverTo_60 : decode cX8_deliverTo 60 = .ok (.getfield 9, 3) := by decide +kernel
theorem dX8_deliverTo_63 : decode cX8_deliverTo 63 = .ok (.iload 4, 2) := by decide +kernel
theorem dX8_deliverTo_65 : decode cX8_deliverTo 65 = .ok (.bipush 6, 2) := by decide +kernel
theorem dX8_deliverTo_67 : decode cX8_deliverTo 67 = .ok (.imul, 1) := by decide +kernel
theorem dX8_deliverTo_68 : decode cX8_deliverTo 68 = .ok (.iconst 5, 1) := by decide +kernel
theorem dX8_deliverTo_69 : decode cX8_deliverTo 69 = .ok (.iadd, 1) := by decide +kernel
theorem dX8_deliverTo_70 : decode cX8_deliverTo 70 = .ok (.iconst 0, 1) := by decide +kernel
theorem dX8_deliverTo_71 : decode cX8_deliverTo 71 = .ok (.iastore, 1) := by decide +kernel
theorem dX8_deliverTo_72 : decode cX8_deliverTo 72 = .ok (.aload_n 0, 1) := by decide +kernel
theorem dX8_deliverTo_73 : decode cX8_deliverTo 73 = .ok (.getfield 25, 3) := by decide +kernel
theorem dX8_deliverTo_76 : decode cX8_deliverTo 76 = .ok (.iload_n 1, 1) := by decide +kernel
theorem dX8_deliverTo_77 : decode cX8_deliverTo 77 = .ok (.dup2, 1) := by decide +kernel
theorem dX8_deliverTo_78 : decode cX8_deliverTo 78 = .ok (.iaload, 1) := by decide +kernel
theorem dX8_deliverTo_79 : decode cX8_deliverTo 79 = .ok (.iconst 1, 1) := by decide +kernel
theorem dX8_deliverTo_80 : decode cX8_deliverTo 80 = .ok (.iadd, 1) := by decide +kernel
theorem dX8_deliverTo_81 : decode cX8_deliverTo 81 = .ok (.iastore, 1) := by decide +kernel
theorem dX8_deliverTo_82 : decode cX8_deliverTo 82 = .ok (.aload_n 0, 1) := by decide +kernel
theorem dX8_deliverTo_83 : decode cX8_deliverTo 83 = .ok (.dup, 1) := by decide +kernel
theorem dX8_deliverTo_84 : decode cX8_deliverTo 84 = .ok (.getfield 44, 3) := by decide +kernel
theorem dX8_deliverTo_87 : decode cX8_deliverTo 87 = .ok (.aload_n 0, 1) := by decide +kernel
theorem dX8_deliverTo_88 : decode cX8_deliverTo 88 = .ok (.getfield 56, 3) := by decide +kernel
theorem dX8_deliverTo_91 : decode cX8_deliverTo 91 = .ok (.getfield 180, 3) := by decide +kernel
theorem dX8_deliverTo_94 : decode cX8_deliverTo 94 = .ok (.iload_n 1, 1) := by decide +kernel
theorem dX8_deliverTo_95 : decode cX8_deliverTo 95 = .ok (.iconst 5, 1) := by decide +kernel
theorem dX8_deliverTo_96 : decode cX8_deliverTo 96 = .ok (.imul, 1) := by decide +kernel
theorem dX8_deliverTo_97 : decode cX8_deliverTo 97 = .ok (.iconst 4, 1) := by decide +kernel
theorem dX8_deliverTo_98 : decode cX8_deliverTo 98 = .ok (.iadd, 1) := by decide +kernel
theorem dX8_deliverTo_99 : decode cX8_deliverTo 99 = .ok (.iaload, 1) := by decide +kernel
theorem dX8_deliverTo_100 : decode cX8_deliverTo 100 = .ok (.iadd, 1) := by decide +kernel
theorem dX8_deliverTo_101 : decode cX8_deliverTo 101 = .ok (.putfield 44, 3) := by decide +kernel
theorem dX8_deliverTo_104 : decode cX8_deliverTo 104 = .ok (.iinc 3 1, 3) := by decide +kernel
theorem dX8_deliverTo_107 : decode cX8_deliverTo 107 = .ok (.iinc 4 1, 3) := by decide +kernel
theorem dX8_deliverTo_110 : decode cX8_deliverTo 110 = .ok (.goto (-105), 3) := by decide +kernel
theorem dX8_deliverTo_113 : decode cX8_deliverTo 113 = .ok (.iload_n 3, 1) := by decide +kernel
theorem dX8_deliverTo_114 : decode cX8_deliverTo 114 = .ok (.ireturn, 1) := by decide +kernel
theorem dX8_mayBePaid_0 : decode cX8_mayBePaid 0 = .ok (.aload_n 0, 1) := by decide +kernel
theorem dX8_mayBePaid_1 : decode cX8_mayBePaid 1 = .ok (.getfield 41, 3) := by decide +kernel
theorem dX8_mayBePaid_4 : decode cX8_mayBePaid 4 = .ok (.aload_n 0, 1) := by decide +kernel
theorem dX8_mayBePaid_5 : decode cX8_mayBePaid 5 = .ok (.getfield 56, 3) := by decide +kernel
theorem dX8_mayBePaid_8 : decode cX8_mayBePaid 8 = .ok (.getfield 145, 3) := by decide +kernel
theorem dX8_mayBePaid_11 : decode cX8_mayBePaid 11 = .ok (.if_icmp .ge 13, 3) := by decide +kernel
theorem dX8_mayBePaid_14 : decode cX8_mayBePaid 14 = .ok (.aload_n 0, 1) := by decide +kernel
theorem dX8_mayBePaid_15 : decode cX8_mayBePaid 15 = .ok (.getfield 56, 3) := by decide +kernel
theorem dX8_mayBePaid_18 : decode cX8_mayBePaid 18 = .ok (.getfield 168, 3) := by decide +kernel
theorem dX8_mayBePaid_21 : decode cX8_mayBePaid 21 = .ok (.ifCond .ne 5, 3) := by decide +kernel
theorem dX8_mayBePaid_24 : decode cX8_mayBePaid 24 = .ok (.iconst 0, 1) := by decide +kernel
theorem dX8_mayBePaid_25 : decode cX8_mayBePaid 25 = .ok (.ireturn, 1) := by decide +kernel
theorem dX8_mayBePaid_26 : decode cX8_mayBePaid 26 = .ok (.iconst 0, 1) := by decide +kernel
theorem dX8_mayBePaid_27 : decode cX8_mayBePaid 27 = .ok (.istore_n 1, 1) := by decide +kernel
theorem dX8_mayBePaid_28 : decode cX8_mayBePaid 28 = .ok (.iload_n 1, 1) := by decide +kernel
theorem dX8_mayBePaid_29 : decode cX8_mayBePaid 29 = .ok (.aload_n 0, 1) := by decide +kernel
theorem dX8_mayBePaid_30 : decode cX8_mayBePaid 30 = .ok (.getfield 56, 3) := by decide +kernel
theorem dX8_mayBePaid_33 : decode cX8_mayBePaid 33 = .ok (.getfield 171, 3) := by decide +kernel
theorem dX8_mayBePaid_36 : decode cX8_mayBePaid 36 = .ok (.if_icmp .ge 19, 3) := by decide +kernel
theorem dX8_mayBePaid_39 : decode cX8_mayBePaid 39 = .ok (.aload_n 0, 1) := by decide +kernel
theorem dX8_mayBePaid_40 : decode cX8_mayBePaid 40 = .ok (.iload_n 1, 1) := by decide +kernel
theorem dX8_mayBePaid_41 : decode cX8_mayBePaid 41 = .ok (.invokevirtual 174, 3) := by decide +kernel
theorem dX8_mayBePaid_44 : decode cX8_mayBePaid 44 = .ok (.ifCond .eq 5, 3) := by decide +kernel
theorem dX8_mayBePaid_47 : decode cX8_mayBePaid 47 = .ok (.iconst 1, 1) := by decide +kernel
theorem dX8_mayBePaid_48 : decode cX8_mayBePaid 48 = .ok (.ireturn, 1) := by decide +kernel
theorem dX8_mayBePaid_49 : decode cX8_mayBePaid 49 = .ok (.iinc 1 1, 3) := by decide +kernel
theorem dX8_mayBePaid_52 : decode cX8_mayBePaid 52 = .ok (.goto (-24), 3) := by decide +kernel
theorem dX8_mayBePaid_55 : decode cX8_mayBePaid 55 = .ok (.iconst 0, 1) := by decide +kernel
theorem dX8_mayBePaid_56 : decode cX8_mayBePaid 56 = .ok (.ireturn, 1) := by decide +kernel
theorem dX8_ordersDone_0 : decode cX8_ordersDone 0 = .ok (.iconst 0, 1) := by decide +kernel
theorem dX8_ordersDone_1 : decode cX8_ordersDone 1 = .ok (.istore_n 1, 1) := by decide +kernel
theorem dX8_ordersDone_2 : decode cX8_ordersDone 2 = .ok (.iconst 0, 1) := by decide +kernel
theorem dX8_ordersDone_3 : decode cX8_ordersDone 3 = .ok (.istore_n 2, 1) := by decide +kernel
theorem dX8_ordersDone_4 : decode cX8_ordersDone 4 = .ok (.iload_n 2, 1) := by decide +kernel
theorem dX8_ordersDone_5 : decode cX8_ordersDone 5 = .ok (.aload_n 0, 1) := by decide +kernel
theorem dX8_ordersDone_6 : decode cX8_ordersDone 6 = .ok (.getfield 56, 3) := by decide +kernel
theorem dX8_ordersDone_9 : decode cX8_ordersDone 9 = .ok (.getfield 171, 3) := by decide +kernel
theorem dX8_ordersDone_12 : decode cX8_ordersDone 12 = .ok (.if_icmp .ge 20, 3) := by decide +kernel
theorem dX8_ordersDone_15 : decode cX8_ordersDone 15 = .ok (.aload_n 0, 1) := by decide +kernel
theorem dX8_ordersDone_16 : decode cX8_ordersDone 16 = .ok (.iload_n 2, 1) := by decide +kernel
theorem dX8_ordersDone_17 : decode cX8_ordersDone 17 = .ok (.invokevirtual 183, 3) := by decide +kernel
theorem dX8_ordersDone_20 : decode cX8_ordersDone 20 = .ok (.ifCond .eq 6, 3) := by decide +kernel
theorem dX8_ordersDone_23 : decode cX8_ordersDone 23 = .ok (.iinc 1 1, 3) := by decide +kernel
theorem dX8_ordersDone_26 : decode cX8_ordersDone 26 = .ok (.iinc 2 1, 3) := by decide +kernel
theorem dX8_ordersDone_29 : decode cX8_ordersDone 29 = .ok (.goto (-25), 3) := by decide +kernel
theorem dX8_ordersDone_32 : decode cX8_ordersDone 32 = .ok (.iload_n 1, 1) := by decide +kernel
theorem dX8_ordersDone_33 : decode cX8_ordersDone 33 = .ok (.ireturn, 1) := by decide +kernel
theorem dX8_stone_0 : decode cX8_stone 0 = .ok (.iconst 0, 1) := by decide +kernel
theorem dX8_stone_1 : decode cX8_stone 1 = .ok (.istore_n 2, 1) := by decide +kernel
theorem dX8_stone_2 : decode cX8_stone 2 = .ok (.iconst 0, 1) := by decide +kernel
theorem dX8_stone_3 : decode cX8_stone 3 = .ok (.istore_n 3, 1) := by decide +kernel
theorem dX8_stone_4 : decode cX8_stone 4 = .ok (.iload_n 3, 1) := by decide +kernel
theorem dX8_stone_5 : decode cX8_stone 5 = .ok (.aload_n 0, 1) := by decide +kernel
theorem dX8_stone_6 : decode cX8_stone 6 = .ok (.getfield 15, 3) := by decide +kernel
theorem dX8_stone_9 : decode cX8_stone 9 = .ok (.if_icmp .ge 32, 3) := by decide +kernel
theorem dX8_stone_12 : decode cX8_stone 12 = .ok (.aload_n 0, 1) := by decide +kernel
theorem dX8_stone_13 : decode cX8_stone 13 = .ok (.iload_n 3, 1) := by decide +kernel
theorem dX8_stone_14 : decode cX8_stone 14 = .ok (.invokevirtual 186, 3) := by decide +kernel
theorem dX8_stone_17 : decode cX8_stone 17 = .ok (.iload_n 1, 1) := by decide +kernel
theorem dX8_stone_18 : decode cX8_stone 18 = .ok (.if_icmp .ne 17, 3) := by decide +kernel
theorem dX8_stone_21 : decode cX8_stone 21 = .ok (.iload_n 2, 1) := by decide +kernel
theorem dX8_stone_22 : decode cX8_stone 22 = .ok (.aload_n 0, 1) := by decide +kernel
theorem dX8_stone_23 : decode cX8_stone 23 = .ok (.iload_n 3, 1) := by decide +kernel
theorem dX8_stone_24 : decode cX8_stone 24 = .ok (.invokevirtual 115, 3) := by decide +kernel
theorem dX8_stone_27 : decode cX8_stone 27 = .ok (.aload_n 0, 1) := by decide +kernel
theorem dX8_stone_28 : decode cX8_stone 28 = .ok (.iload_n 3, 1) := by decide +kernel
theorem dX8_stone_29 : decode cX8_stone 29 = .ok (.invokevirtual 118, 3) := by decide +kernel
theorem dX8_stone_32 : decode cX8_stone 32 = .ok (.imul, 1) := by decide +kernel
theorem dX8_stone_33 : decode cX8_stone 33 = .ok (.iadd, 1) := by decide +kernel
theorem dX8_stone_34 : decode cX8_stone 34 = .ok (.istore_n 2, 1) := by decide +kernel
theorem dX8_stone_35 : decode cX8_stone 35 = .ok (.iinc 3 1, 3) := by decide +kernel
theorem dX8_stone_38 : decode cX8_stone 38 = .ok (.goto (-34), 3) := by decide +kernel
theorem dX8_stone_41 : decode cX8_stone 41 = .ok (.iload_n 2, 1) := by decide +kernel
theorem dX8_stone_42 : decode cX8_stone 42 = .ok (.ireturn, 1) := by decide +kernel
theorem dX8_unwanted_0 : decode cX8_unwanted 0 = .ok (.iconst 0, 1) := by decide +kernel
theorem dX8_unwanted_1 : decode cX8_unwanted 1 = .ok (.istore_n 1, 1) := by decide +kernel
theorem dX8_unwanted_2 : decode cX8_unwanted 2 = .ok (.iconst 0, 1) := by decide +kernel
theorem dX8_unwanted_3 : decode cX8_unwanted 3 = .ok (.istore_n 2, 1) := by decide +kernel
theorem dX8_unwanted_4 : decode cX8_unwanted 4 = .ok (.iload_n 2, 1) := by decide +kernel
theorem dX8_unwanted_5 : decode cX8_unwanted 5 = .ok (.aload_n 0, 1) := by decide +kernel
theorem dX8_unwanted_6 : decode cX8_unwanted 6 = .ok (.getfield 15, 3) := by decide +kernel
theorem dX8_unwanted_9 : decode cX8_unwanted 9 = .ok (.if_icmp .ge 41, 3) := by decide +kernel
theorem dX8_unwanted_12 : decode cX8_unwanted 12 = .ok (.aload_n 0, 1) := by decide +kernel
theorem dX8_unwanted_13 : decode cX8_unwanted 13 = .ok (.iload_n 2, 1) := by decide +kernel
theorem dX8_unwanted_14 : decode cX8_unwanted 14 = .ok (.invokevirtual 186, 3) := by decide +kernel
theorem dX8_unwanted_17 : decode cX8_unwanted 17 = .ok (.ifCond .eq 27, 3) := by decide +kernel
theorem dX8_unwanted_20 : decode cX8_unwanted 20 = .ok (.aload_n 0, 1) := by decide +kernel
theorem dX8_unwanted_21 : decode cX8_unwanted 21 = .ok (.getfield 56, 3) := by decide +kernel
theorem dX8_unwanted_24 : decode cX8_unwanted 24 = .ok (.aload_n 0, 1) := by decide +kernel
theorem dX8_unwanted_25 : decode cX8_unwanted 25 = .ok (.iload_n 2, 1) := by decide +kernel
theorem dX8_unwanted_26 : decode cX8_unwanted 26 = .ok (.invokevirtual 115, 3) := by decide +kernel
theorem dX8_unwanted_29 : decode cX8_unwanted 29 = .ok (.aload_n 0, 1) := by decide +kernel
theorem dX8_unwanted_30 : decode cX8_unwanted 30 = .ok (.iload_n 2, 1) := by decide +kernel
theorem dX8_unwanted_31 : decode cX8_unwanted 31 = .ok (.invokevirtual 118, 3) := by decide +kernel
theorem dX8_unwanted_34 : decode cX8_unwanted 34 = .ok (.invokevirtual 192, 3) := by decide +kernel
theorem dX8_unwanted_37 : decode cX8_unwanted 37 = .ok (.iconst (-1), 1) := by decide +kernel
theorem dX8_unwanted_38 : decode cX8_unwanted 38 = .ok (.if_icmp .ne 6, 3) := by decide +kernel
theorem dX8_unwanted_41 : decode cX8_unwanted 41 = .ok (.iinc 1 1, 3) := by decide +kernel
theorem dX8_unwanted_44 : decode cX8_unwanted 44 = .ok (.iinc 2 1, 3) := by decide +kernel
theorem dX8_unwanted_47 : decode cX8_unwanted 47 = .ok (.goto (-43), 3) := by decide +kernel
theorem dX8_unwanted_50 : decode cX8_unwanted 50 = .ok (.iload_n 1, 1) := by decide +kernel
theorem dX8_unwanted_51 : decode cX8_unwanted 51 = .ok (.ireturn, 1) := by decide +kernel
theorem dX9_init_0 : decode cX9_init 0 = .ok (.aload_n 0, 1) := by decide +kernel
theorem dX9_init_1 : decode cX9_init 1 = .ok (.invokespecial 3, 3) := by decide +kernel
theorem dX9_init_4 : decode cX9_init 4 = .ok (.aload_n 0, 1) := by decide +kernel
theorem dX9_init_5 : decode cX9_init 5 = .ok (.sipush 600, 3) := by decide +kernel
theorem dX9_init_8 : decode cX9_init 8 = .ok (.newarray .byte, 2) := by decide +kernel
theorem dX9_init_10 : decode cX9_init 10 = .ok (.putfield 9, 3) := by decide +kernel
theorem dX9_init_13 : decode cX9_init 13 = .ok (.aload_n 0, 1) := by decide +kernel
theorem dX9_init_14 : decode cX9_init 14 = .ok (.iconst 0, 1) := by decide +kernel
theorem dX9_init_15 : decode cX9_init 15 = .ok (.putfield 13, 3) := by decide +kernel
theorem dX9_init_18 : decode cX9_init 18 = .ok (.aload_n 0, 1) := by decide +kernel
theorem dX9_init_19 : decode cX9_init 19 = .ok (.iconst (-1), 1) := by decide +kernel
theorem dX9_init_20 : decode cX9_init 20 = .ok (.putfield 17, 3) := by decide +kernel
theorem dX9_init_23 : decode cX9_init 23 = .ok (.aload_n 0, 1) := by decide +kernel
theorem dX9_init_24 : decode cX9_init 24 = .ok (.new 20, 3) := by decide +kernel
theorem dX9_init_27 : decode cX9_init 27 = .ok (.dup, 1) := by decide +kernel
theorem dX9_init_28 : decode cX9_init 28 = .ok (.invokespecial 22, 3) := by decide +kernel
theorem dX9_init_31 : decode cX9_init 31 = .ok (.putfield 23, 3) := by decide +kernel
theorem dX9_init_34 : decode cX9_init 34 = .ok (.aload_n 0, 1) := by decide +kernel
theorem dX9_init_35 : decode cX9_init 35 = .ok (.new 27, 3) := by decide +kernel
theorem dX9_init_38 : decode cX9_init 38 = .ok (.dup, 1) := by decide +kernel
theorem dX9_init_39 : decode cX9_init 39 = .ok (.aload_n 0, 1) := by decide +kernel
theorem dX9_init_40 : decode cX9_init 40 = .ok (.getfield 9, 3) := by decide +kernel
theorem dX9_init_43 : decode cX9_init 43 = .ok (.invokespecial 29, 3) := by decide +kernel
theorem dX9_init_46 : decode cX9_init 46 = .ok (.putfield 32, 3) := by decide +kernel
theorem dX9_init_49 : decode cX9_init 49 = .ok (.aload_n 0, 1) := by decide +kernel
theorem dX9_init_50 : decode cX9_init 50 = .ok (.new 36, 3) := by decide +kernel
theorem dX9_init_53 : decode cX9_init 53 = .ok (.dup, 1) := by decide +kernel
theorem dX9_init_54 : decode cX9_init 54 = .ok (.aload_n 0, 1) := by decide +kernel
theorem dX9_init_55 : decode cX9_init 55 = .ok (.getfield 23, 3) := by decide +kernel
theorem dX9_init_58 : decode cX9_init 58 = .ok (.invokespecial 38, 3) := by decide +kernel
theorem dX9_init_61 : decode cX9_init 61 = .ok (.putfield 41, 3) := by decide +kernel
theorem dX9_init_64 : decode cX9_init 64 = .ok (.aload_n 0, 1) := by decide +kernel
theorem dX9_init_65 : decode cX9_init 65 = .ok (.new 36, 3) := by decide +kernel
theorem dX9_init_68 : decode cX9_init 68 = .ok (.dup, 1) := by decide +kernel
theorem dX9_init_69 : decode cX9_init 69 = .ok (.aload_n 0, 1) := by decide +kernel
theorem dX9_init_70 : decode cX9_init 70 = .ok (.getfield 23, 3) := by decide +kernel
theorem dX9_init_73 : decode cX9_init 73 = .ok (.invokespecial 38, 3) := by decide +kernel
theorem dX9_init_76 : decode cX9_init 76 = .ok (.putfield 45, 3) := by decide +kernel
theorem dX9_init_79 : decode cX9_init 79 = .ok (.aload_n 0, 1) := by decide +kernel
theorem dX9_init_80 : decode cX9_init 80 = .ok (.new 48, 3) := by decide +kernel
theorem dX9_init_83 : decode cX9_init 83 = .ok (.dup, 1) := by decide +kernel
theorem dX9_init_84 : decode cX9_init 84 = .ok (.invokespecial 50, 3) := by decide +kernel
theorem dX9_init_87 : decode cX9_init 87 = .ok (.putfield 51, 3) := by decide +kernel
theorem dX9_init_90 : decode cX9_init 90 = .ok (.aload_n 0, 1) := by decide +kernel
theorem dX9_init_91 : decode cX9_init 91 = .ok (.iconst 3, 1) := by decide +kernel
theorem dX9_init_92 : decode cX9_init 92 = .ok (.anewarray 36, 3) := by decide +kernel
theorem dX9_init_95 : decode cX9_init 95 = .ok (.putfield 55, 3) := by decide +kernel
theorem dX9_init_98 : decode cX9_init 98 = .ok (.aload_n 0, 1) := by decide +kernel
theorem dX9_init_99 : decode cX9_init 99 = .ok (.iconst 3, 1) := by decide +kernel
theorem dX9_init_100 : decode cX9_init 100 = .ok (.anewarray 48, 3) := by decide +kernel
theorem dX9_init_103 : decode cX9_init 103 = .ok (.putfield 59, 3) := by decide +kernel
theorem dX9_init_106 : decode cX9_init 106 = .ok (.aload_n 0, 1) := by decide +kernel
theorem dX9_init_107 : decode cX9_init 107 = .ok (.iconst 0, 1) := by decide +kernel
theorem dX9_init_108 : decode cX9_init 108 = .ok (.putfield 63, 3) := by decide +kernel
theorem dX9_init_111 : decode cX9_init 111 = .ok (.aload_n 0, 1) := by decide +kernel
theorem dX9_init_112 : decode cX9_init 112 = .ok (.new 66, 3) := by decide +kernel
theorem dX9_init_115 : decode cX9_init 115 = .ok (.dup, 1) := by decide +kernel
theorem dX9_init_116 : decode cX9_init 116 = .ok (.aload_n 0, 1) := by decide +kernel
theorem dX9_init_117 : decode cX9_init 117 = .ok (.getfield 23, 3) := by decide +kernel
theorem dX9_init_120 : decode cX9_init 120 = .ok (.invokespecial 68, 3) := by decide +kernel
theorem dX9_init_123 : decode cX9_init 123 = .ok (.putfield 69, 3) := by decide +kernel
theorem dX9_init_126 : decode cX9_init 126 = .ok (.aload_n 0, 1) := by decide +kernel
theorem dX9_init_127 : decode cX9_init 127 = .ok (.new 73, 3) := by decide +kernel
theorem dX9_init_130 : decode cX9_init 130 = .ok (.dup, 1) := by decide +kernel
theorem dX9_init_131 : decode cX9_init 131 = .ok (.invokespecial 75, 3) := by decide +kernel
theorem dX9_init_134 : decode cX9_init 134 = .ok (.putfield 76, 3) := by decide +kernel
theorem dX9_init_137 : decode cX9_init 137 = .ok (.aload_n 0, 1) := by decide +kernel
theorem dX9_init_138 : decode cX9_init 138 = .ok (.iconst 0, 1) := by decide +kernel
theorem dX9_init_139 : decode cX9_init 139 = .ok (.putfield 80, 3) := by decide +kernel
theorem dX9_init_142 : decode cX9_init 142 = .ok (.aload_n 0, 1) := by decide +kernel
theorem dX9_init_143 : decode cX9_init 143 = .ok (.iconst 0, 1) := by decide +kernel
theorem dX9_init_144 : decode cX9_init 144 = .ok (.putfield 83, 3) := by decide +kernel
theorem dX9_init_147 : decode cX9_init 147 = .ok (.aload_n 0, 1) := by decide +kernel
theorem dX9_init_148 : decode cX9_init 148 = .ok (.iconst 0, 1) := by decide +kernel
theorem dX9_init_149 : decode cX9_init 149 = .ok (.putfield 87, 3) := by decide +kernel
theorem dX9_init_152 : decode cX9_init 152 = .ok (.aload_n 0, 1) := by decide +kernel
theorem dX9_init_153 : decode cX9_init 153 = .ok (.lconst 0, 1) := by decide +kernel
theorem dX9_init_154 : decode cX9_init 154 = .ok (.putfield 90, 3) := by decide +kernel
theorem dX9_init_157 : decode cX9_init 157 = .ok (.iconst 0, 1) := by decide +kernel
theorem dX9_init_158 : decode cX9_init 158 = .ok (.istore_n 1, 1) := by decide +kernel
theorem dX9_init_159 : decode cX9_init 159 = .ok (.iload_n 1, 1) := by decide +kernel
theorem dX9_init_160 : decode cX9_init 160 = .ok (.iconst 3, 1) := by decide +kernel
theorem dX9_init_161 : decode cX9_init 161 = .ok (.if_icmp .ge 39, 3) := by decide +kernel
theorem dX9_init_164 : decode cX9_init 164 = .ok (.aload_n 0, 1) := by decide +kernel
theorem dX9_init_165 : decode cX9_init 165 = .ok (.getfield 55, 3) := by decide +kernel
theorem dX9_init_168 : decode cX9_init 168 = .ok (.iload_n 1, 1) := by decide +kernel
theorem dX9_init_169 : decode cX9_init 169 = .ok (.new 36, 3) := by decide +kernel
theorem dX9_init_172 : decode cX9_init 172 = .ok (.dup, 1) := by decide +kernel
theorem dX9_init_173 : decode cX9_init 173 = .ok (.aload_n 0, 1) := by decide +kernel
theorem dX9_init_174 : decode cX9_init 174 = .ok (.getfield 23, 3) := by decide +kernel
theorem dX9_init_177 : decode cX9_init 177 = .ok (.invokespecial 38, 3) := by decide +kernel
theorem dX9_init_180 : decode cX9_init 180 = .ok (.aastore, 1) := by decide +kernel
theorem dX9_init_181 : decode cX9_init 181 = .ok (.aload_n 0, 1) := by decide +kernel
theorem dX9_init_182 : decode cX9_init 182 = .ok (.getfield 59, 3) := by decide +kernel
theorem dX9_init_185 : decode cX9_init 185 = .ok (.iload_n 1, 1) := by decide +kernel
theorem dX9_init_186 : decode cX9_init 186 = .ok (.new 48, 3) := by decide +kernel
theorem dX9_init_189 : decode cX9_init 189 = .ok (.dup, 1) := by decide +kernel
theorem dX9_init_190 : decode cX9_init 190 = .ok (.invokespecial 50, 3) := by decide +kernel
theorem dX9_init_193 : decode cX9_init 193 = .ok (.aastore, 1) := by decide +kernel
theorem dX9_init_194 : decode cX9_init 194 = .ok (.iinc 1 1, 3) := by decide +kernel
theorem dX9_init_197 : decode cX9_init 197 = .ok (.goto (-38), 3) := by decide +kernel
theorem dX9_init_200 : decode cX9_init 200 = .ok (.return_, 1) := by decide +kernel
theorem dX9_feed_0 : decode cX9_feed 0 = .ok (.aload_n 0, 1) := by decide +kernel
theorem dX9_feed_1 : decode cX9_feed 1 = .ok (.getfield 13, 3) := by decide +kernel
theorem dX9_feed_4 : decode cX9_feed 4 = .ok (.bipush 20, 2) := by decide +kernel
theorem dX9_feed_6 : decode cX9_feed 6 = .ok (.iadd, 1) := by decide +kernel
theorem dX9_feed_7 : decode cX9_feed 7 = .ok (.sipush 600, 3) := by decide +kernel
theorem dX9_feed_10 : decode cX9_feed 10 = .ok (.if_icmp .le 5, 3) := by decide +kernel
theorem dX9_feed_13 : decode cX9_feed 13 = .ok (.iconst (-1), 1) := by decide +kernel
theorem dX9_feed_14 : decode cX9_feed 14 = .ok (.ireturn, 1) := by decide +kernel
theorem dX9_feed_15 : decode cX9_feed 15 = .ok (.aload_n 0, 1) := by decide +kernel
theorem dX9_feed_16 : decode cX9_feed 16 = .ok (.iload_n 1, 1) := by decide +kernel
theorem dX9_feed_17 : decode cX9_feed 17 = .ok (.invokevirtual 94, 3) := by decide +kernel
theorem dX9_feed_20 : decode cX9_feed 20 = .ok (.aload_n 0, 1) := by decide +kernel
theorem dX9_feed_21 : decode cX9_feed 21 = .ok (.iload_n 2, 1) := by decide +kernel
theorem dX9_feed_22 : decode cX9_feed 22 = .ok (.invokevirtual 94, 3) := by decide +kernel
theorem dX9_feed_25 : decode cX9_feed 25 = .ok (.aload_n 0, 1) := by decide +kernel
theorem dX9_feed_26 : decode cX9_feed 26 = .ok (.iload_n 3, 1) := by decide +kernel
theorem dX9_feed_27 : decode cX9_feed 27 = .ok (.invokevirtual 94, 3) := by decide +kernel
theorem dX9_feed_30 : decode cX9_feed 30 = .ok (.aload_n 0, 1) := by decide +kernel
theorem dX9_feed_31 : decode cX9_feed 31 = .ok (.iload 4, 2) := by decide +kernel
theorem dX9_feed_33 : decode cX9_feed 33 = .ok (.invokevirtual 94, 3) := by decide +kernel
theorem dX9_feed_36 : decode cX9_feed 36 = .ok (.aload_n 0, 1) := by decide +kernel
theorem dX9_feed_37 : decode cX9_feed 37 = .ok (.iload 5, 2) := by decide +kernel
theorem dX9_feed_39 : decode cX9_feed 39 = .ok (.invokevirtual 94, 3) := by decide +kernel
theorem dX9_feed_42 : decode cX9_feed 42 = .ok (.aload_n 0, 1) := by decide +kernel
theorem dX9_feed_43 : decode cX9_feed 43 = .ok (.getfield 13, 3) := by decide +kernel
theorem dX9_feed_46 : decode cX9_feed 46 = .ok (.ireturn, 1) := by decide +kernel
theorem dX9_quarry_0 : decode cX9_quarry 0 = .ok (.iload_n 1, 1) := by decide +kernel
theorem dX9_quarry_1 : decode cX9_quarry 1 = .ok (.ifCond .lt 11, 3) := by decide +kernel
theorem dX9_quarry_4 : decode cX9_quarry 4 = .ok (.iload_n 1, 1) := by decide +kernel
theorem dX9_quarry_5 : decode cX9_quarry 5 = .ok (.aload_n 0, 1) := by decide +kernel
theorem dX9_quarry_6 : decode cX9_quarry 6 = .ok (.getfield 13, 3) := by decide +kernel
theorem dX9_quarry_9 : decode cX9_quarry 9 = .ok (.if_icmp .le 13, 3) := by decide +kernel
theorem dX9_quarry_12 : decode cX9_quarry 12 = .ok (.new 98, 3) := by decide +kernel
theorem dX9_quarry_15 : decode cX9_quarry 15 = .ok (.dup, 1) := by decide +kernel
theorem dX9_quarry_16 : decode cX9_quarry 16 = .ok (.ldc 100, 2) := by decide +kernel
theorem dX9_quarry_18 : decode cX9_quarry 18 = .ok (.invokespecial 102, 3) := by decide +kernel
theorem dX9_quarry_21 : decode cX9_quarry 21 = .ok (.athrow, 1) := by decide +kernel
theorem dX9_quarry_22 : decode cX9_quarry 22 = .ok (.aload_n 0, 1) := by decide +kernel
theorem dX9_quarry_23 : decode cX9_quarry 23 = .ok (.iconst 0, 1) := by decide +kernel
theorem dX9_quarry_24 : decode cX9_quarry 24 = .ok (.putfield 13, 3) := by decide +kernel
theorem dX9_quarry_27 : decode cX9_quarry 27 = .ok (.aload_n 0, 1) := by decide +kernel
theorem dX9_quarry_28 : decode cX9_quarry 28 = .ok (.getfield 32, 3) := by decide +kernel
theorem dX9_quarry_31 : decode cX9_quarry 31 = .ok (.iload_n 1, 1) := by decide +kernel
theorem dX9_quarry_32 : decode cX9_quarry 32 = .ok (.invokevirtual 105, 3) := by decide +kernel
theorem dX9_quarry_35 : decode cX9_quarry 35 = .ok (.aload_n 0, 1) := by decide +kernel
theorem dX9_quarry_36 : decode cX9_quarry 36 = .ok (.aload_n 0, 1) := by decide +kernel
theorem dX9_quarry_37 : decode cX9_quarry 37 = .ok (.getfield 32, 3) := by decide +kernel
theorem dX9_quarry_40 : decode cX9_quarry 40 = .ok (.getfield 108, 3) := by decide +kernel
theorem dX9_quarry_43 : decode cX9_quarry 43 = .ok (.putfield 17, 3) := by decide +kernel
theorem dX9_quarry_46 : decode cX9_quarry 46 = .ok (.aload_n 0, 1) := by decide +kernel
theorem dX9_quarry_47 : decode cX9_quarry 47 = .ok (.getfield 32, 3) := by decide +kernel
theorem dX9_quarry_50 : decode cX9_quarry 50 = .ok (.getfield 111, 3) := by decide +kernel
theorem dX9_quarry_53 : decode cX9_quarry 53 = .ok (.ifCond .eq 14, 3) := by decide +kernel
theorem dX9_quarry_56 : decode cX9_quarry 56 = .ok (.aload_n 0, 1) := by decide +kernel
theorem dX9_quarry_57 : decode cX9_quarry 57 = .ok (.getfield 32, 3) := by decide +kernel
theorem dX9_quarry_60 : decode cX9_quarry 60 = .ok (.getfield 111, 3) := by decide +kernel
theorem dX9_quarry_63 : decode cX9_quarry 63 = .ok (.bipush 10, 2) := by decide +kernel
theorem dX9_quarry_65 : decode cX9_quarry 65 = .ok (.isub, 1) := by decide +kernel
theorem dX9_quarry_66 : decode cX9_quarry 66 = .ok (.ireturn, 1) := by decide +kernel
theorem dX9_quarry_67 : decode cX9_quarry 67 = .ok (.aload_n 0, 1) := by decide +kernel
theorem dX9_quarry_68 : decode cX9_quarry 68 = .ok (.getfield 23, 3) := by decide +kernel
theorem dX9_quarry_71 : decode cX9_quarry 71 = .ok (.aload_n 0, 1) := by decide +kernel
theorem dX9_quarry_72 : decode cX9_quarry 72 = .ok (.getfield 32, 3) := by decide +kernel
theorem dX9_quarry_75 : decode cX9_quarry 75 = .ok (.getfield 114, 3) := by decide +kernel
theorem dX9_quarry_78 : decode cX9_quarry 78 = .ok (.invokevirtual 117, 3) := by decide +kernel
theorem dX9_quarry_81 : decode cX9_quarry 81 = .ok (.aload_n 0, 1) := by decide +kernel
theorem dX9_quarry_82 : decode cX9_quarry 82 = .ok (.getfield 41, 3) := by decide +kernel
theorem dX9_quarry_85 : decode cX9_quarry 85 = .ok (.invokevirtual 120, 3) := by decide +kernel
theorem dX9_quarry_88 : decode cX9_quarry 88 = .ok (.aload_n 0, 1) := by decide +kernel
theorem dX9_quarry_89 : decode cX9_quarry 89 = .ok (.getfield 51, 3) := by decide +kernel
theorem dX9_quarry_92 : decode cX9_quarry 92 = .ok (.invokevirtual 123, 3) := by decide +kernel
theorem dX9_quarry_95 : decode cX9_quarry 95 = .ok (.aload_n 0, 1) := by decide +kernel
theorem dX9_quarry_96 : decode cX9_quarry 96 = .ok (.iconst 0, 1) := by decide +kernel
theorem dX9_quarry_97 : decode cX9_quarry 97 = .ok (.putfield 63, 3) := by decide +kernel
theorem dX9_quarry_100 : decode cX9_quarry 100 = .ok (.aload_n 0, 1) := by decide +kernel
theorem dX9_quarry_101 : decode cX9_quarry 101 = .ok (.iconst 0, 1) := by decide +kernel
theorem dX9_quarry_102 : decode cX9_quarry 102 = .ok (.putfield 83, 3) := by decide +kernel
theorem dX9_quarry_105 : decode cX9_quarry 105 = .ok (.aload_n 0, 1) := by decide +kernel
theorem dX9_quarry_106 : decode cX9_quarry 106 = .ok (.getfield 23, 3) := by decide +kernel
theorem dX9_quarry_109 : decode cX9_quarry 109 = .ok (.getfield 124, 3) := by decide +kernel
theorem dX9_quarry_112 : decode cX9_quarry 112 = .ok (.ireturn, 1) := by decide +kernel
theorem dX9_fault_0 : decode cX9_fault 0 = .ok (.aload_n 0, 1) := by decide +kernel
theorem dX9_fault_1 : decode cX9_fault 1 = .ok (.getfield 17, 3) := by decide +kernel
theorem dX9_fault_4 : decode cX9_fault 4 = .ok (.ireturn, 1) := by decide +kernel
theorem dX9_told_0 : decode cX9_told 0 = .ok (.iload_n 1, 1) := by decide +kernel
theorem dX9_told_1 : decode cX9_told 1 = .ok (.tableswitch 111 0 7 #[47, 55, 63, 71, 79, 87, 95, 103], 47) := by decide +kernel
theorem dX9_told_48 : decode cX9_told 48 = .ok (.aload_n 0, 1) := by decide +kernel
theorem dX9_told_49 : decode cX9_told 49 = .ok (.getfield 23, 3) := by decide +kernel
theorem dX9_told_52 : decode cX9_told 52 = .ok (.getfield 124, 3) := by decide +kernel
theorem dX9_told_55 : decode cX9_told 55 = .ok (.ireturn, 1) := by decide +kernel
theorem dX9_told_56 : decode cX9_told 56 = .ok (.aload_n 0, 1) := by decide +kernel
theorem dX9_told_57 : decode cX9_told 57 = .ok (.getfield 23, 3) := by decide +kernel
theorem dX9_told_60 : decode cX9_told 60 = .ok (.getfield 127, 3) := by decide +kernel
theorem dX9_told_63 : decode cX9_told 63 = .ok (.ireturn, 1) := by decide +kernel
theorem dX9_told_64 : decode cX9_told 64 = .ok (.aload_n 0, 1) := by decide +kernel
theorem dX9_told_65 : decode cX9_told 65 = .ok (.getfield 23, 3) := by decide +kernel
theorem dX9_told_68 : decode cX9_told 68 = .ok (.getfield 130, 3) := by decide +kernel
theorem dX9_told_71 : decode cX9_told 71 = .ok (.ireturn, 1) := by decide +kernel
theorem dX9_told_72 : decode cX9_told 72 = .ok (.aload_n 0, 1) := by decide +kernel
theorem dX9_told_73 : decode cX9_told 73 = .ok (.getfield 23, 3) := by decide +kernel
theorem dX9_told_76 : decode cX9_told 76 = .ok (.getfield 133, 3) := by decide +kernel
theorem dX9_told_79 : decode cX9_told 79 = .ok (.ireturn, 1) := by decide +kernel
theorem dX9_told_80 : decode cX9_told 80 = .ok (.aload_n 0, 1) := by decide +kernel
theorem dX9_told_81 : decode cX9_told 81 = .ok (.getfield 23, 3) := by decide +kernel
theorem dX9_told_84 : decode cX9_told 84 = .ok (.getfield 136, 3) := by decide +kernel
theorem dX9_told_87 : decode cX9_told 87 = .ok (.ireturn, 1) := by decide +kernel
theorem dX9_told_88 : decode cX9_told 88 = .ok (.aload_n 0, 1) := by decide +kernel
theorem dX9_told_89 : decode cX9_told 89 = .ok (.getfield 23, 3) := by decide +kernel
theorem dX9_told_92 : decode cX9_told 92 = .ok (.getfield 139, 3) := by decide +kernel
theorem dX9_told_95 : decode cX9_told 95 = .ok (.ireturn, 1) := by decide +kernel
theorem dX9_told_96 : decode cX9_told 96 = .ok (.aload_n 0, 1) := by decide +kernel
theorem dX9_told_97 : decode cX9_told 97 = .ok (.getfield 41, 3) := by decide +kernel
theorem dX9_told_100 : decode cX9_told 100 = .ok (.getfield 142, 3) := by decide +kernel
theorem dX9_told_103 : decode cX9_told 103 = .ok (.ireturn, 1) := by decide +kernel
theorem dX9_told_104 : decode cX9_told 104 = .ok (.aload_n 0, 1) := by decide +kernel
theorem dX9_told_105 : decode cX9_told 105 = .ok (.getfield 41, 3) := by decide +kernel
theorem dX9_told_108 : decode cX9_told 108 = .ok (.getfield 145, 3) := by decide +kernel
theorem dX9_told_111 : decode cX9_told 111 = .ok (.ireturn, 1) := by decide +kernel
theorem dX9_told_112 : decode cX9_told 112 = .ok (.new 98, 3) := by decide +kernel
theorem dX9_told_115 : decode cX9_told 115 = .ok (.dup, 1) := by decide +kernel
theorem dX9_told_116 : decode cX9_told 116 = .ok (.ldc 148, 2) := by decide +kernel
theorem dX9_told_118 : decode cX9_told 118 = .ok (.invokespecial 102, 3) := by decide +kernel
theorem dX9_told_121 : decode cX9_told 121 = .ok (.athrow, 1) := by decide +kernel
theorem dX9_slot_0 : decode cX9_slot 0 = .ok (.aload_n 0, 1) := by decide +kernel
theorem dX9_slot_1 : decode cX9_slot 1 = .ok (.iload_n 1, 1) := by decide +kernel
theorem dX9_slot_2 : decode cX9_slot 2 = .ok (.invokevirtual 150, 3) := by decide +kernel
theorem dX9_slot_5 : decode cX9_slot 5 = .ok (.iload_n 2, 1) := by decide +kernel
theorem dX9_slot_6 : decode cX9_slot 6 = .ok (.iconst 0, 1) := by decide +kernel
theorem dX9_slot_7 : decode cX9_slot 7 = .ok (.bipush 7, 2) := by decide +kernel
theorem dX9_slot_9 : decode cX9_slot 9 = .ok (.invokestatic 153, 3) := by decide +kernel
theorem dX9_slot_12 : decode cX9_slot 12 = .ok (.iload_n 2, 1) := by decide +kernel
theorem dX9_slot_13 : decode cX9_slot 13 = .ok (.tableswitch 76 4 7 #[31, 41, 50, 67], 31) := by decide +kernel
theorem dX9_slot_44 : decode cX9_slot 44 = .ok (.aload_n 0, 1) := by decide +kernel
theorem dX9_slot_45 : decode cX9_slot 45 = .ok (.getfield 41, 3) := by decide +kernel
theorem dX9_slot_48 : decode cX9_slot 48 = .ok (.getfield 157, 3) := by decide +kernel
theorem dX9_slot_51 : decode cX9_slot 51 = .ok (.iload_n 1, 1) := by decide +kernel
theorem dX9_slot_52 : decode cX9_slot 52 = .ok (.iaload, 1) := by decide +kernel
theorem dX9_slot_53 : decode cX9_slot 53 = .ok (.ireturn, 1) := by decide +kernel
theorem dX9_slot_54 : decode cX9_slot 54 = .ok (.aload_n 0, 1) := by decide +kernel
theorem dX9_slot_55 : decode cX9_slot 55 = .ok (.getfield 41, 3) := by decide +kernel
theorem dX9_slot_58 : decode cX9_slot 58 = .ok (.iload_n 1, 1) := by decide +kernel
theorem dX9_slot_59 : decode cX9_slot 59 = .ok (.invokevirtual 161, 3) := by decide +kernel
theorem dX9_slot_62 : decode cX9_slot 62 = .ok (.ireturn, 1) := by decide +kernel
theorem dX9_slot_63 : decode cX9_slot 63 = .ok (.aload_n 0, 1) := by decide +kernel
theorem dX9_slot_64 : decode cX9_slot 64 = .ok (.getfield 41, 3) := by decide +kernel
theorem dX9_slot_67 : decode cX9_slot 67 = .ok (.iload_n 1, 1) := by decide +kernel
theorem dX9_slot_68 : decode cX9_slot 68 = .ok (.invokevirtual 165, 3) := by decide +kernel
theorem dX9_slot_71 : decode cX9_slot 71 = .ok (.ifCond .eq 7, 3) := by decide +kernel
theorem dX9_slot_74 : decode cX9_slot 74 = .ok (.iconst 1, 1) := by decide +kernel
theorem dX9_slot_75 : decode cX9_slot 75 = .ok (.goto 4, 3) := by decide +kernel
theorem dX9_slot_78 : decode cX9_slot 78 = .ok (.iconst 0, 1) := by decide +kernel
theorem dX9_slot_79 : decode cX9_slot 79 = .ok (.ireturn, 1) := by decide +kernel
theorem dX9_slot_80 : decode cX9_slot 80 = .ok (.aload_n 0, 1) := by decide +kernel
theorem dX9_slot_81 : decode cX9_slot 81 = .ok (.getfield 41, 3) := by decide +kernel
theorem dX9_slot_84 : decode cX9_slot 84 = .ok (.iload_n 1, 1) := by decide +kernel
theorem dX9_slot_85 : decode cX9_slot 85 = .ok (.invokevirtual 169, 3) := by decide +kernel
theorem dX9_slot_88 : decode cX9_slot 88 = .ok (.ireturn, 1) := by decide +kernel
theorem dX9_slot_89 : decode cX9_slot 89 = .ok (.aload_n 0, 1) := by decide +kernel
theorem dX9_slot_90 : decode cX9_slot 90 = .ok (.getfield 23, 3) := by decide +kernel
theorem dX9_slot_93 : decode cX9_slot 93 = .ok (.getfield 172, 3) := by decide +kernel
theorem dX9_slot_96 : decode cX9_slot 96 = .ok (.iload_n 1, 1) := by decide +kernel
theorem dX9_slot_97 : decode cX9_slot 97 = .ok (.iconst 5, 1) := by decide +kernel
theorem dX9_slot_98 : decode cX9_slot 98 = .ok (.imul, 1) := by decide +kernel
theorem dX9_slot_99 : decode cX9_slot 99 = .ok (.iload_n 2, 1) := by decide +kernel
theorem dX9_slot_100 : decode cX9_slot 100 = .ok (.iadd, 1) := by decide +kernel
theorem dX9_slot_101 : decode cX9_slot 101 = .ok (.iaload, 1) := by decide +kernel
theorem dX9_slot_102 : decode cX9_slot 102 = .ok (.ireturn, 1) := by decide +kernel
theorem dX9_order_0 : decode cX9_order 0 = .ok (.aload_n 0, 1) := by decide +kernel
theorem dX9_order_1 : decode cX9_order 1 = .ok (.iload_n 1, 1) := by decide +kernel
theorem dX9_order_2 : decode cX9_order 2 = .ok (.invokevirtual 175, 3) := by decide +kernel
theorem dX9_order_5 : decode cX9_order 5 = .ok (.iload_n 2, 1) := by decide +kernel
theorem dX9_order_6 : decode cX9_order 6 = .ok (.iconst 0, 1) := by decide +kernel
theorem dX9_order_7 : decode cX9_order 7 = .ok (.iconst 5, 1) := by decide +kernel
theorem dX9_order_8 : decode cX9_order 8 = .ok (.invokestatic 153, 3) := by decide +kernel
theorem dX9_order_11 : decode cX9_order 11 = .ok (.iload_n 2, 1) := by decide +kernel
theorem dX9_order_12 : decode cX9_order 12 = .ok (.iconst 5, 1) := by decide +kernel
theorem dX9_order_13 : decode cX9_order 13 = .ok (.if_icmp .ne 15, 3) := by decide +kernel
theorem dX9_order_16 : decode cX9_order 16 = .ok (.aload_n 0, 1) := by decide +kernel
theorem dX9_order_17 : decode cX9_order 17 = .ok (.getfield 41, 3) := by decide +kernel
theorem dX9_order_20 : decode cX9_order 20 = .ok (.getfield 178, 3) := by decide +kernel
theorem dX9_order_23 : decode cX9_order 23 = .ok (.iload_n 1, 1) := by decide +kernel
theorem dX9_order_24 : decode cX9_order 24 = .ok (.iaload, 1) := by decide +kernel
theorem dX9_order_25 : decode cX9_order 25 = .ok (.goto 16, 3) := by decide +kernel
theorem dX9_order_28 : decode cX9_order 28 = .ok (.aload_n 0, 1) := by decide +kernel
theorem dX9_order_29 : decode cX9_order 29 = .ok (.getfield 23, 3) := by decide +kernel
theorem dX9_order_32 : decode cX9_order 32 = .ok (.getfield 181, 3) := by decide +kernel
theorem dX9_order_35 : decode cX9_order 35 = .ok (.iload_n 1, 1) := by decide +kernel
theorem dX9_order_36 : decode cX9_order 36 = .ok (.iconst 5, 1) := by decide +kernel
theorem dX9_order_37 : decode cX9_order 37 = .ok (.imul, 1) := by decide +kernel
theorem dX9_order_38 : decode cX9_order 38 = .ok (.iload_n 2, 1) := by decide +kernel
theorem dX9_order_39 : decode cX9_order 39 = .ok (.iadd, 1) := by decide +kernel
theorem dX9_order_40 : decode cX9_order 40 = .ok (.iaload, 1) := by decide +kernel
theorem dX9_order_41 : decode cX9_order 41 = .ok (.ireturn, 1) := by decide +kernel
theorem dX9_piece_0 : decode cX9_piece 0 = .ok (.iload_n 1, 1) := by decide +kernel
theorem dX9_piece_1 : decode cX9_piece 1 = .ok (.ifCond .lt 14, 3) := by decide +kernel
theorem dX9_piece_4 : decode cX9_piece 4 = .ok (.iload_n 1, 1) := by decide +kernel
theorem dX9_piece_5 : decode cX9_piece 5 = .ok (.aload_n 0, 1) := by decide +kernel
theorem dX9_piece_6 : decode cX9_piece 6 = .ok (.getfield 41, 3) := by decide +kernel
theorem dX9_piece_9 : decode cX9_piece 9 = .ok (.getfield 145, 3) := by decide +kernel
theorem dX9_piece_12 : decode cX9_piece 12 = .ok (.if_icmp .lt 13, 3) := by decide +kernel
theorem dX9_piece_15 : decode cX9_piece 15 = .ok (.new 184, 3) := by decide +kernel
theorem dX9_piece_18 : decode cX9_piece 18 = .ok (.dup, 1) := by decide +kernel
theorem dX9_piece_19 : decode cX9_piece 19 = .ok (.ldc 186, 2) := by decide +kernel
theorem dX9_piece_21 : decode cX9_piece 21 = .ok (.invokespecial 188, 3) := by decide +kernel
theorem dX9_piece_24 : decode cX9_piece 24 = .ok (.athrow, 1) := by decide +kernel
theorem dX9_piece_25 : decode cX9_piece 25 = .ok (.iload_n 2, 1) := by decide +kernel
theorem dX9_piece_26 : decode cX9_piece 26 = .ok (.iconst 0, 1) := by decide +kernel
theorem dX9_piece_27 : decode cX9_piece 27 = .ok (.iconst 5, 1) := by decide +kernel
theorem dX9_piece_28 : decode cX9_piece 28 = .ok (.invokestatic 153, 3) := by decide +kernel
theorem dX9_piece_31 : decode cX9_piece 31 = .ok (.aload_n 0, 1) := by decide +kernel
theorem dX9_piece_32 : decode cX9_piece 32 = .ok (.getfield 41, 3) := by decide +kernel
theorem dX9_piece_35 : decode cX9_piece 35 = .ok (.getfield 189, 3) := by decide +kernel
theorem dX9_piece_38 : decode cX9_piece 38 = .ok (.iload_n 1, 1) := by decide +kernel
theorem dX9_piece_39 : decode cX9_piece 39 = .ok (.bipush 6, 2) := by decide +kernel
theorem dX9_piece_41 : decode cX9_piece 41 = .ok (.imul, 1) := by decide +kernel
theorem dX9_piece_42 : decode cX9_piece 42 = .ok (.iload_n 2, 1) := by decide +kernel
theorem dX9_piece_43 : decode cX9_piece 43 = .ok (.iadd, 1) := by decide +kernel
theorem dX9_piece_44 : decode cX9_piece 44 = .ok (.iaload, 1) := by decide +kernel
theorem dX9_piece_45 : decode cX9_piece 45 = .ok (.ireturn, 1) := by decide +kernel
theorem dX9_odds_0 : decode cX9_odds 0 = .ok (.iload_n 1, 1) := by decide +kernel
theorem dX9_odds_1 : decode cX9_odds 1 = .ok (.iconst 0, 1) := by decide +kernel
theorem dX9_odds_2 : decode cX9_odds 2 = .ok (.bipush 29, 2) := by decide +kernel
theorem dX9_odds_4 : decode cX9_odds 4 = .ok (.invokestatic 153, 3) := by decide +kernel
theorem dX9_odds_7 : decode cX9_odds 7 = .ok (.iload_n 2, 1) := by decide +kernel
theorem dX9_odds_8 : decode cX9_odds 8 = .ok (.iconst 1, 1) := by decide +kernel
theorem dX9_odds_9 : decode cX9_odds 9 = .ok (.bipush 9, 2) := by decide +kernel
theorem dX9_odds_11 : decode cX9_odds 11 = .ok (.invokestatic 153, 3) := by decide +kernel
theorem dX9_odds_14 : decode cX9_odds 14 = .ok (.iconst 0, 1) := by decide +kernel
theorem dX9_odds_15 : decode cX9_odds 15 = .ok (.istore_n 3, 1) := by decide +kernel
theorem dX9_odds_16 : decode cX9_odds 16 = .ok (.iload_n 2, 1) := by decide +kernel
theorem dX9_odds_17 : decode cX9_odds 17 = .ok (.istore 4, 2) := by decide +kernel
theorem dX9_odds_19 : decode cX9_odds 19 = .ok (.iload 4, 2) := by decide +kernel
theorem dX9_odds_21 : decode cX9_odds 21 = .ok (.bipush 10, 2) := by decide +kernel
theorem dX9_odds_23 : decode cX9_odds 23 = .ok (.if_icmp .ge 27, 3) := by decide +kernel
theorem dX9_odds_26 : decode cX9_odds 26 = .ok (.iload_n 3, 1) := by decide +kernel
theorem dX9_odds_27 : decode cX9_odds 27 = .ok (.aload_n 0, 1) := by decide +kernel
theorem dX9_odds_28 : decode cX9_odds 28 = .ok (.getfield 23, 3) := by decide +kernel
theorem dX9_odds_31 : decode cX9_odds 31 = .ok (.getfield 192, 3) := by decide +kernel
theorem dX9_odds_34 : decode cX9_odds 34 = .ok (.iload_n 1, 1) := by decide +kernel
theorem dX9_odds_35 : decode cX9_odds 35 = .ok (.bipush 10, 2) := by decide +kernel
theorem dX9_odds_37 : decode cX9_odds 37 = .ok (.imul, 1) := by decide +kernel
theorem dX9_odds_38 : decode cX9_odds 38 = .ok (.iload 4, 2) := by decide +kernel
theorem dX9_odds_40 : decode cX9_odds 40 = .ok (.iadd, 1) := by decide +kernel
theorem dX9_odds_41 : decode cX9_odds 41 = .ok (.iaload, 1) := by decide +kernel
theorem dX9_odds_42 : decode cX9_odds 42 = .ok (.iadd, 1) := by decide +kernel
theorem dX9_odds_43 : decode cX9_odds 43 = .ok (.istore_n 3, 1) := by decide +kernel
theorem dX9_odds_44 : decode cX9_odds 44 = .ok (.iinc 4 1, 3) := by decide +kernel
theorem dX9_odds_47 : decode cX9_odds 47 = .ok (.goto (-28), 3) := by decide +kernel
theorem dX9_odds_50 : decode cX9_odds 50 = .ok (.iload_n 3, 1) := by decide +kernel
theorem dX9_odds_51 : decode cX9_odds 51 = .ok (.ireturn, 1) := by decide +kernel
theorem dX9_seed_0 : decode cX9_seed 0 = .ok (.aload_n 0, 1) := by decide +kernel
theorem dX9_seed_1 : decode cX9_seed 1 = .ok (.getfield 41, 3) := by decide +kernel
theorem dX9_seed_4 : decode cX9_seed 4 = .ok (.getfield 195, 3) := by decide +kernel
theorem dX9_seed_7 : decode cX9_seed 7 = .ok (.getfield 199, 3) := by decide +kernel
theorem dX9_seed_10 : decode cX9_seed 10 = .ok (.istore_n 2, 1) := by decide +kernel
theorem dX9_seed_11 : decode cX9_seed 11 = .ok (.aload_n 0, 1) := by decide +kernel
theorem dX9_seed_12 : decode cX9_seed 12 = .ok (.getfield 41, 3) := by decide +kernel
theorem dX9_seed_15 : decode cX9_seed 15 = .ok (.getfield 195, 3) := by decide +kernel
theorem dX9_seed_18 : decode cX9_seed 18 = .ok (.iload_n 1, 1) := by decide +kernel
theorem dX9_seed_19 : decode cX9_seed 19 = .ok (.putfield 199, 3) := by decide +kernel
theorem dX9_seed_22 : decode cX9_seed 22 = .ok (.iload_n 2, 1) := by decide +kernel
theorem dX9_seed_23 : decode cX9_seed 23 = .ok (.ireturn, 1) := by decide +kernel
theorem dX9_night_0 : decode cX9_night 0 = .ok (.aload_n 0, 1) := by decide +kernel
theorem dX9_night_1 : decode cX9_night 1 = .ok (.iload_n 1, 1) := by decide +kernel
theorem dX9_night_2 : decode cX9_night 2 = .ok (.invokevirtual 204, 3) := by decide +kernel
theorem dX9_night_5 : decode cX9_night 5 = .ok (.iload_n 2, 1) := by decide +kernel
theorem dX9_night_6 : decode cX9_night 6 = .ok (.iconst (-1), 1) := by decide +kernel
theorem dX9_night_7 : decode cX9_night 7 = .ok (.bipush 9, 2) := by decide +kernel
theorem dX9_night_9 : decode cX9_night 9 = .ok (.invokestatic 153, 3) := by decide +kernel
theorem dX9_night_12 : decode cX9_night 12 = .ok (.aload_n 0, 1) := by decide +kernel
theorem dX9_night_13 : decode cX9_night 13 = .ok (.invokevirtual 207, 3) := by decide +kernel
theorem dX9_night_16 : decode cX9_night 16 = .ok (.aload_n 0, 1) := by decide +kernel
theorem dX9_night_17 : decode cX9_night 17 = .ok (.iconst 0, 1) := by decide +kernel
theorem dX9_night_18 : decode cX9_night 18 = .ok (.putfield 83, 3) := by decide +kernel
theorem dX9_night_21 : decode cX9_night 21 = .ok (.iload_n 2, 1) := by decide +kernel
theorem dX9_night_22 : decode cX9_night 22 = .ok (.iconst (-1), 1) := by decide +kernel
theorem dX9_night_23 : decode cX9_night 23 = .ok (.if_icmp .ne 13, 3) := by decide +kernel
theorem dX9_night_26 : decode cX9_night 26 = .ok (.aload_n 0, 1) := by decide +kernel
theorem dX9_night_27 : decode cX9_night 27 = .ok (.getfield 41, 3) := by decide +kernel
theorem dX9_night_30 : decode cX9_night 30 = .ok (.invokevirtual 210, 3) := by decide +kernel
theorem dX9_night_33 : decode cX9_night 33 = .ok (.goto 4, 3) := by decide +kernel
theorem dX9_night_36 : decode cX9_night 36 = .ok (.iload_n 2, 1) := by decide +kernel
theorem dX9_night_37 : decode cX9_night 37 = .ok (.istore_n 3, 1) := by decide +kernel
theorem dX9_night_38 : decode cX9_night 38 = .ok (.aload_n 0, 1) := by decide +kernel
theorem dX9_night_39 : decode cX9_night 39 = .ok (.getfield 41, 3) := by decide +kernel
theorem dX9_night_42 : decode cX9_night 42 = .ok (.iload_n 1, 1) := by decide +kernel
theorem dX9_night_43 : decode cX9_night 43 = .ok (.iload_n 3, 1) := by decide +kernel
theorem dX9_night_44 : decode cX9_night 44 = .ok (.aload_n 0, 1) := by decide +kernel
theorem dX9_night_45 : decode cX9_night 45 = .ok (.getfield 41, 3) := by decide +kernel
theorem dX9_night_48 : decode cX9_night 48 = .ok (.getfield 195, 3) := by decide +kernel
theorem dX9_night_51 : decode cX9_night 51 = .ok (.invokevirtual 214, 3) := by decide +kernel
theorem dX9_night_54 : decode cX9_night 54 = .ok (.ireturn, 1) := by decide +kernel
theorem dX9_sums_0 : decode cX9_sums 0 = .ok (.iload_n 1, 1) := by decide +kernel
theorem dX9_sums_1 : decode cX9_sums 1 = .ok (.tableswitch 123 0 7 #[47, 65, 74, 83, 91, 99, 107, 115], 47) := by decide +kernel
theorem dX9_sums_48 : decode cX9_sums 48 = .ok (.aload_n 0, 1) := by decide +kernel
theorem dX9_sums_49 : decode cX9_sums 49 = .ok (.getfield 41, 3) := by decide +kernel
theorem dX9_sums_52 : decode cX9_sums 52 = .ok (.iconst 1, 1) := by decide +kernel
theorem dX9_sums_53 : decode cX9_sums 53 = .ok (.invokevirtual 218, 3) := by decide +kernel
theorem dX9_sums_56 : decode cX9_sums 56 = .ok (.aload_n 0, 1) := by decide +kernel
theorem dX9_sums_57 : decode cX9_sums 57 = .ok (.getfield 41, 3) := by decide +kernel
theorem dX9_sums_60 : decode cX9_sums 60 = .ok (.iconst 0, 1) := by decide +kernel
theorem dX9_sums_61 : decode cX9_sums 61 = .ok (.invokevirtual 218, 3) := by decide +kernel
theorem dX9_sums_64 : decode cX9_sums 64 = .ok (.iadd, 1) := by decide +kernel
theorem dX9_sums_65 : decode cX9_sums 65 = .ok (.ireturn, 1) := by decide +kernel
theorem dX9_sums_66 : decode cX9_sums 66 = .ok (.aload_n 0, 1) := by decide +kernel
theorem dX9_sums_67 : decode cX9_sums 67 = .ok (.getfield 41, 3) := by decide +kernel
theorem dX9_sums_70 : decode cX9_sums 70 = .ok (.iconst 1, 1) := by decide +kernel
theorem dX9_sums_71 : decode cX9_sums 71 = .ok (.invokevirtual 218, 3) := by decide +kernel
theorem dX9_sums_74 : decode cX9_sums 74 = .ok (.ireturn, 1) := by decide +kernel
theorem dX9_sums_75 : decode cX9_sums 75 = .ok (.aload_n 0, 1) := by decide +kernel
theorem dX9_sums_76 : decode cX9_sums 76 = .ok (.getfield 41, 3) := by decide +kernel
theorem dX9_sums_79 : decode cX9_sums 79 = .ok (.iconst 0, 1) := by decide +kernel
theorem dX9_sums_80 : decode cX9_sums 80 = .ok (.invokevirtual 218, 3) := by decide +kernel
theorem dX9_sums_83 : decode cX9_sums 83 = .ok (.ireturn, 1) := by decide +kernel
theorem dX9_sums_84 : decode cX9_sums 84 = .ok (.aload_n 0, 1) := by decide +kernel
theorem dX9_sums_85 : decode cX9_sums 85 = .ok (.getfield 41, 3) := by decide +kernel
theorem dX9_sums_88 : decode cX9_sums 88 = .ok (.getfield 222, 3) := by decide +kernel
theorem dX9_sums_91 : decode cX9_sums 91 = .ok (.ireturn, 1) := by decide +kernel
theorem dX9_sums_92 : decode cX9_sums 92 = .ok (.aload_n 0, 1) := by decide +kernel
theorem dX9_sums_93 : decode cX9_sums 93 = .ok (.getfield 41, 3) := by decide +kernel
theorem dX9_sums_96 : decode cX9_sums 96 = .ok (.getfield 225, 3) := by decide +kernel
theorem dX9_sums_99 : decode cX9_sums 99 = .ok (.ireturn, 1) := by decide +kernel
theorem dX9_sums_100 : decode cX9_sums 100 = .ok (.aload_n 0, 1) := by decide +kernel
theorem dX9_sums_101 : decode cX9_sums 101 = .ok (.getfield 41, 3) := by decide +kernel
theorem dX9_sums_104 : decode cX9_sums 104 = .ok (.getfield 228, 3) := by decide +kernel
theorem dX9_sums_107 : decode cX9_sums 107 = .ok (.ireturn, 1) := by decide +kernel
theorem dX9_sums_108 : decode cX9_sums 108 = .ok (.aload_n 0, 1) := by decide +kernel
theorem dX9_sums_109 : decode cX9_sums 109 = .ok (.getfield 41, 3) := by decide +kernel
theorem dX9_sums_112 : decode cX9_sums 112 = .ok (.getfield 231, 3) := by decide +kernel
theorem dX9_sums_115 : decode cX9_sums 115 = .ok (.ireturn, 1) := by decide +kernel
theorem dX9_sums_116 : decode cX9_sums 116 = .ok (.aload_n 0, 1) := by decide +kernel
theorem dX9_sums_117 : decode cX9_sums 117 = .ok (.getfield 41, 3) := by decide +kernel
theorem dX9_sums_120 : decode cX9_sums 120 = .ok (.invokevirtual 234, 3) := by decide +kernel
theorem dX9_sums_123 : decode cX9_sums 123 = .ok (.ireturn, 1) := by decide +kernel
theorem dX9_sums_124 : decode cX9_sums 124 = .ok (.new 98, 3) := by decide +kernel
theorem dX9_sums_127 : decode cX9_sums 127 = .ok (.dup, 1) := by decide +kernel
theorem dX9_sums_128 : decode cX9_sums 128 = .ok (.ldc 148, 2) := by decide +kernel
theorem dX9_sums_130 : decode cX9_sums 130 = .ok (.invokespecial 102, 3) := by decide +kernel
theorem dX9_sums_133 : decode cX9_sums 133 = .ok (.athrow, 1) := by decide +kernel
theorem dX9_trace_0 : decode cX9_trace 0 = .ok (.iload_n 2, 1) := by decide +kernel
theorem dX9_trace_1 : decode cX9_trace 1 = .ok (.iconst 0, 1) := by decide +kernel
theorem dX9_trace_2 : decode cX9_trace 2 = .ok (.iconst 3, 1) := by decide +kernel
theorem dX9_trace_3 : decode cX9_trace 3 = .ok (.invokestatic 153, 3) := by decide +kernel
theorem dX9_trace_6 : decode cX9_trace 6 = .ok (.iload_n 1, 1) := by decide +kernel
theorem dX9_trace_7 : decode cX9_trace 7 = .ok (.ifCond .lt 14, 3) := by decide +kernel
theorem dX9_trace_10 : decode cX9_trace 10 = .ok (.iload_n 1, 1) := by decide +kernel
theorem dX9_trace_11 : decode cX9_trace 11 = .ok (.aload_n 0, 1) := by decide +kernel
theorem dX9_trace_12 : decode cX9_trace 12 = .ok (.getfield 41, 3) := by decide +kernel
theorem dX9_trace_15 : decode cX9_trace 15 = .ok (.getfield 225, 3) := by decide +kernel
theorem dX9_trace_18 : decode cX9_trace 18 = .ok (.if_icmp .lt 6, 3) := by decide +kernel
theorem dX9_trace_21 : decode cX9_trace 21 = .ok (.bipush (-2), 2) := by decide +kernel
theorem dX9_trace_23 : decode cX9_trace 23 = .ok (.ireturn, 1) := by decide +kernel
theorem dX9_trace_24 : decode cX9_trace 24 = .ok (.aload_n 0, 1) := by decide +kernel
theorem dX9_trace_25 : decode cX9_trace 25 = .ok (.getfield 41, 3) := by decide +kernel
theorem dX9_trace_28 : decode cX9_trace 28 = .ok (.getfield 237, 3) := by decide +kernel
theorem dX9_trace_31 : decode cX9_trace 31 = .ok (.iload_n 1, 1) := by decide +kernel
theorem dX9_trace_32 : decode cX9_trace 32 = .ok (.iconst 4, 1) := by decide +kernel
theorem dX9_trace_33 : decode cX9_trace 33 = .ok (.imul, 1) := by decide +kernel
theorem dX9_trace_34 : decode cX9_trace 34 = .ok (.iload_n 2, 1) := by decide +kernel
theorem dX9_trace_35 : decode cX9_trace 35 = .ok (.iadd, 1) := by decide +kernel
theorem dX9_trace_36 : decode cX9_trace 36 = .ok (.iaload, 1) := by decide +kernel
theorem dX9_trace_37 : decode cX9_trace 37 = .ok (.ireturn, 1) := by decide +kernel
theorem dX9_cold_0 : decode cX9_cold 0 = .ok (.iload_n 1, 1) := by decide +kernel
theorem dX9_cold_1 : decode cX9_cold 1 = .ok (.ifCond .lt 14, 3) := by decide +kernel
theorem dX9_cold_4 : decode cX9_cold 4 = .ok (.iload_n 1, 1) := by decide +kernel
theorem dX9_cold_5 : decode cX9_cold 5 = .ok (.aload_n 0, 1) := by decide +kernel
theorem dX9_cold_6 : decode cX9_cold 6 = .ok (.getfield 41, 3) := by decide +kernel
theorem dX9_cold_9 : decode cX9_cold 9 = .ok (.getfield 142, 3) := by decide +kernel
theorem dX9_cold_12 : decode cX9_cold 12 = .ok (.if_icmp .lt 7, 3) := by decide +kernel
theorem dX9_cold_15 : decode cX9_cold 15 = .ok (.iconst (-1), 1) := by decide +kernel
theorem dX9_cold_16 : decode cX9_cold 16 = .ok (.goto 12, 3) := by decide +kernel
theorem dX9_cold_19 : decode cX9_cold 19 = .ok (.aload_n 0, 1) := by decide +kernel
theorem dX9_cold_20 : decode cX9_cold 20 = .ok (.getfield 41, 3) := by decide +kernel
theorem dX9_cold_23 : decode cX9_cold 23 = .ok (.getfield 240, 3) := by decide +kernel
theorem dX9_cold_26 : decode cX9_cold 26 = .ok (.iload_n 1, 1) := by decide +kernel
theorem dX9_cold_27 : decode cX9_cold 27 = .ok (.iaload, 1) := by decide +kernel
theorem dX9_cold_28 : decode cX9_cold 28 = .ok (.ireturn, 1) := by decide +kernel
theorem dX9_undone_0 : decode cX9_undone 0 = .ok (.aload_n 0, 1) := by decide +kernel
theorem dX9_undone_1 : decode cX9_undone 1 = .ok (.getfield 41, 3) := by decide +kernel
theorem dX9_undone_4 : decode cX9_undone 4 = .ok (.bipush 12, 2) := by decide +kernel
theorem dX9_undone_6 : decode cX9_undone 6 = .ok (.invokevirtual 243, 3) := by decide +kernel
theorem dX9_undone_9 : decode cX9_undone 9 = .ok (.ireturn, 1) := by decide +kernel
theorem dX9_left_0 : decode cX9_left 0 = .ok (.aload_n 0, 1) := by decide +kernel
theorem dX9_left_1 : decode cX9_left 1 = .ok (.iload_n 1, 1) := by decide +kernel
theorem dX9_left_2 : decode cX9_left 2 = .ok (.invokevirtual 150, 3) := by decide +kernel
theorem dX9_left_5 : decode cX9_left 5 = .ok (.iload_n 2, 1) := by decide +kernel
theorem dX9_left_6 : decode cX9_left 6 = .ok (.iconst 0, 1) := by decide +kernel
theorem dX9_left_7 : decode cX9_left 7 = .ok (.iconst 2, 1) := by decide +kernel
theorem dX9_left_8 : decode cX9_left 8 = .ok (.invokestatic 153, 3) := by decide +kernel
theorem dX9_left_11 : decode cX9_left 11 = .ok (.iload_n 3, 1) := by decide +kernel
theorem dX9_left_12 : decode cX9_left 12 = .ok (.iconst 0, 1) := by decide +kernel
theorem dX9_left_13 : decode cX9_left 13 = .ok (.iconst 1, 1) := by decide +kernel
theorem dX9_left_14 : decode cX9_left 14 = .ok (.invokestatic 153, 3) := by decide +kernel
theorem dX9_left_17 : decode cX9_left 17 = .ok (.aload_n 0, 1) := by decide +kernel
theorem dX9_left_18 : decode cX9_left 18 = .ok (.getfield 41, 3) := by decide +kernel
theorem dX9_left_21 : decode cX9_left 21 = .ok (.iload_n 1, 1) := by decide +kernel
theorem dX9_left_22 : decode cX9_left 22 = .ok (.iload_n 2, 1) := by decide +kernel
theorem dX9_left_23 : decode cX9_left 23 = .ok (.iconst 1, 1) := by decide +kernel
theorem dX9_left_24 : decode cX9_left 24 = .ok (.isub, 1) := by decide +kernel
theorem dX9_left_25 : decode cX9_left 25 = .ok (.invokevirtual 246, 3) := by decide +kernel
theorem dX9_left_28 : decode cX9_left 28 = .ok (.ifCond .ne 5, 3) := by decide +kernel
theorem dX9_left_31 : decode cX9_left 31 = .ok (.iconst (-1), 1) := by decide +kernel
theorem dX9_left_32 : decode cX9_left 32 = .ok (.ireturn, 1) := by decide +kernel
theorem dX9_left_33 : decode cX9_left 33 = .ok (.aload_n 0, 1) := by decide +kernel
theorem dX9_left_34 : decode cX9_left 34 = .ok (.getfield 41, 3) := by decide +kernel
theorem dX9_left_37 : decode cX9_left 37 = .ok (.iload_n 1, 1) := by decide +kernel
theorem dX9_left_38 : decode cX9_left 38 = .ok (.iload_n 2, 1) := by decide +kernel
theorem dX9_left_39 : decode cX9_left 39 = .ok (.iconst 1, 1) := by decide +kernel
theorem dX9_left_40 : decode cX9_left 40 = .ok (.isub, 1) := by decide +kernel
theorem dX9_left_41 : decode cX9_left 41 = .ok (.iload_n 3, 1) := by decide +kernel
theorem dX9_left_42 : decode cX9_left 42 = .ok (.invokevirtual 250, 3) := by decide +kernel
theorem dX9_left_45 : decode cX9_left 45 = .ok (.aload_n 0, 1) := by decide +kernel
theorem dX9_left_46 : decode cX9_left 46 = .ok (.getfield 41, 3) := by decide +kernel
theorem dX9_left_49 : decode cX9_left 49 = .ok (.iload_n 1, 1) := by decide +kernel
theorem dX9_left_50 : decode cX9_left 50 = .ok (.iload_n 2, 1) := by decide +kernel
theorem dX9_left_51 : decode cX9_left 51 = .ok (.iconst 1, 1) := by decide +kernel
theorem dX9_left_52 : decode cX9_left 52 = .ok (.isub, 1) := by decide +kernel
theorem dX9_left_53 : decode cX9_left 53 = .ok (.iload_n 3, 1) := by decide +kernel
theorem dX9_left_54 : decode cX9_left 54 = .ok (.invokevirtual 254, 3) := by decide +kernel
theorem dX9_left_57 : decode cX9_left 57 = .ok (.imul, 1) := by decide +kernel
theorem dX9_left_58 : decode cX9_left 58 = .ok (.ireturn, 1) := by decide +kernel
theorem dX9_fits_0 : decode cX9_fits 0 = .ok (.aload_n 0, 1) := by decide +kernel
theorem dX9_fits_1 : decode cX9_fits 1 = .ok (.iload_n 1, 1) := by decide +kernel
theorem dX9_fits_2 : decode cX9_fits 2 = .ok (.invokevirtual 150, 3) := by decide +kernel
theorem dX9_fits_5 : decode cX9_fits 5 = .ok (.iload_n 2, 1) := by decide +kernel
theorem dX9_fits_6 : decode cX9_fits 6 = .ok (.iconst 0, 1) := by decide +kernel
theorem dX9_fits_7 : decode cX9_fits 7 = .ok (.iconst 2, 1) := by decide +kernel
theorem dX9_fits_8 : decode cX9_fits 8 = .ok (.invokestatic 153, 3) := by decide +kernel
theorem dX9_fits_11 : decode cX9_fits 11 = .ok (.iload_n 3, 1) := by decide +kernel
theorem dX9_fits_12 : decode cX9_fits 12 = .ok (.iconst 0, 1) := by decide +kernel
theorem dX9_fits_13 : decode cX9_fits 13 = .ok (.iconst 1, 1) := by decide +kernel
theorem dX9_fits_14 : decode cX9_fits 14 = .ok (.invokestatic 153, 3) := by decide +kernel
theorem dX9_fits_17 : decode cX9_fits 17 = .ok (.aload_n 0, 1) := by decide +kernel
theorem dX9_fits_18 : decode cX9_fits 18 = .ok (.getfield 41, 3) := by decide +kernel
theorem dX9_fits_21 : decode cX9_fits 21 = .ok (.iload_n 1, 1) := by decide +kernel
theorem dX9_fits_22 : decode cX9_fits 22 = .ok (.iload_n 2, 1) := by decide +kernel
theorem dX9_fits_23 : decode cX9_fits 23 = .ok (.iconst 1, 1) := by decide +kernel
theorem dX9_fits_24 : decode cX9_fits 24 = .ok (.isub, 1) := by decide +kernel
theorem dX9_fits_25 : decode cX9_fits 25 = .ok (.invokevirtual 246, 3) := by decide +kernel
theorem dX9_fits_28 : decode cX9_fits 28 = .ok (.ifCond .ne 5, 3) := by decide +kernel
theorem dX9_fits_31 : decode cX9_fits 31 = .ok (.iconst (-1), 1) := by decide +kernel
theorem dX9_fits_32 : decode cX9_fits 32 = .ok (.ireturn, 1) := by decide +kernel
theorem dX9_fits_33 : decode cX9_fits 33 = .ok (.aload_n 0, 1) := by decide +kernel
theorem dX9_fits_34 : decode cX9_fits 34 = .ok (.getfield 23, 3) := by decide +kernel
theorem dX9_fits_37 : decode cX9_fits 37 = .ok (.aload_n 0, 1) := by decide +kernel
theorem dX9_fits_38 : decode cX9_fits 38 = .ok (.getfield 41, 3) := by decide +kernel
theorem dX9_fits_41 : decode cX9_fits 41 = .ok (.iload_n 1, 1) := by decide +kernel
theorem dX9_fits_42 : decode cX9_fits 42 = .ok (.iload_n 2, 1) := by decide +kernel
theorem dX9_fits_43 : decode cX9_fits 43 = .ok (.iconst 1, 1) := by decide +kernel
theorem dX9_fits_44 : decode cX9_fits 44 = .ok (.isub, 1) := by decide +kernel
theorem dX9_fits_45 : decode cX9_fits 45 = .ok (.iload_n 3, 1) := by decide +kernel
theorem dX9_fits_46 : decode cX9_fits 46 = .ok (.invokevirtual 250, 3) := by decide +kernel
theorem dX9_fits_49 : decode cX9_fits 49 = .ok (.aload_n 0, 1) := by decide +kernel
theorem dX9_fits_50 : decode cX9_fits 50 = .ok (.getfield 41, 3) := by decide +kernel
theorem dX9_fits_53 : decode cX9_fits 53 = .ok (.iload_n 1, 1) := by decide +kernel
theorem dX9_fits_54 : decode cX9_fits 54 = .ok (.iload_n 2, 1) := by decide +kernel
theorem dX9_fits_55 : decode cX9_fits 55 = .ok (.iconst 1, 1) := by decide +kernel
theorem dX9_fits_56 : decode cX9_fits 56 = .ok (.isub, 1) := by decide +kernel
theorem dX9_fits_57 : decode cX9_fits 57 = .ok (.iload_n 3, 1) := by decide +kernel
theorem dX9_fits_58 : decode cX9_fits 58 = .ok (.invokevirtual 254, 3) := by decide +kernel
theorem dX9_fits_61 : decode cX9_fits 61 = .ok (.invokevirtual 257, 3) := by decide +kernel
theorem dX9_fits_64 : decode cX9_fits 64 = .ok (.ireturn, 1) := by decide +kernel
theorem dX9_plan_0 : decode cX9_plan 0 = .ok (.iload_n 1, 1) := by decide +kernel
theorem dX9_plan_1 : decode cX9_plan 1 = .ok (.ifCond .lt 16, 3) := by decide +kernel
theorem dX9_plan_4 : decode cX9_plan 4 = .ok (.iload_n 1, 1) := by decide +kernel
theorem dX9_plan_5 : decode cX9_plan 5 = .ok (.iconst 1, 1) := by decide +kernel
theorem dX9_plan_6 : decode cX9_plan 6 = .ok (.aload_n 0, 1) := by decide +kernel
theorem dX9_plan_7 : decode cX9_plan 7 = .ok (.getfield 23, 3) := by decide +kernel
theorem dX9_plan_10 : decode cX9_plan 10 = .ok (.getfield 127, 3) := by decide +kernel
theorem dX9_plan_13 : decode cX9_plan 13 = .ok (.ishl, 1) := by decide +kernel
theorem dX9_plan_14 : decode cX9_plan 14 = .ok (.if_icmp .lt 14, 3) := by decide +kernel
theorem dX9_plan_17 : decode cX9_plan 17 = .ok (.new 98, 3) := by decide +kernel
theorem dX9_plan_20 : decode cX9_plan 20 = .ok (.dup, 1) := by decide +kernel
theorem dX9_plan_21 : decode cX9_plan 21 = .ok (.ldc_w 261, 3) := by decide +kernel
theorem dX9_plan_24 : decode cX9_plan 24 = .ok (.invokespecial 102, 3) := by decide +kernel
theorem dX9_plan_27 : decode cX9_plan 27 = .ok (.athrow, 1) := by decide +kernel
theorem dX9_plan_28 : decode cX9_plan 28 = .ok (.aload_n 0, 1) := by decide +kernel
theorem dX9_plan_29 : decode cX9_plan 29 = .ok (.getfield 51, 3) := by decide +kernel
theorem dX9_plan_32 : decode cX9_plan 32 = .ok (.iload_n 1, 1) := by decide +kernel
theorem dX9_plan_33 : decode cX9_plan 33 = .ok (.invokevirtual 263, 3) := by decide +kernel
theorem dX9_plan_36 : decode cX9_plan 36 = .ok (.ireturn, 1) := by decide +kernel
theorem dX9_clear_0 : decode cX9_clear 0 = .ok (.aload_n 0, 1) := by decide +kernel
theorem dX9_clear_1 : decode cX9_clear 1 = .ok (.getfield 51, 3) := by decide +kernel
theorem dX9_clear_4 : decode cX9_clear 4 = .ok (.getfield 266, 3) := by decide +kernel
theorem dX9_clear_7 : decode cX9_clear 7 = .ok (.istore_n 1, 1) := by decide +kernel
theorem dX9_clear_8 : decode cX9_clear 8 = .ok (.aload_n 0, 1) := by decide +kernel
theorem dX9_clear_9 : decode cX9_clear 9 = .ok (.getfield 51, 3) := by decide +kernel
theorem dX9_clear_12 : decode cX9_clear 12 = .ok (.iconst 0, 1) := by decide +kernel
theorem dX9_clear_13 : decode cX9_clear 13 = .ok (.putfield 266, 3) := by decide +kernel
theorem dX9_clear_16 : decode cX9_clear 16 = .ok (.iload_n 1, 1) := by decide +kernel
theorem dX9_clear_17 : decode cX9_clear 17 = .ok (.ireturn, 1) := by decide +kernel
theorem dX9_would_0 : decode cX9_would 0 = .ok (.iload_n 2, 1) := by decide +kernel
theorem dX9_would_1 : decode cX9_would 1 = .ok (.iconst 0, 1) := by decide +kernel
theorem dX9_would_2 : decode cX9_would 2 = .ok (.iconst 5, 1) := by decide +kernel
theorem dX9_would_3 : decode cX9_would 3 = .ok (.invokestatic 153, 3) := by decide +kernel
theorem dX9_would_6 : decode cX9_would 6 = .ok (.aload_n 0, 1) := by decide +kernel
theorem dX9_would_7 : decode cX9_would 7 = .ok (.iload_n 1, 1) := by decide +kernel
theorem dX9_would_8 : decode cX9_would 8 = .ok (.invokevirtual 269, 3) := by decide +kernel
theorem dX9_would_11 : decode cX9_would 11 = .ok (.iload_n 2, 1) := by decide +kernel
theorem dX9_would_12 : decode cX9_would 12 = .ok (.tableswitch 97 0 4 #[36, 52, 68, 84, 89], 36) := by decide +kernel
theorem dX9_would_48 : decode cX9_would 48 = .ok (.aload_n 0, 1) := by decide +kernel
theorem dX9_would_49 : decode cX9_would 49 = .ok (.getfield 45, 3) := by decide +kernel
theorem dX9_would_52 : decode cX9_would 52 = .ok (.getfield 222, 3) := by decide +kernel
theorem dX9_would_55 : decode cX9_would 55 = .ok (.aload_n 0, 1) := by decide +kernel
theorem dX9_would_56 : decode cX9_would 56 = .ok (.getfield 41, 3) := by decide +kernel
theorem dX9_would_59 : decode cX9_would 59 = .ok (.getfield 222, 3) := by decide +kernel
theorem dX9_would_62 : decode cX9_would 62 = .ok (.isub, 1) := by decide +kernel
theorem dX9_would_63 : decode cX9_would 63 = .ok (.ireturn, 1) := by decide +kernel
theorem dX9_would_64 : decode cX9_would 64 = .ok (.aload_n 0, 1) := by decide +kernel
theorem dX9_would_65 : decode cX9_would 65 = .ok (.getfield 45, 3) := by decide +kernel
theorem dX9_would_68 : decode cX9_would 68 = .ok (.getfield 225, 3) := by decide +kernel
theorem dX9_would_71 : decode cX9_would 71 = .ok (.aload_n 0, 1) := by decide +kernel
theorem dX9_would_72 : decode cX9_would 72 = .ok (.getfield 41, 3) := by decide +kernel
theorem dX9_would_75 : decode cX9_would 75 = .ok (.getfield 225, 3) := by decide +kernel
theorem dX9_would_78 : decode cX9_would 78 = .ok (.isub, 1) := by decide +kernel
theorem dX9_would_79 : decode cX9_would 79 = .ok (.ireturn, 1) := by decide +kernel
theorem dX9_would_80 : decode cX9_would 80 = .ok (.aload_n 0, 1) := by decide +kernel
theorem dX9_would_81 : decode cX9_would 81 = .ok (.getfield 45, 3) := by decide +kernel
theorem dX9_would_84 : decode cX9_would 84 = .ok (.getfield 228, 3) := by decide +kernel
theorem dX9_would_87 : decode cX9_would 87 = .ok (.aload_n 0, 1) := by decide +kernel
theorem dX9_would_88 : decode cX9_would 88 = .ok (.getfield 41, 3) := by decide +kernel
theorem dX9_would_91 : decode cX9_would 91 = .ok (.getfield 228, 3) := by decide +kernel
theorem dX9_would_94 : decode cX9_would 94 = .ok (.isub, 1) := by decide +kernel
theorem dX9_would_95 : decode cX9_would 95 = .ok (.ireturn, 1) := by decide +kernel
theorem dX9_would_96 : decode cX9_would 96 = .ok (.aload_n 0, 1) := by decide +kernel
theorem dX9_would_97 : decode cX9_would 97 = .ok (.getfield 80, 3) := by decide +kernel
theorem dX9_would_100 : decode cX9_would 100 = .ok (.ireturn, 1) := by decide +kernel
theorem dX9_would_101 : decode cX9_would 101 = .ok (.aload_n 0, 1) := by decide +kernel
theorem dX9_would_102 : decode cX9_would 102 = .ok (.getfield 45, 3) := by decide +kernel
theorem dX9_would_105 : decode cX9_would 105 = .ok (.invokevirtual 272, 3) := by decide +kernel
theorem dX9_would_108 : decode cX9_would 108 = .ok (.ireturn, 1) := by decide +kernel
theorem dX9_would_109 : decode cX9_would 109 = .ok (.aload_n 0, 1) := by decide +kernel
theorem dX9_would_110 : decode cX9_would 110 = .ok (.getfield 45, 3) := by decide +kernel
theorem dX9_would_113 : decode cX9_would 113 = .ok (.getfield 231, 3) := by decide +kernel
theorem dX9_would_116 : decode cX9_would 116 = .ok (.aload_n 0, 1) := by decide +kernel
theorem dX9_would_117 : decode cX9_would 117 = .ok (.getfield 41, 3) := by decide +kernel
theorem dX9_would_120 : decode cX9_would 120 = .ok (.getfield 231, 3) := by decide +kernel
theorem dX9_would_123 : decode cX9_would 123 = .ok (.isub, 1) := by decide +kernel
theorem dX9_would_124 : decode cX9_would 124 = .ok (.ireturn, 1) := by decide +kernel
theorem dX9_promise_0 : decode cX9_promise 0 = .ok (.aload_n 0, 1) := by decide +kernel
theorem dX9_promise_1 : decode cX9_promise 1 = .ok (.iload_n 1, 1) := by decide +kernel
theorem dX9_promise_2 : decode cX9_promise 2 = .ok (.invokevirtual 175, 3) := by decide +kernel
theorem dX9_promise_5 : decode cX9_promise 5 = .ok (.iload_n 3, 1) := by decide +kernel
theorem dX9_promise_6 : decode cX9_promise 6 = .ok (.iconst 1, 1) := by decide +kernel
theorem dX9_promise_7 : decode cX9_promise 7 = .ok (.bipush 99, 2) := by decide +kernel
theorem dX9_promise_9 : decode cX9_promise 9 = .ok (.invokestatic 153, 3) := by decide +kernel
theorem dX9_promise_12 : decode cX9_promise 12 = .ok (.iconst 0, 1) := by decide +kernel
theorem dX9_promise_13 : decode cX9_promise 13 = .ok (.istore 4, 2) := by decide +kernel
theorem dX9_promise_15 : decode cX9_promise 15 = .ok (.iconst 0, 1) := by decide +kernel
theorem dX9_promise_16 : decode cX9_promise 16 = .ok (.istore 5, 2) := by decide +kernel
theorem dX9_promise_18 : decode cX9_promise 18 = .ok (.iload 5, 2) := by decide +kernel
theorem dX9_promise_20 : decode cX9_promise 20 = .ok (.iload_n 3, 1) := by decide +kernel
theorem dX9_promise_21 : decode cX9_promise 21 = .ok (.if_icmp .ge 31, 3) := by decide +kernel
theorem dX9_promise_24 : decode cX9_promise 24 = .ok (.aload_n 0, 1) := by decide +kernel
theorem dX9_promise_25 : decode cX9_promise 25 = .ok (.iload_n 2, 1) := by decide +kernel
theorem dX9_promise_26 : decode cX9_promise 26 = .ok (.iload 5, 2) := by decide +kernel
theorem dX9_promise_28 : decode cX9_promise 28 = .ok (.iadd, 1) := by decide +kernel
theorem dX9_promise_29 : decode cX9_promise 29 = .ok (.invokevirtual 269, 3) := by decide +kernel
theorem dX9_promise_32 : decode cX9_promise 32 = .ok (.aload_n 0, 1) := by decide +kernel
theorem dX9_promise_33 : decode cX9_promise 33 = .ok (.getfield 45, 3) := by decide +kernel
theorem dX9_promise_36 : decode cX9_promise 36 = .ok (.iload_n 1, 1) := by decide +kernel
theorem dX9_promise_37 : decode cX9_promise 37 = .ok (.invokevirtual 275, 3) := by decide +kernel
theorem dX9_promise_40 : decode cX9_promise 40 = .ok (.ifCond .eq 6, 3) := by decide +kernel
theorem dX9_promise_43 : decode cX9_promise 43 = .ok (.iinc 4 1, 3) := by decide +kernel
theorem dX9_promise_46 : decode cX9_promise 46 = .ok (.iinc 5 1, 3) := by decide +kernel
theorem dX9_promise_49 : decode cX9_promise 49 = .ok (.goto (-31), 3) := by decide +kernel
theorem dX9_promise_52 : decode cX9_promise 52 = .ok (.iload 4, 2) := by decide +kernel
theorem dX9_promise_54 : decode cX9_promise 54 = .ok (.ireturn, 1) := by decide +kernel
theorem dX9_tonight_0 : decode cX9_tonight 0 = .ok (.aload_n 0, 1) := by decide +kernel
theorem dX9_tonight_1 : decode cX9_tonight 1 = .ok (.invokevirtual 207, 3) := by decide +kernel
theorem dX9_tonight_4 : decode cX9_tonight 4 = .ok (.aload_n 0, 1) := by decide +kernel
theorem dX9_tonight_5 : decode cX9_tonight 5 = .ok (.invokevirtual 278, 3) := by decide +kernel
theorem dX9_tonight_8 : decode cX9_tonight 8 = .ok (.aload_n 0, 1) := by decide +kernel
theorem dX9_tonight_9 : decode cX9_tonight 9 = .ok (.getfield 87, 3) := by decide +kernel
theorem dX9_tonight_12 : decode cX9_tonight 12 = .ok (.ireturn, 1) := by decide +kernel
theorem dX9_worth_0 : decode cX9_worth 0 = .ok (.iload_n 1, 1) := by decide +kernel
theorem dX9_worth_1 : decode cX9_worth 1 = .ok (.iconst 0, 1) := by decide +kernel
theorem dX9_worth_2 : decode cX9_worth 2 = .ok (.iconst 1, 1) := by decide +kernel
theorem dX9_worth_3 : decode cX9_worth 3 = .ok (.invokestatic 153, 3) := by decide +kernel
theorem dX9_worth_6 : decode cX9_worth 6 = .ok (.aload_n 0, 1) := by decide +kernel
theorem dX9_worth_7 : decode cX9_worth 7 = .ok (.invokevirtual 207, 3) := by decide +kernel
theorem dX9_worth_10 : decode cX9_worth 10 = .ok (.aload_n 0, 1) := by decide +kernel
theorem dX9_worth_11 : decode cX9_worth 11 = .ok (.invokevirtual 278, 3) := by decide +kernel
theorem dX9_worth_14 : decode cX9_worth 14 = .ok (.aload_n 0, 1) := by decide +kernel
theorem dX9_worth_15 : decode cX9_worth 15 = .ok (.getfield 90, 3) := by decide +kernel
theorem dX9_worth_18 : decode cX9_worth 18 = .ok (.ldc2_w 281, 3) := by decide +kernel
theorem dX9_worth_21 : decode cX9_worth 21 = .ok (.iload_n 1, 1) := by decide +kernel
theorem dX9_worth_22 : decode cX9_worth 22 = .ok (.invokestatic 283, 3) := by decide +kernel
theorem dX9_worth_25 : decode cX9_worth 25 = .ok (.lreturn, 1) := by decide +kernel
theorem dX9_now_0 : decode cX9_now 0 = .ok (.aload_n 0, 1) := by decide +kernel
theorem dX9_now_1 : decode cX9_now 1 = .ok (.iload_n 1, 1) := by decide +kernel
theorem dX9_now_2 : decode cX9_now 2 = .ok (.invokevirtual 204, 3) := by decide +kernel
theorem dX9_now_5 : decode cX9_now 5 = .ok (.iload_n 1, 1) := by decide +kernel
theorem dX9_now_6 : decode cX9_now 6 = .ok (.invokestatic 287, 3) := by decide +kernel
theorem dX9_now_9 : decode cX9_now 9 = .ok (.iconst 0, 1) := by decide +kernel
theorem dX9_now_10 : decode cX9_now 10 = .ok (.bipush 6, 2) := by decide +kernel
theorem dX9_now_12 : decode cX9_now 12 = .ok (.invokestatic 153, 3) := by decide +kernel
theorem dX9_now_15 : decode cX9_now 15 = .ok (.iload_n 2, 1) := by decide +kernel
theorem dX9_now_16 : decode cX9_now 16 = .ok (.iconst 0, 1) := by decide +kernel
theorem dX9_now_17 : decode cX9_now 17 = .ok (.iconst 1, 1) := by decide +kernel
theorem dX9_now_18 : decode cX9_now 18 = .ok (.invokestatic 153, 3) := by decide +kernel
theorem dX9_now_21 : decode cX9_now 21 = .ok (.aload_n 0, 1) := by decide +kernel
theorem dX9_now_22 : decode cX9_now 22 = .ok (.invokevirtual 207, 3) := by decide +kernel
theorem dX9_now_25 : decode cX9_now 25 = .ok (.aload_n 0, 1) := by decide +kernel
theorem dX9_now_26 : decode cX9_now 26 = .ok (.getfield 69, 3) := by decide +kernel
theorem dX9_now_29 : decode cX9_now 29 = .ok (.aload_n 0, 1) := by decide +kernel
theorem dX9_now_30 : decode cX9_now 30 = .ok (.getfield 41, 3) := by decide +kernel
theorem dX9_now_33 : decode cX9_now 33 = .ok (.iload_n 1, 1) := by decide +kernel
theorem dX9_now_34 : decode cX9_now 34 = .ok (.iconst 1, 1) := by decide +kernel
theorem dX9_now_35 : decode cX9_now 35 = .ok (.invokevirtual 292, 3) := by decide +kernel
theorem dX9_now_38 : decode cX9_now 38 = .ok (.ldc2_w 296, 3) := by decide +kernel
theorem dX9_now_41 : decode cX9_now 41 = .ok (.iload_n 2, 1) := by decide +kernel
theorem dX9_now_42 : decode cX9_now 42 = .ok (.invokestatic 283, 3) := by decide +kernel
theorem dX9_now_45 : decode cX9_now 45 = .ok (.lreturn, 1) := by decide +kernel
theorem dX9_deeper_0 : decode cX9_deeper 0 = .ok (.aload_n 0, 1) := by decide +kernel
theorem dX9_deeper_1 : decode cX9_deeper 1 = .ok (.invokevirtual 207, 3) := by decide +kernel
theorem dX9_deeper_4 : decode cX9_deeper 4 = .ok (.iconst (-1), 1) := by decide +kernel
theorem dX9_deeper_5 : decode cX9_deeper 5 = .ok (.istore_n 1, 1) := by decide +kernel
theorem dX9_deeper_6 : decode cX9_deeper 6 = .ok (.ldc2_w 298, 3) := by decide +kernel
theorem dX9_deeper_9 : decode cX9_deeper 9 = .ok (.lstore_n 2, 1) := by decide +kernel
theorem dX9_deeper_10 : decode cX9_deeper 10 = .ok (.iconst 0, 1) := by decide +kernel
theorem dX9_deeper_11 : decode cX9_deeper 11 = .ok (.istore 4, 2) := by decide +kernel
theorem dX9_deeper_13 : decode cX9_deeper 13 = .ok (.iload 4, 2) := by decide +kernel
theorem dX9_deeper_15 : decode cX9_deeper 15 = .ok (.aload_n 0, 1) := by decide +kernel
theorem dX9_deeper_16 : decode cX9_deeper 16 = .ok (.getfield 23, 3) := by decide +kernel
theorem dX9_deeper_19 : decode cX9_deeper 19 = .ok (.getfield 127, 3) := by decide +kernel
theorem dX9_deeper_22 : decode cX9_deeper 22 = .ok (.if_icmp .ge 42, 3) := by decide +kernel
theorem dX9_deeper_25 : decode cX9_deeper 25 = .ok (.aload_n 0, 1) := by decide +kernel
theorem dX9_deeper_26 : decode cX9_deeper 26 = .ok (.getfield 41, 3) := by decide +kernel
theorem dX9_deeper_29 : decode cX9_deeper 29 = .ok (.iload 4, 2) := by decide +kernel
theorem dX9_deeper_31 : decode cX9_deeper 31 = .ok (.invokevirtual 165, 3) := by decide +kernel
theorem dX9_deeper_34 : decode cX9_deeper 34 = .ok (.ifCond .eq 24, 3) := by decide +kernel
theorem dX9_deeper_37 : decode cX9_deeper 37 = .ok (.aload_n 0, 1) := by decide +kernel
theorem dX9_deeper_38 : decode cX9_deeper 38 = .ok (.iload 4, 2) := by decide +kernel
theorem dX9_deeper_40 : decode cX9_deeper 40 = .ok (.invokevirtual 300, 3) := by decide +kernel
theorem dX9_deeper_43 : decode cX9_deeper 43 = .ok (.lstore 5, 2) := by decide +kernel
theorem dX9_deeper_45 : decode cX9_deeper 45 = .ok (.lload 5, 2) := by decide +kernel
theorem dX9_deeper_47 : decode cX9_deeper 47 = .ok (.lload_n 2, 1) := by decide +kernel
theorem dX9_deeper_48 : decode cX9_deeper 48 = .ok (.lcmp, 1) := by decide +kernel
theorem dX9_deeper_49 : decode cX9_deeper 49 = .ok (.ifCond .le 9, 3) := by decide +kernel
theorem dX9_deeper_52 : decode cX9_deeper 52 = .ok (.lload 5, 2) := by decide +kernel
theorem dX9_deeper_54 : decode cX9_deeper 54 = .ok (.lstore_n 2, 1) := by decide +kernel
theorem dX9_deeper_55 : decode cX9_deeper 55 = .ok (.iload 4, 2) := by decide +kernel
theorem dX9_deeper_57 : decode cX9_deeper 57 = .ok (.istore_n 1, 1) := by decide +kernel
theorem dX9_deeper_58 : decode cX9_deeper 58 = .ok (.iinc 4 1, 3) := by decide +kernel
theorem dX9_deeper_61 : decode cX9_deeper 61 = .ok (.goto (-48), 3) := by decide +kernel
theorem dX9_deeper_64 : decode cX9_deeper 64 = .ok (.iload_n 1, 1) := by decide +kernel
theorem dX9_deeper_65 : decode cX9_deeper 65 = .ok (.ireturn, 1) := by decide +kernel
theorem dX9_thumb_0 : decode cX9_thumb 0 = .ok (.aload_n 0, 1) := by decide +kernel
theorem dX9_thumb_1 : decode cX9_thumb 1 = .ok (.getfield 51, 3) := by decide +kernel
theorem dX9_thumb_4 : decode cX9_thumb 4 = .ok (.iload_n 1, 1) := by decide +kernel
theorem dX9_thumb_5 : decode cX9_thumb 5 = .ok (.iload_n 2, 1) := by decide +kernel
theorem dX9_thumb_6 : decode cX9_thumb 6 = .ok (.invokevirtual 304, 3) := by decide +kernel
theorem dX9_thumb_9 : decode cX9_thumb 9 = .ok (.ireturn, 1) := by decide +kernel
theorem dX9_trust_0 : decode cX9_trust 0 = .ok (.iload_n 2, 1) := by decide +kernel
theorem dX9_trust_1 : decode cX9_trust 1 = .ok (.iconst 0, 1) := by decide +kernel
theorem dX9_trust_2 : decode cX9_trust 2 = .ok (.iconst 1, 1) := by decide +kernel
theorem dX9_trust_3 : decode cX9_trust 3 = .ok (.invokestatic 153, 3) := by decide +kernel
theorem dX9_trust_6 : decode cX9_trust 6 = .ok (.aload_n 0, 1) := by decide +kernel
theorem dX9_trust_7 : decode cX9_trust 7 = .ok (.getfield 51, 3) := by decide +kernel
theorem dX9_trust_10 : decode cX9_trust 10 = .ok (.iload_n 1, 1) := by decide +kernel
theorem dX9_trust_11 : decode cX9_trust 11 = .ok (.iconst 1, 1) := by decide +kernel
theorem dX9_trust_12 : decode cX9_trust 12 = .ok (.invokevirtual 308, 3) := by decide +kernel
theorem dX9_trust_15 : decode cX9_trust 15 = .ok (.istore_n 3, 1) := by decide +kernel
theorem dX9_trust_16 : decode cX9_trust 16 = .ok (.iload_n 3, 1) := by decide +kernel
theorem dX9_trust_17 : decode cX9_trust 17 = .ok (.aload_n 0, 1) := by decide +kernel
theorem dX9_trust_18 : decode cX9_trust 18 = .ok (.getfield 51, 3) := by decide +kernel
theorem dX9_trust_21 : decode cX9_trust 21 = .ok (.iload_n 1, 1) := by decide +kernel
theorem dX9_trust_22 : decode cX9_trust 22 = .ok (.iconst 0, 1) := by decide +kernel
theorem dX9_trust_23 : decode cX9_trust 23 = .ok (.invokevirtual 308, 3) := by decide +kernel
theorem dX9_trust_26 : decode cX9_trust 26 = .ok (.iadd, 1) := by decide +kernel
theorem dX9_trust_27 : decode cX9_trust 27 = .ok (.istore 4, 2) := by decide +kernel
theorem dX9_trust_29 : decode cX9_trust 29 = .ok (.iload 4, 2) := by decide +kernel
theorem dX9_trust_31 : decode cX9_trust 31 = .ok (.ifCond .ne 5, 3) := by decide +kernel
theorem dX9_trust_34 : decode cX9_trust 34 = .ok (.iload_n 2, 1) := by decide +kernel
theorem dX9_trust_35 : decode cX9_trust 35 = .ok (.ireturn, 1) := by decide +kernel
theorem dX9_trust_36 : decode cX9_trust 36 = .ok (.iload_n 3, 1) := by decide +kernel
theorem dX9_trust_37 : decode cX9_trust 37 = .ok (.i2l, 1) := by decide +kernel
theorem dX9_trust_38 : decode cX9_trust 38 = .ok (.iload 4, 2) := by decide +kernel
theorem dX9_trust_40 : decode cX9_trust 40 = .ok (.i2l, 1) := by decide +kernel
theorem dX9_trust_41 : decode cX9_trust 41 = .ok (.iload_n 2, 1) := by decide +kernel
theorem dX9_trust_42 : decode cX9_trust 42 = .ok (.invokestatic 283, 3) := by decide +kernel
theorem dX9_trust_45 : decode cX9_trust 45 = .ok (.l2i, 1) := by decide +kernel
theorem dX9_trust_46 : decode cX9_trust 46 = .ok (.ireturn, 1) := by decide +kernel
theorem dX9_listening_0 : decode cX9_listening 0 = .ok (.aload_n 0, 1) := by decide +kernel
theorem dX9_listening_1 : decode cX9_listening 1 = .ok (.getfield 51, 3) := by decide +kernel
theorem dX9_listening_4 : decode cX9_listening 4 = .ok (.iconst 1, 1) := by decide +kernel
theorem dX9_listening_5 : decode cX9_listening 5 = .ok (.iconst 1, 1) := by decide +kernel
theorem dX9_listening_6 : decode cX9_listening 6 = .ok (.invokevirtual 308, 3) := by decide +kernel
theorem dX9_listening_9 : decode cX9_listening 9 = .ok (.aload_n 0, 1) := by decide +kernel
theorem dX9_listening_10 : decode cX9_listening 10 = .ok (.getfield 51, 3) := by decide +kernel
theorem dX9_listening_13 : decode cX9_listening 13 = .ok (.iconst 0, 1) := by decide +kernel
theorem dX9_listening_14 : decode cX9_listening 14 = .ok (.iconst 0, 1) := by decide +kernel
theorem dX9_listening_15 : decode cX9_listening 15 = .ok (.invokevirtual 308, 3) := by decide +kernel
theorem dX9_listening_18 : decode cX9_listening 18 = .ok (.iadd, 1) := by decide +kernel
theorem dX9_listening_19 : decode cX9_listening 19 = .ok (.istore_n 1, 1) := by decide +kernel
theorem dX9_listening_20 : decode cX9_listening 20 = .ok (.aload_n 0, 1) := by decide +kernel
theorem dX9_listening_21 : decode cX9_listening 21 = .ok (.getfield 51, 3) := by decide +kernel
theorem dX9_listening_24 : decode cX9_listening 24 = .ok (.iconst 1, 1) := by decide +kernel
theorem dX9_listening_25 : decode cX9_listening 25 = .ok (.iconst 1, 1) := by decide +kernel
theorem dX9_listening_26 : decode cX9_listening 26 = .ok (.invokevirtual 308, 3) := by decide +kernel
theorem dX9_listening_29 : decode cX9_listening 29 = .ok (.aload_n 0, 1) := by decide +kernel
theorem dX9_listening_30 : decode cX9_listening 30 = .ok (.getfield 51, 3) := by decide +kernel
theorem dX9_listening_33 : decode cX9_listening 33 = .ok (.iconst 0, 1) := by decide +kernel
theorem dX9_listening_34 : decode cX9_listening 34 = .ok (.iconst 1, 1) := by decide +kernel
theorem dX9_listening_35 : decode cX9_listening 35 = .ok (.invokevirtual 308, 3) := by decide +kernel
theorem dX9_listening_38 : decode cX9_listening 38 = .ok (.iadd, 1) := by decide +kernel
theorem dX9_listening_39 : decode cX9_listening 39 = .ok (.istore_n 2, 1) := by decide +kernel
theorem dX9_listening_40 : decode cX9_listening 40 = .ok (.iload_n 1, 1) := by decide +kernel
theorem dX9_listening_41 : decode cX9_listening 41 = .ok (.iload_n 2, 1) := by decide +kernel
theorem dX9_listening_42 : decode cX9_listening 42 = .ok (.aload_n 0, 1) := by decide +kernel
theorem dX9_listening_43 : decode cX9_listening 43 = .ok (.getfield 51, 3) := by decide +kernel
theorem dX9_listening_46 : decode cX9_listening 46 = .ok (.invokevirtual 311, 3) := by decide +kernel
theorem dX9_listening_49 : decode cX9_listening 49 = .ok (.iload_n 2, 1) := by decide +kernel
theorem dX9_listening_50 : decode cX9_listening 50 = .ok (.isub, 1) := by decide +kernel
theorem dX9_listening_51 : decode cX9_listening 51 = .ok (.invokestatic 314, 3) := by decide +kernel
theorem dX9_listening_54 : decode cX9_listening 54 = .ok (.isub, 1) := by decide +kernel
theorem dX9_listening_55 : decode cX9_listening 55 = .ok (.ireturn, 1) := by decide +kernel
theorem dX9_tower_0 : decode cX9_tower 0 = .ok (.aload_n 0, 1) := by decide +kernel
theorem dX9_tower_1 : decode cX9_tower 1 = .ok (.getfield 76, 3) := by decide +kernel
theorem dX9_tower_4 : decode cX9_tower 4 = .ok (.aload_n 0, 1) := by decide +kernel
theorem dX9_tower_5 : decode cX9_tower 5 = .ok (.getfield 41, 3) := by decide +kernel
theorem dX9_tower_8 : decode cX9_tower 8 = .ok (.invokevirtual 319, 3) := by decide +kernel
theorem dX9_tower_11 : decode cX9_tower 11 = .ok (.ireturn, 1) := by decide +kernel
theorem dX9_face_0 : decode cX9_face 0 = .ok (.aload_n 0, 1) := by decide +kernel
theorem dX9_face_1 : decode cX9_face 1 = .ok (.iload_n 1, 1) := by decide +kernel
theorem dX9_face_2 : decode cX9_face 2 = .ok (.invokevirtual 150, 3) := by decide +kernel
theorem dX9_face_5 : decode cX9_face 5 = .ok (.aload_n 0, 1) := by decide +kernel
theorem dX9_face_6 : decode cX9_face 6 = .ok (.getfield 41, 3) := by decide +kernel
theorem dX9_face_9 : decode cX9_face 9 = .ok (.iload_n 1, 1) := by decide +kernel
theorem dX9_face_10 : decode cX9_face 10 = .ok (.invokevirtual 161, 3) := by decide +kernel
theorem dX9_face_13 : decode cX9_face 13 = .ok (.istore_n 2, 1) := by decide +kernel
theorem dX9_face_14 : decode cX9_face 14 = .ok (.iconst 0, 1) := by decide +kernel
theorem dX9_face_15 : decode cX9_face 15 = .ok (.istore_n 3, 1) := by decide +kernel
theorem dX9_face_16 : decode cX9_face 16 = .ok (.iconst 0, 1) := by decide +kernel
theorem dX9_face_17 : decode cX9_face 17 = .ok (.istore 4, 2) := by decide +kernel
theorem dX9_face_19 : decode cX9_face 19 = .ok (.iload 4, 2) := by decide +kernel
theorem dX9_face_21 : decode cX9_face 21 = .ok (.aload_n 0, 1) := by decide +kernel
theorem dX9_face_22 : decode cX9_face 22 = .ok (.getfield 41, 3) := by decide +kernel
theorem dX9_face_25 : decode cX9_face 25 = .ok (.getfield 142, 3) := by decide +kernel
theorem dX9_face_28 : decode cX9_face 28 = .ok (.if_icmp .ge 37, 3) := by decide +kernel
theorem dX9_face_31 : decode cX9_face 31 = .ok (.iload 4, 2) := by decide +kernel
theorem dX9_face_33 : decode cX9_face 33 = .ok (.bipush 30, 2) := by decide +kernel
theorem dX9_face_35 : decode cX9_face 35 = .ok (.if_icmp .ge 30, 3) := by decide +kernel
theorem dX9_face_38 : decode cX9_face 38 = .ok (.aload_n 0, 1) := by decide +kernel
theorem dX9_face_39 : decode cX9_face 39 = .ok (.getfield 41, 3) := by decide +kernel
theorem dX9_face_42 : decode cX9_face 42 = .ok (.getfield 240, 3) := by decide +kernel
theorem dX9_face_45 : decode cX9_face 45 = .ok (.iload 4, 2) := by decide +kernel
theorem dX9_face_47 : decode cX9_face 47 = .ok (.iaload, 1) := by decide +kernel
theorem dX9_face_48 : decode cX9_face 48 = .ok (.iload_n 2, 1) := by decide +kernel
theorem dX9_face_49 : decode cX9_face 49 = .ok (.if_icmp .lt 10, 3) := by decide +kernel
theorem dX9_face_52 : decode cX9_face 52 = .ok (.iload_n 3, 1) := by decide +kernel
theorem dX9_face_53 : decode cX9_face 53 = .ok (.iconst 1, 1) := by decide +kernel
theorem dX9_face_54 : decode cX9_face 54 = .ok (.iload 4, 2) := by decide +kernel
theorem dX9_face_56 : decode cX9_face 56 = .ok (.ishl, 1) := by decide +kernel
theorem dX9_face_57 : decode cX9_face 57 = .ok (.ior, 1) := by decide +kernel
theorem dX9_face_58 : decode cX9_face 58 = .ok (.istore_n 3, 1) := by decide +kernel
theorem dX9_face_59 : decode cX9_face 59 = .ok (.iinc 4 1, 3) := by decide +kernel
theorem dX9_face_62 : decode cX9_face 62 = .ok (.goto (-43), 3) := by decide +kernel
theorem dX9_face_65 : decode cX9_face 65 = .ok (.iload_n 3, 1) := by decide +kernel
theorem dX9_face_66 : decode cX9_face 66 = .ok (.ireturn, 1) := by decide +kernel
theorem dX9_image_0 : decode cX9_image 0 = .ok (.aload_n 0, 1) := by decide +kernel
theorem dX9_image_1 : decode cX9_image 1 = .ok (.getfield 63, 3) := by decide +kernel
theorem dX9_image_4 : decode cX9_image 4 = .ok (.iconst 3, 1) := by decide +kernel
theorem dX9_image_5 : decode cX9_image 5 = .ok (.if_icmp .lt 5, 3) := by decide +kernel
theorem dX9_image_8 : decode cX9_image 8 = .ok (.iconst (-1), 1) := by decide +kernel
theorem dX9_image_9 : decode cX9_image 9 = .ok (.ireturn, 1) := by decide +kernel
theorem dX9_image_10 : decode cX9_image 10 = .ok (.aload_n 0, 1) := by decide +kernel
theorem dX9_image_11 : decode cX9_image 11 = .ok (.getfield 55, 3) := by decide +kernel
theorem dX9_image_14 : decode cX9_image 14 = .ok (.aload_n 0, 1) := by decide +kernel
theorem dX9_image_15 : decode cX9_image 15 = .ok (.getfield 63, 3) := by decide +kernel
theorem dX9_image_18 : decode cX9_image 18 = .ok (.aaload, 1) := by decide +kernel
theorem dX9_image_19 : decode cX9_image 19 = .ok (.aload_n 0, 1) := by decide +kernel
theorem dX9_image_20 : decode cX9_image 20 = .ok (.getfield 41, 3) := by decide +kernel
theorem dX9_image_23 : decode cX9_image 23 = .ok (.invokevirtual 323, 3) := by decide +kernel
theorem dX9_image_26 : decode cX9_image 26 = .ok (.aload_n 0, 1) := by decide +kernel
theorem dX9_image_27 : decode cX9_image 27 = .ok (.getfield 59, 3) := by decide +kernel
theorem dX9_image_30 : decode cX9_image 30 = .ok (.aload_n 0, 1) := by decide +kernel
theorem dX9_image_31 : decode cX9_image 31 = .ok (.getfield 63, 3) := by decide +kernel
theorem dX9_image_34 : decode cX9_image 34 = .ok (.aaload, 1) := by decide +kernel
theorem dX9_image_35 : decode cX9_image 35 = .ok (.aload_n 0, 1) := by decide +kernel
theorem dX9_image_36 : decode cX9_image 36 = .ok (.getfield 51, 3) := by decide +kernel
theorem dX9_image_39 : decode cX9_image 39 = .ok (.invokevirtual 326, 3) := by decide +kernel
theorem dX9_image_42 : decode cX9_image 42 = .ok (.aload_n 0, 1) := by decide +kernel
theorem dX9_image_43 : decode cX9_image 43 = .ok (.dup, 1) := by decide +kernel
theorem dX9_image_44 : decode cX9_image 44 = .ok (.getfield 63, 3) := by decide +kernel
theorem dX9_image_47 : decode cX9_image 47 = .ok (.iconst 1, 1) := by decide +kernel
theorem dX9_image_48 : decode cX9_image 48 = .ok (.iadd, 1) := by decide +kernel
theorem dX9_image_49 : decode cX9_image 49 = .ok (.putfield 63, 3) := by decide +kernel
theorem dX9_image_52 : decode cX9_image 52 = .ok (.aload_n 0, 1) := by decide +kernel
theorem dX9_image_53 : decode cX9_image 53 = .ok (.getfield 63, 3) := by decide +kernel
theorem dX9_image_56 : decode cX9_image 56 = .ok (.ireturn, 1) := by decide +kernel
theorem dX9_restore_0 : decode cX9_restore 0 = .ok (.aload_n 0, 1) := by decide +kernel
theorem dX9_restore_1 : decode cX9_restore 1 = .ok (.getfield 63, 3) := by decide +kernel
theorem dX9_restore_4 : decode cX9_restore 4 = .ok (.iconst 1, 1) := by decide +kernel
theorem dX9_restore_5 : decode cX9_restore 5 = .ok (.if_icmp .ge 5, 3) := by decide +kernel
theorem dX9_restore_8 : decode cX9_restore 8 = .ok (.iconst (-1), 1) := by decide +kernel
theorem dX9_restore_9 : decode cX9_restore 9 = .ok (.ireturn, 1) := by decide +kernel
theorem dX9_restore_10 : decode cX9_restore 10 = .ok (.aload_n 0, 1) := by decide +kernel
theorem dX9_restore_11 : decode cX9_restore 11 = .ok (.dup, 1) := by decide +kernel
theorem dX9_restore_12 : decode cX9_restore 12 = .ok (.getfield 63, 3) := by decide +kernel
theorem dX9_restore_15 : decode cX9_restore 15 = .ok (.iconst 1, 1) := by decide +kernel
theorem dX9_restore_16 : decode cX9_restore 16 = .ok (.isub, 1) := by decide +kernel
theorem dX9_restore_17 : decode cX9_restore 17 = .ok (.putfield 63, 3) := by decide +kernel
theorem dX9_restore_20 : decode cX9_restore 20 = .ok (.aload_n 0, 1) := by decide +kernel
theorem dX9_restore_21 : decode cX9_restore 21 = .ok (.getfield 41, 3) := by decide +kernel
theorem dX9_restore_24 : decode cX9_restore 24 = .ok (.aload_n 0, 1) := by decide +kernel
theorem dX9_restore_25 : decode cX9_restore 25 = .ok (.getfield 55, 3) := by decide +kernel
theorem dX9_restore_28 : decode cX9_restore 28 = .ok (.aload_n 0, 1) := by decide +kernel
theorem dX9_restore_29 : decode cX9_restore 29 = .ok (.getfield 63, 3) := by decide +kernel
theorem dX9_restore_32 : decode cX9_restore 32 = .ok (.aaload, 1) := by decide +kernel
theorem dX9_restore_33 : decode cX9_restore 33 = .ok (.invokevirtual 323, 3) := by decide +kernel
theorem dX9_restore_36 : decode cX9_restore 36 = .ok (.aload_n 0, 1) := by decide +kernel
theorem dX9_restore_37 : decode cX9_restore 37 = .ok (.getfield 51, 3) := by decide +kernel
theorem dX9_restore_40 : decode cX9_restore 40 = .ok (.aload_n 0, 1) := by decide +kernel
theorem dX9_restore_41 : decode cX9_restore 41 = .ok (.getfield 59, 3) := by decide +kernel
theorem dX9_restore_44 : decode cX9_restore 44 = .ok (.aload_n 0, 1) := by decide +kernel
theorem dX9_restore_45 : decode cX9_restore 45 = .ok (.getfield 63, 3) := by decide +kernel
theorem dX9_restore_48 : decode cX9_restore 48 = .ok (.aaload, 1) := by decide +kernel
theorem dX9_restore_49 : decode cX9_restore 49 = .ok (.invokevirtual 326, 3) := by decide +kernel
theorem dX9_restore_52 : decode cX9_restore 52 = .ok (.aload_n 0, 1) := by decide +kernel
theorem dX9_restore_53 : decode cX9_restore 53 = .ok (.iconst 0, 1) := by decide +kernel
theorem dX9_restore_54 : decode cX9_restore 54 = .ok (.putfield 83, 3) := by decide +kernel
theorem dX9_restore_57 : decode cX9_restore 57 = .ok (.aload_n 0, 1) := by decide +kernel
theorem dX9_restore_58 : decode cX9_restore 58 = .ok (.getfield 63, 3) := by decide +kernel
theorem dX9_restore_61 : decode cX9_restore 61 = .ok (.ireturn, 1) := by decide +kernel
theorem dX9_count_0 : decode cX9_count 0 = .ok (.iload_n 1, 1) := by decide +kernel
theorem dX9_count_1 : decode cX9_count 1 = .ok (.tableswitch 57 0 3 #[31, 39, 47, 52], 31) := by decide +kernel
theorem dX9_count_32 : decode cX9_count 32 = .ok (.aload_n 0, 1) := by decide +kernel
theorem dX9_count_33 : decode cX9_count 33 = .ok (.getfield 51, 3) := by decide +kernel
theorem dX9_count_36 : decode cX9_count 36 = .ok (.getfield 266, 3) := by decide +kernel
theorem dX9_count_39 : decode cX9_count 39 = .ok (.ireturn, 1) := by decide +kernel
theorem dX9_count_40 : decode cX9_count 40 = .ok (.aload_n 0, 1) := by decide +kernel
theorem dX9_count_41 : decode cX9_count 41 = .ok (.getfield 51, 3) := by decide +kernel
theorem dX9_count_44 : decode cX9_count 44 = .ok (.invokevirtual 311, 3) := by decide +kernel
theorem dX9_count_47 : decode cX9_count 47 = .ok (.ireturn, 1) := by decide +kernel
theorem dX9_count_48 : decode cX9_count 48 = .ok (.aload_n 0, 1) := by decide +kernel
theorem dX9_count_49 : decode cX9_count 49 = .ok (.getfield 63, 3) := by decide +kernel
theorem dX9_count_52 : decode cX9_count 52 = .ok (.ireturn, 1) := by decide +kernel
theorem dX9_count_53 : decode cX9_count 53 = .ok (.aload_n 0, 1) := by decide +kernel
theorem dX9_count_54 : decode cX9_count 54 = .ok (.getfield 13, 3) := by decide +kernel
theorem dX9_count_57 : decode cX9_count 57 = .ok (.ireturn, 1) := by decide +kernel
theorem dX9_count_58 : decode cX9_count 58 = .ok (.iconst (-1), 1) := by decide +kernel
theorem dX9_count_59 : decode cX9_count 59 = .ok (.ireturn, 1) := by decide +kernel
theorem dX9_putOnTape_0 : decode cX9_putOnTape 0 = .ok (.bipush 24, 2) := by decide +kernel
theorem dX9_putOnTape_2 : decode cX9_putOnTape 2 = .ok (.istore_n 2, 1) := by decide +kernel
theorem dX9_putOnTape_3 : decode cX9_putOnTape 3 = .ok (.iload_n 2, 1) := by decide +kernel
theorem dX9_putOnTape_4 : decode cX9_putOnTape 4 = .ok (.ifCond .lt 42, 3) := by decide +kernel
theorem dX9_putOnTape_7 : decode cX9_putOnTape 7 = .ok (.aload_n 0, 1) := by decide +kernel
theorem dX9_putOnTape_8 : decode cX9_putOnTape 8 = .ok (.getfield 13, 3) := by decide +kernel
theorem dX9_putOnTape_11 : decode cX9_putOnTape 11 = .ok (.sipush 600, 3) := by decide +kernel
theorem dX9_putOnTape_14 : decode cX9_putOnTape 14 = .ok (.if_icmp .ge 32, 3) := by decide +kernel
theorem dX9_putOnTape_17 : decode cX9_putOnTape 17 = .ok (.aload_n 0, 1) := by decide +kernel
theorem dX9_putOnTape_18 : decode cX9_putOnTape 18 = .ok (.getfield 9, 3) := by decide +kernel
theorem dX9_putOnTape_21 : decode cX9_putOnTape 21 = .ok (.aload_n 0, 1) := by decide +kernel
theorem dX9_putOnTape_22 : decode cX9_putOnTape 22 = .ok (.getfield 13, 3) := by decide +kernel
theorem dX9_putOnTape_25 : decode cX9_putOnTape 25 = .ok (.iload_n 1, 1) := by decide +kernel
theorem dX9_putOnTape_26 : decode cX9_putOnTape 26 = .ok (.iload_n 2, 1) := by decide +kernel
theorem dX9_putOnTape_27 : decode cX9_putOnTape 27 = .ok (.iushr, 1) := by decide +kernel
theorem dX9_putOnTape_28 : decode cX9_putOnTape 28 = .ok (.i2b, 1) := by decide +kernel
theorem dX9_putOnTape_29 : decode cX9_putOnTape 29 = .ok (.bastore, 1) := by decide +kernel
theorem dX9_putOnTape_30 : decode cX9_putOnTape 30 = .ok (.aload_n 0, 1) := by decide +kernel
theorem dX9_putOnTape_31 : decode cX9_putOnTape 31 = .ok (.dup, 1) := by decide +kernel
theorem dX9_putOnTape_32 : decode cX9_putOnTape 32 = .ok (.getfield 13, 3) := by decide +kernel
theorem dX9_putOnTape_35 : decode cX9_putOnTape 35 = .ok (.iconst 1, 1) := by decide +kernel
theorem dX9_putOnTape_36 : decode cX9_putOnTape 36 = .ok (.iadd, 1) := by decide +kernel
theorem dX9_putOnTape_37 : decode cX9_putOnTape 37 = .ok (.putfield 13, 3) := by decide +kernel
theorem dX9_putOnTape_40 : decode cX9_putOnTape 40 = .ok (.iinc 2 (-8), 3) := by decide +kernel
theorem dX9_putOnTape_43 : decode cX9_putOnTape 43 = .ok (.goto (-40), 3) := by decide +kernel
theorem dX9_putOnTape_46 : decode cX9_putOnTape 46 = .ok (.return_, 1) := by decide +kernel
theorem dX9_checkSlot_0 : decode cX9_checkSlot 0 = .ok (.iload_n 1, 1) := by decide +kernel
theorem dX9_checkSlot_1 : decode cX9_checkSlot 1 = .ok (.ifCond .lt 14, 3) := by decide +kernel
theorem dX9_checkSlot_4 : decode cX9_checkSlot 4 = .ok (.iload_n 1, 1) := by decide +kernel
theorem dX9_checkSlot_5 : decode cX9_checkSlot 5 = .ok (.aload_n 0, 1) := by decide +kernel
theorem dX9_checkSlot_6 : decode cX9_checkSlot 6 = .ok (.getfield 23, 3) := by decide +kernel
theorem dX9_checkSlot_9 : decode cX9_checkSlot 9 = .ok (.getfield 127, 3) := by decide +kernel
theorem dX9_checkSlot_12 : decode cX9_checkSlot 12 = .ok (.if_icmp .lt 14, 3) := by decide +kernel
theorem dX9_checkSlot_15 : decode cX9_checkSlot 15 = .ok (.new 329, 3) := by decide +kernel
theorem dX9_checkSlot_18 : decode cX9_checkSlot 18 = .ok (.dup, 1) := by decide +kernel
theorem dX9_checkSlot_19 : decode cX9_checkSlot 19 = .ok (.ldc_w 331, 3) := by decide +kernel
theorem dX9_checkSlot_22 : decode cX9_checkSlot 22 = .ok (.invokespecial 333, 3) := by decide +kernel
theorem dX9_checkSlot_25 : decode cX9_checkSlot 25 = .ok (.athrow, 1) := by decide +kernel
theorem dX9_checkSlot_26 : decode cX9_checkSlot 26 = .ok (.return_, 1) := by decide +kernel
theorem dX9_checkOrder_0 : decode cX9_checkOrder 0 = .ok (.iload_n 1, 1) := by decide +kernel
theorem dX9_checkOrder_1 : decode cX9_checkOrder 1 = .ok (.ifCond .lt 14, 3) := by decide +kernel
theorem dX9_checkOrder_4 : decode cX9_checkOrder 4 = .ok (.iload_n 1, 1) := by decide +kernel
theorem dX9_checkOrder_5 : decode cX9_checkOrder 5 = .ok (.aload_n 0, 1) := by decide +kernel
theorem dX9_checkOrder_6 : decode cX9_checkOrder 6 = .ok (.getfield 23, 3) := by decide +kernel
theorem dX9_checkOrder_9 : decode cX9_checkOrder 9 = .ok (.getfield 130, 3) := by decide +kernel
theorem dX9_checkOrder_12 : decode cX9_checkOrder 12 = .ok (.if_icmp .lt 14, 3) := by decide +kernel
theorem dX9_checkOrder_15 : decode cX9_checkOrder 15 = .ok (.new 329, 3) := by decide +kernel
theorem dX9_checkOrder_18 : decode cX9_checkOrder 18 = .ok (.dup, 1) := by decide +kernel
theorem dX9_checkOrder_19 : decode cX9_checkOrder 19 = .ok (.ldc_w 334, 3) := by decide +kernel
theorem dX9_checkOrder_22 : decode cX9_checkOrder 22 = .ok (.invokespecial 333, 3) := by decide +kernel
theorem dX9_checkOrder_25 : decode cX9_checkOrder 25 = .ok (.athrow, 1) := by decide +kernel
theorem dX9_checkOrder_26 : decode cX9_checkOrder 26 = .ok (.return_, 1) := by decide +kernel
theorem dX9_checkFill_0 : decode cX9_checkFill 0 = .ok (.iload_n 1, 1) := by decide +kernel
theorem dX9_checkFill_1 : decode cX9_checkFill 1 = .ok (.aload_n 0, 1) := by decide +kernel
theorem dX9_checkFill_2 : decode cX9_checkFill 2 = .ok (.getfield 41, 3) := by decide +kernel
theorem dX9_checkFill_5 : decode cX9_checkFill 5 = .ok (.bipush 12, 2) := by decide +kernel
theorem dX9_checkFill_7 : decode cX9_checkFill 7 = .ok (.invokevirtual 243, 3) := by decide +kernel
theorem dX9_checkFill_10 : decode cX9_checkFill 10 = .ok (.iconst (-1), 1) := by decide +kernel
theorem dX9_checkFill_11 : decode cX9_checkFill 11 = .ok (.ixor, 1) := by decide +kernel
theorem dX9_checkFill_12 : decode cX9_checkFill 12 = .ok (.iand, 1) := by decide +kernel
theorem dX9_checkFill_13 : decode cX9_checkFill 13 = .ok (.ifCond .eq 14, 3) := by decide +kernel
theorem dX9_checkFill_16 : decode cX9_checkFill 16 = .ok (.new 98, 3) := by decide +kernel
theorem dX9_checkFill_19 : decode cX9_checkFill 19 = .ok (.dup, 1) := by decide +kernel
theorem dX9_checkFill_20 : decode cX9_checkFill 20 = .ok (.ldc_w 336, 3) := by decide +kernel
theorem dX9_checkFill_23 : decode cX9_checkFill 23 = .ok (.invokespecial 102, 3) := by decide +kernel
theorem dX9_checkFill_26 : decode cX9_checkFill 26 = .ok (.athrow, 1) := by decide +kernel
theorem dX9_checkFill_27 : decode cX9_checkFill 27 = .ok (.iload_n 1, 1) := by decide +kernel
theorem dX9_checkFill_28 : decode cX9_checkFill 28 = .ok (.invokestatic 287, 3) := by decide +kernel
theorem dX9_checkFill_31 : decode cX9_checkFill 31 = .ok (.aload_n 0, 1) := by decide +kernel
theorem dX9_checkFill_32 : decode cX9_checkFill 32 = .ok (.getfield 23, 3) := by decide +kernel
theorem dX9_checkFill_35 : decode cX9_checkFill 35 = .ok (.getfield 133, 3) := by decide +kernel
theorem dX9_checkFill_38 : decode cX9_checkFill 38 = .ok (.if_icmp .le 14, 3) := by decide +kernel
theorem dX9_checkFill_41 : decode cX9_checkFill 41 = .ok (.new 98, 3) := by decide +kernel
theorem dX9_checkFill_44 : decode cX9_checkFill 44 = .ok (.dup, 1) := by decide +kernel
theorem dX9_checkFill_45 : decode cX9_checkFill 45 = .ok (.ldc_w 338, 3) := by decide +kernel
theorem dX9_checkFill_48 : decode cX9_checkFill 48 = .ok (.invokespecial 102, 3) := by decide +kernel
theorem dX9_checkFill_51 : decode cX9_checkFill 51 = .ok (.athrow, 1) := by decide +kernel
theorem dX9_checkFill_52 : decode cX9_checkFill 52 = .ok (.return_, 1) := by decide +kernel
theorem dX9_checkNightLeft_0 : decode cX9_checkNightLeft 0 = .ok (.aload_n 0, 1) := by decide +kernel
theorem dX9_checkNightLeft_1 : decode cX9_checkNightLeft 1 = .ok (.getfield 41, 3) := by decide +kernel
theorem dX9_checkNightLeft_4 : decode cX9_checkNightLeft 4 = .ok (.getfield 142, 3) := by decide +kernel
theorem dX9_checkNightLeft_7 : decode cX9_checkNightLeft 7 = .ok (.bipush 30, 2) := by decide +kernel
theorem dX9_checkNightLeft_9 : decode cX9_checkNightLeft 9 = .ok (.if_icmp .lt 14, 3) := by decide +kernel
theorem dX9_checkNightLeft_12 : decode cX9_checkNightLeft 12 = .ok (.new 340, 3) := by decide +kernel
theorem dX9_checkNightLeft_15 : decode cX9_checkNightLeft 15 = .ok (.dup, 1) := by decide +kernel
theorem dX9_checkNightLeft_16 : decode cX9_checkNightLeft 16 = .ok (.ldc_w 342, 3) := by decide +kernel
theorem dX9_checkNightLeft_19 : decode cX9_checkNightLeft 19 = .ok (.invokespecial 344, 3) := by decide +kernel
theorem dX9_checkNightLeft_22 : decode cX9_checkNightLeft 22 = .ok (.athrow, 1) := by decide +kernel
theorem dX9_checkNightLeft_23 : decode cX9_checkNightLeft 23 = .ok (.return_, 1) := by decide +kernel
theorem dX9_checkRange_0 : decode cX9_checkRange 0 = .ok (.iload_n 0, 1) := by decide +kernel
theorem dX9_checkRange_1 : decode cX9_checkRange 1 = .ok (.iload_n 1, 1) := by decide +kernel
theorem dX9_checkRange_2 : decode cX9_checkRange 2 = .ok (.if_icmp .lt 8, 3) := by decide +kernel
theorem dX9_checkRange_5 : decode cX9_checkRange 5 = .ok (.iload_n 0, 1) := by decide +kernel
theorem dX9_checkRange_6 : decode cX9_checkRange 6 = .ok (.iload_n 2, 1) := by decide +kernel
theorem dX9_checkRange_7 : decode cX9_checkRange 7 = .ok (.if_icmp .le 14, 3) := by decide +kernel
theorem dX9_checkRange_10 : decode cX9_checkRange 10 = .ok (.new 98, 3) := by decide +kernel
theorem dX9_checkRange_13 : decode cX9_checkRange 13 = .ok (.dup, 1) := by decide +kernel
theorem dX9_checkRange_14 : decode cX9_checkRange 14 = .ok (.ldc_w 345, 3) := by decide +kernel
theorem dX9_checkRange_17 : decode cX9_checkRange 17 = .ok (.invokespecial 102, 3) := by decide +kernel
theorem dX9_checkRange_20 : decode cX9_checkRange 20 = .ok (.athrow, 1) := by decide +kernel
theorem dX9_checkRange_21 : decode cX9_checkRange 21 = .ok (.return_, 1) := by decide +kernel
theorem dX9_followPlan_0 : decode cX9_followPlan 0 = .ok (.aload_n 0, 1) := by decide +kernel
theorem dX9_followPlan_1 : decode cX9_followPlan 1 = .ok (.getfield 45, 3) := by decide +kernel
theorem dX9_followPlan_4 : decode cX9_followPlan 4 = .ok (.aload_n 0, 1) := by decide +kernel
theorem dX9_followPlan_5 : decode cX9_followPlan 5 = .ok (.getfield 41, 3) := by decide +kernel
theorem dX9_followPlan_8 : decode cX9_followPlan 8 = .ok (.invokevirtual 323, 3) := by decide +kernel
theorem dX9_followPlan_11 : decode cX9_followPlan 11 = .ok (.aload_n 0, 1) := by decide +kernel
theorem dX9_followPlan_12 : decode cX9_followPlan 12 = .ok (.getfield 45, 3) := by decide +kernel
theorem dX9_followPlan_15 : decode cX9_followPlan 15 = .ok (.getfield 195, 3) := by decide +kernel
theorem dX9_followPlan_18 : decode cX9_followPlan 18 = .ok (.iload_n 1, 1) := by decide +kernel
theorem dX9_followPlan_19 : decode cX9_followPlan 19 = .ok (.putfield 199, 3) := by decide +kernel
theorem dX9_followPlan_22 : decode cX9_followPlan 22 = .ok (.aload_n 0, 1) := by decide +kernel
theorem dX9_followPlan_23 : decode cX9_followPlan 23 = .ok (.iconst 0, 1) := by decide +kernel
theorem dX9_followPlan_24 : decode cX9_followPlan 24 = .ok (.putfield 80, 3) := by decide +kernel
theorem dX9_followPlan_27 : decode cX9_followPlan 27 = .ok (.iconst 0, 1) := by decide +kernel
theorem dX9_followPlan_28 : decode cX9_followPlan 28 = .ok (.istore_n 2, 1) := by decide +kernel
theorem dX9_followPlan_29 : decode cX9_followPlan 29 = .ok (.iload_n 2, 1) := by decide +kernel
theorem dX9_followPlan_30 : decode cX9_followPlan 30 = .ok (.aload_n 0, 1) := by decide +kernel
theorem dX9_followPlan_31 : decode cX9_followPlan 31 = .ok (.getfield 51, 3) := by decide +kernel
theorem dX9_followPlan_34 : decode cX9_followPlan 34 = .ok (.getfield 266, 3) := by decide +kernel
theorem dX9_followPlan_37 : decode cX9_followPlan 37 = .ok (.if_icmp .ge 74, 3) := by decide +kernel
theorem dX9_followPlan_40 : decode cX9_followPlan 40 = .ok (.aload_n 0, 1) := by decide +kernel
theorem dX9_followPlan_41 : decode cX9_followPlan 41 = .ok (.getfield 45, 3) := by decide +kernel
theorem dX9_followPlan_44 : decode cX9_followPlan 44 = .ok (.getfield 142, 3) := by decide +kernel
theorem dX9_followPlan_47 : decode cX9_followPlan 47 = .ok (.bipush 30, 2) := by decide +kernel
theorem dX9_followPlan_49 : decode cX9_followPlan 49 = .ok (.if_icmp .ge 62, 3) := by decide +kernel
theorem dX9_followPlan_52 : decode cX9_followPlan 52 = .ok (.aload_n 0, 1) := by decide +kernel
theorem dX9_followPlan_53 : decode cX9_followPlan 53 = .ok (.getfield 45, 3) := by decide +kernel
theorem dX9_followPlan_56 : decode cX9_followPlan 56 = .ok (.aload_n 0, 1) := by decide +kernel
theorem dX9_followPlan_57 : decode cX9_followPlan 57 = .ok (.getfield 51, 3) := by decide +kernel
theorem dX9_followPlan_60 : decode cX9_followPlan 60 = .ok (.iload_n 2, 1) := by decide +kernel
theorem dX9_followPlan_61 : decode cX9_followPlan 61 = .ok (.invokevirtual 347, 3) := by decide +kernel
theorem dX9_followPlan_64 : decode cX9_followPlan 64 = .ok (.invokevirtual 350, 3) := by decide +kernel
theorem dX9_followPlan_67 : decode cX9_followPlan 67 = .ok (.istore_n 3, 1) := by decide +kernel
theorem dX9_followPlan_68 : decode cX9_followPlan 68 = .ok (.iload_n 3, 1) := by decide +kernel
theorem dX9_followPlan_69 : decode cX9_followPlan 69 = .ok (.ifCond .ne 13, 3) := by decide +kernel
theorem dX9_followPlan_72 : decode cX9_followPlan 72 = .ok (.aload_n 0, 1) := by decide +kernel
theorem dX9_followPlan_73 : decode cX9_followPlan 73 = .ok (.dup, 1) := by decide +kernel
theorem dX9_followPlan_74 : decode cX9_followPlan 74 = .ok (.getfield 80, 3) := by decide +kernel
theorem dX9_followPlan_77 : decode cX9_followPlan 77 = .ok (.iconst 1, 1) := by decide +kernel
theorem dX9_followPlan_78 : decode cX9_followPlan 78 = .ok (.iadd, 1) := by decide +kernel
theorem dX9_followPlan_79 : decode cX9_followPlan 79 = .ok (.putfield 80, 3) := by decide +kernel
theorem dX9_followPlan_82 : decode cX9_followPlan 82 = .ok (.aload_n 0, 1) := by decide +kernel
theorem dX9_followPlan_83 : decode cX9_followPlan 83 = .ok (.getfield 45, 3) := by decide +kernel
theorem dX9_followPlan_86 : decode cX9_followPlan 86 = .ok (.iload_n 3, 1) := by decide +kernel
theorem dX9_followPlan_87 : decode cX9_followPlan 87 = .ok (.aload_n 0, 1) := by decide +kernel
theorem dX9_followPlan_88 : decode cX9_followPlan 88 = .ok (.getfield 45, 3) := by decide +kernel
theorem dX9_followPlan_91 : decode cX9_followPlan 91 = .ok (.invokevirtual 210, 3) := by decide +kernel
theorem dX9_followPlan_94 : decode cX9_followPlan 94 = .ok (.aload_n 0, 1) := by decide +kernel
theorem dX9_followPlan_95 : decode cX9_followPlan 95 = .ok (.getfield 45, 3) := by decide +kernel
theorem dX9_followPlan_98 : decode cX9_followPlan 98 = .ok (.getfield 195, 3) := by decide +kernel
theorem dX9_followPlan_101 : decode cX9_followPlan 101 = .ok (.invokevirtual 214, 3) := by decide +kernel
theorem dX9_followPlan_104 : decode cX9_followPlan 104 = .ok (.pop, 1) := by decide +kernel
theorem dX9_followPlan_105 : decode cX9_followPlan 105 = .ok (.iinc 2 1, 3) := by decide +kernel
theorem dX9_followPlan_108 : decode cX9_followPlan 108 = .ok (.goto (-79), 3) := by decide +kernel
theorem dX9_followPlan_111 : decode cX9_followPlan 111 = .ok (.return_, 1) := by decide +kernel
theorem dX9_foresee_0 : decode cX9_foresee 0 = .ok (.aload_n 0, 1) := by decide +kernel
theorem dX9_foresee_1 : decode cX9_foresee 1 = .ok (.getfield 83, 3) := by decide +kernel
theorem dX9_foresee_4 : decode cX9_foresee 4 = .ok (.ifCond .ne 35, 3) := by decide +kernel
theorem dX9_foresee_7 : decode cX9_foresee 7 = .ok (.aload_n 0, 1) := by decide +kernel
theorem dX9_foresee_8 : decode cX9_foresee 8 = .ok (.aload_n 0, 1) := by decide +kernel
theorem dX9_foresee_9 : decode cX9_foresee 9 = .ok (.getfield 69, 3) := by decide +kernel
theorem dX9_foresee_12 : decode cX9_foresee 12 = .ok (.aload_n 0, 1) := by decide +kernel
theorem dX9_foresee_13 : decode cX9_foresee 13 = .ok (.getfield 41, 3) := by decide +kernel
theorem dX9_foresee_16 : decode cX9_foresee 16 = .ok (.iconst 2, 1) := by decide +kernel
theorem dX9_foresee_17 : decode cX9_foresee 17 = .ok (.invokevirtual 353, 3) := by decide +kernel
theorem dX9_foresee_20 : decode cX9_foresee 20 = .ok (.putfield 90, 3) := by decide +kernel
theorem dX9_foresee_23 : decode cX9_foresee 23 = .ok (.aload_n 0, 1) := by decide +kernel
theorem dX9_foresee_24 : decode cX9_foresee 24 = .ok (.aload_n 0, 1) := by decide +kernel
theorem dX9_foresee_25 : decode cX9_foresee 25 = .ok (.getfield 69, 3) := by decide +kernel
theorem dX9_foresee_28 : decode cX9_foresee 28 = .ok (.getfield 357, 3) := by decide +kernel
theorem dX9_foresee_31 : decode cX9_foresee 31 = .ok (.putfield 87, 3) := by decide +kernel
theorem dX9_foresee_34 : decode cX9_foresee 34 = .ok (.aload_n 0, 1) := by decide +kernel
theorem dX9_foresee_35 : decode cX9_foresee 35 = .ok (.iconst 1, 1) := by decide +kernel
theorem dX9_foresee_36 : decode cX9_foresee 36 = .ok (.putfield 83, 3) := by decide +kernel
theorem dX9_foresee_39 : decode cX9_foresee 39 = .ok (.return_, 1) := by decide +kernel
theorem dX9_sumIfDeeper_0 : decode cX9_sumIfDeeper 0 = .ok (.aload_n 0, 1) := by decide +kernel
theorem dX9_sumIfDeeper_1 : decode cX9_sumIfDeeper 1 = .ok (.getfield 45, 3) := by decide +kernel
theorem dX9_sumIfDeeper_4 : decode cX9_sumIfDeeper 4 = .ok (.aload_n 0, 1) := by decide +kernel
theorem dX9_sumIfDeeper_5 : decode cX9_sumIfDeeper 5 = .ok (.getfield 41, 3) := by decide +kernel
theorem dX9_sumIfDeeper_8 : decode cX9_sumIfDeeper 8 = .ok (.invokevirtual 323, 3) := by decide +kernel
theorem dX9_sumIfDeeper_11 : decode cX9_sumIfDeeper 11 = .ok (.aload_n 0, 1) := by decide +kernel
theorem dX9_sumIfDeeper_12 : decode cX9_sumIfDeeper 12 = .ok (.getfield 45, 3) := by decide +kernel
theorem dX9_sumIfDeeper_15 : decode cX9_sumIfDeeper 15 = .ok (.getfield 157, 3) := by decide +kernel
theorem dX9_sumIfDeeper_18 : decode cX9_sumIfDeeper 18 = .ok (.iload_n 1, 1) := by decide +kernel
theorem dX9_sumIfDeeper_19 : decode cX9_sumIfDeeper 19 = .ok (.bipush 9, 2) := by decide +kernel
theorem dX9_sumIfDeeper_21 : decode cX9_sumIfDeeper 21 = .ok (.aload_n 0, 1) := by decide +kernel
theorem dX9_sumIfDeeper_22 : decode cX9_sumIfDeeper 22 = .ok (.getfield 41, 3) := by decide +kernel
theorem dX9_sumIfDeeper_25 : decode cX9_sumIfDeeper 25 = .ok (.getfield 157, 3) := by decide +kernel
theorem dX9_sumIfDeeper_28 : decode cX9_sumIfDeeper 28 = .ok (.iload_n 1, 1) := by decide +kernel
theorem dX9_sumIfDeeper_29 : decode cX9_sumIfDeeper 29 = .ok (.iaload, 1) := by decide +kernel
theorem dX9_sumIfDeeper_30 : decode cX9_sumIfDeeper 30 = .ok (.iconst 1, 1) := by decide +kernel
theorem dX9_sumIfDeeper_31 : decode cX9_sumIfDeeper 31 = .ok (.iadd, 1) := by decide +kernel
theorem dX9_sumIfDeeper_32 : decode cX9_sumIfDeeper 32 = .ok (.invokestatic 360, 3) := by decide +kernel
theorem dX9_sumIfDeeper_35 : decode cX9_sumIfDeeper 35 = .ok (.iastore, 1) := by decide +kernel
theorem dX9_sumIfDeeper_36 : decode cX9_sumIfDeeper 36 = .ok (.aload_n 0, 1) := by decide +kernel
theorem dX9_sumIfDeeper_37 : decode cX9_sumIfDeeper 37 = .ok (.getfield 69, 3) := by decide +kernel
theorem dX9_sumIfDeeper_40 : decode cX9_sumIfDeeper 40 = .ok (.aload_n 0, 1) := by decide +kernel
theorem dX9_sumIfDeeper_41 : decode cX9_sumIfDeeper 41 = .ok (.getfield 45, 3) := by decide +kernel
theorem dX9_sumIfDeeper_44 : decode cX9_sumIfDeeper 44 = .ok (.iconst 2, 1) := by decide +kernel
theorem dX9_sumIfDeeper_45 : decode cX9_sumIfDeeper 45 = .ok (.invokevirtual 353, 3) := by decide +kernel
theorem dX9_sumIfDeeper_48 : decode cX9_sumIfDeeper 48 = .ok (.lreturn, 1) := by decide +kernel
theorem dX9_inLeastTerms_0 : decode cX9_inLeastTerms 0 = .ok (.lload_n 0, 1) := by decide +kernel
theorem dX9_inLeastTerms_1 : decode cX9_inLeastTerms 1 = .ok (.lstore 5, 2) := by decide +kernel
theorem dX9_inLeastTerms_3 : decode cX9_inLeastTerms 3 = .ok (.lload_n 2, 1) := by decide +kernel
theorem dX9_inLeastTerms_4 : decode cX9_inLeastTerms 4 = .ok (.lstore 7, 2) := by decide +kernel
theorem dX9_inLeastTerms_6 : decode cX9_inLeastTerms 6 = .ok (.iconst 0, 1) := by decide +kernel
theorem dX9_inLeastTerms_7 : decode cX9_inLeastTerms 7 = .ok (.istore 9, 2) := by decide +kernel
theorem dX9_inLeastTerms_9 : decode cX9_inLeastTerms 9 = .ok (.iload 9, 2) := by decide +kernel
theorem dX9_inLeastTerms_11 : decode cX9_inLeastTerms 11 = .ok (.bipush 100, 2) := by decide +kernel
theorem dX9_inLeastTerms_13 : decode cX9_inLeastTerms 13 = .ok (.if_icmp .ge 31, 3) := by decide +kernel
theorem dX9_inLeastTerms_16 : decode cX9_inLeastTerms 16 = .ok (.lload 7, 2) := by decide +kernel
theorem dX9_inLeastTerms_18 : decode cX9_inLeastTerms 18 = .ok (.lconst 0, 1) := by decide +kernel
theorem dX9_inLeastTerms_19 : decode cX9_inLeastTerms 19 = .ok (.lcmp, 1) := by decide +kernel
theorem dX9_inLeastTerms_20 : decode cX9_inLeastTerms 20 = .ok (.ifCond .eq 24, 3) := by decide +kernel
theorem dX9_inLeastTerms_23 : decode cX9_inLeastTerms 23 = .ok (.lload 5, 2) := by decide +kernel
theorem dX9_inLeastTerms_25 : decode cX9_inLeastTerms 25 = .ok (.lload 7, 2) := by decide +kernel
theorem dX9_inLeastTerms_27 : decode cX9_inLeastTerms 27 = .ok (.lrem, 1) := by decide +kernel
theorem dX9_inLeastTerms_28 : decode cX9_inLeastTerms 28 = .ok (.lstore 10, 2) := by decide +kernel
theorem dX9_inLeastTerms_30 : decode cX9_inLeastTerms 30 = .ok (.lload 7, 2) := by decide +kernel
theorem dX9_inLeastTerms_32 : decode cX9_inLeastTerms 32 = .ok (.lstore 5, 2) := by decide +kernel
theorem dX9_inLeastTerms_34 : decode cX9_inLeastTerms 34 = .ok (.lload 10, 2) := by decide +kernel
theorem dX9_inLeastTerms_36 : decode cX9_inLeastTerms 36 = .ok (.lstore 7, 2) := by decide +kernel
theorem dX9_inLeastTerms_38 : decode cX9_inLeastTerms 38 = .ok (.iinc 9 1, 3) := by decide +kernel
theorem dX9_inLeastTerms_41 : decode cX9_inLeastTerms 41 = .ok (.goto (-32), 3) := by decide +kernel
theorem dX9_inLeastTerms_44 : decode cX9_inLeastTerms 44 = .ok (.iload 4, 2) := by decide +kernel
theorem dX9_inLeastTerms_46 : decode cX9_inLeastTerms 46 = .ok (.ifCond .ne 7, 3) := by decide +kernel
theorem dX9_inLeastTerms_49 : decode cX9_inLeastTerms 49 = .ok (.lload_n 0, 1) := by decide +kernel
theorem dX9_inLeastTerms_50 : decode cX9_inLeastTerms 50 = .ok (.goto 4, 3) := by decide +kernel
theorem dX9_inLeastTerms_53 : decode cX9_inLeastTerms 53 = .ok (.lload_n 2, 1) := by decide +kernel
theorem dX9_inLeastTerms_54 : decode cX9_inLeastTerms 54 = .ok (.lstore 9, 2) := by decide +kernel
theorem dX9_inLeastTerms_56 : decode cX9_inLeastTerms 56 = .ok (.lload 5, 2) := by decide +kernel
theorem dX9_inLeastTerms_58 : decode cX9_inLeastTerms 58 = .ok (.lconst 0, 1) := by decide +kernel
theorem dX9_inLeastTerms_59 : decode cX9_inLeastTerms 59 = .ok (.lcmp, 1) := by decide +kernel
theorem dX9_inLeastTerms_60 : decode cX9_inLeastTerms 60 = .ok (.ifCond .ne 8, 3) := by decide +kernel
theorem dX9_inLeastTerms_63 : decode cX9_inLeastTerms 63 = .ok (.lload 9, 2) := by decide +kernel
theorem dX9_inLeastTerms_65 : decode cX9_inLeastTerms 65 = .ok (.goto 8, 3) := by decide +kernel
theorem dX9_inLeastTerms_68 : decode cX9_inLeastTerms 68 = .ok (.lload 9, 2) := by decide +kernel
theorem dX9_inLeastTerms_70 : decode cX9_inLeastTerms 70 = .ok (.lload 5, 2) := by decide +kernel
theorem dX9_inLeastTerms_72 : decode cX9_inLeastTerms 72 = .ok (.ldiv, 1) := by decide +kernel
theorem dX9_inLeastTerms_73 : decode cX9_inLeastTerms 73 = .ok (.lreturn, 1) := by decide +kernel
