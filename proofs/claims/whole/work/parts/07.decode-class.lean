/-! ===== the instructions of the class ===== -/
theorem d_X_init_0 : decode b_X_init 0 = .ok (.aload_n 0, 1) := by decide +kernel
theorem d_X_init_1 : decode b_X_init 1 = .ok (.invokespecial 3, 3) := by decide +kernel
theorem d_X_init_4 : decode b_X_init 4 = .ok (.aload_n 0, 1) := by decide +kernel
theorem d_X_init_5 : decode b_X_init 5 = .ok (.new 9, 3) := by decide +kernel
theorem d_X_init_8 : decode b_X_init 8 = .ok (.dup, 1) := by decide +kernel
theorem d_X_init_9 : decode b_X_init 9 = .ok (.invokespecial 11, 3) := by decide +kernel
theorem d_X_init_12 : decode b_X_init 12 = .ok (.putfield 12, 3) := by decide +kernel
theorem d_X_init_15 : decode b_X_init 15 = .ok (.aload_n 0, 1) := by decide +kernel
theorem d_X_init_16 : decode b_X_init 16 = .ok (.new 9, 3) := by decide +kernel
theorem d_X_init_19 : decode b_X_init 19 = .ok (.dup, 1) := by decide +kernel
theorem d_X_init_20 : decode b_X_init 20 = .ok (.invokespecial 11, 3) := by decide +kernel
theorem d_X_init_23 : decode b_X_init 23 = .ok (.putfield 16, 3) := by decide +kernel
theorem d_X_init_26 : decode b_X_init 26 = .ok (.aload_n 0, 1) := by decide +kernel
theorem d_X_init_27 : decode b_X_init 27 = .ok (.new 19, 3) := by decide +kernel
theorem d_X_init_30 : decode b_X_init 30 = .ok (.dup, 1) := by decide +kernel
theorem d_X_init_31 : decode b_X_init 31 = .ok (.invokespecial 21, 3) := by decide +kernel
theorem d_X_init_34 : decode b_X_init 34 = .ok (.putfield 22, 3) := by decide +kernel
theorem d_X_init_37 : decode b_X_init 37 = .ok (.aload_n 0, 1) := by decide +kernel
theorem d_X_init_38 : decode b_X_init 38 = .ok (.new 26, 3) := by decide +kernel
theorem d_X_init_41 : decode b_X_init 41 = .ok (.dup, 1) := by decide +kernel
theorem d_X_init_42 : decode b_X_init 42 = .ok (.invokespecial 28, 3) := by decide +kernel
theorem d_X_init_45 : decode b_X_init 45 = .ok (.putfield 29, 3) := by decide +kernel
theorem d_X_init_48 : decode b_X_init 48 = .ok (.aload_n 0, 1) := by decide +kernel
theorem d_X_init_49 : decode b_X_init 49 = .ok (.new 33, 3) := by decide +kernel
theorem d_X_init_52 : decode b_X_init 52 = .ok (.dup, 1) := by decide +kernel
theorem d_X_init_53 : decode b_X_init 53 = .ok (.invokespecial 35, 3) := by decide +kernel
theorem d_X_init_56 : decode b_X_init 56 = .ok (.putfield 36, 3) := by decide +kernel
theorem d_X_init_59 : decode b_X_init 59 = .ok (.aload_n 0, 1) := by decide +kernel
theorem d_X_init_60 : decode b_X_init 60 = .ok (.iconst 0, 1) := by decide +kernel
theorem d_X_init_61 : decode b_X_init 61 = .ok (.putfield 40, 3) := by decide +kernel
theorem d_X_init_64 : decode b_X_init 64 = .ok (.aload_n 0, 1) := by decide +kernel
theorem d_X_init_65 : decode b_X_init 65 = .ok (.iconst 0, 1) := by decide +kernel
theorem d_X_init_66 : decode b_X_init 66 = .ok (.putfield 44, 3) := by decide +kernel
theorem d_X_init_69 : decode b_X_init 69 = .ok (.aload_n 0, 1) := by decide +kernel
theorem d_X_init_70 : decode b_X_init 70 = .ok (.iconst (-1), 1) := by decide +kernel
theorem d_X_init_71 : decode b_X_init 71 = .ok (.putfield 48, 3) := by decide +kernel
theorem d_X_init_74 : decode b_X_init 74 = .ok (.aload_n 0, 1) := by decide +kernel
theorem d_X_init_75 : decode b_X_init 75 = .ok (.iconst (-1), 1) := by decide +kernel
theorem d_X_init_76 : decode b_X_init 76 = .ok (.putfield 51, 3) := by decide +kernel
theorem d_X_init_79 : decode b_X_init 79 = .ok (.return_, 1) := by decide +kernel
theorem d_X_clear_0 : decode b_X_clear 0 = .ok (.aload_n 0, 1) := by decide +kernel
theorem d_X_clear_1 : decode b_X_clear 1 = .ok (.getfield 12, 3) := by decide +kernel
theorem d_X_clear_4 : decode b_X_clear 4 = .ok (.getfield 54, 3) := by decide +kernel
theorem d_X_clear_7 : decode b_X_clear 7 = .ok (.istore_n 1, 1) := by decide +kernel
theorem d_X_clear_8 : decode b_X_clear 8 = .ok (.aload_n 0, 1) := by decide +kernel
theorem d_X_clear_9 : decode b_X_clear 9 = .ok (.getfield 12, 3) := by decide +kernel
theorem d_X_clear_12 : decode b_X_clear 12 = .ok (.invokevirtual 57, 3) := by decide +kernel
theorem d_X_clear_15 : decode b_X_clear 15 = .ok (.aload_n 0, 1) := by decide +kernel
theorem d_X_clear_16 : decode b_X_clear 16 = .ok (.getfield 22, 3) := by decide +kernel
theorem d_X_clear_19 : decode b_X_clear 19 = .ok (.invokevirtual 60, 3) := by decide +kernel
theorem d_X_clear_22 : decode b_X_clear 22 = .ok (.aload_n 0, 1) := by decide +kernel
theorem d_X_clear_23 : decode b_X_clear 23 = .ok (.iconst 0, 1) := by decide +kernel
theorem d_X_clear_24 : decode b_X_clear 24 = .ok (.putfield 44, 3) := by decide +kernel
theorem d_X_clear_27 : decode b_X_clear 27 = .ok (.iload_n 1, 1) := by decide +kernel
theorem d_X_clear_28 : decode b_X_clear 28 = .ok (.ireturn, 1) := by decide +kernel
theorem d_X_isConsistent_0 : decode b_X_isConsistent 0 = .ok (.aload_n 0, 1) := by decide +kernel
theorem d_X_isConsistent_1 : decode b_X_isConsistent 1 = .ok (.getfield 12, 3) := by decide +kernel
theorem d_X_isConsistent_4 : decode b_X_isConsistent 4 = .ok (.invokevirtual 361, 3) := by decide +kernel
theorem d_X_isConsistent_7 : decode b_X_isConsistent 7 = .ok (.aload_n 0, 1) := by decide +kernel
theorem d_X_isConsistent_8 : decode b_X_isConsistent 8 = .ok (.getfield 12, 3) := by decide +kernel
theorem d_X_isConsistent_11 : decode b_X_isConsistent 11 = .ok (.invokevirtual 364, 3) := by decide +kernel
theorem d_X_isConsistent_14 : decode b_X_isConsistent 14 = .ok (.aload_n 0, 1) := by decide +kernel
theorem d_X_isConsistent_15 : decode b_X_isConsistent 15 = .ok (.invokevirtual 367, 3) := by decide +kernel
theorem d_X_isConsistent_18 : decode b_X_isConsistent 18 = .ok (.iadd, 1) := by decide +kernel
theorem d_X_isConsistent_19 : decode b_X_isConsistent 19 = .ok (.aload_n 0, 1) := by decide +kernel
theorem d_X_isConsistent_20 : decode b_X_isConsistent 20 = .ok (.getfield 12, 3) := by decide +kernel
theorem d_X_isConsistent_23 : decode b_X_isConsistent 23 = .ok (.invokevirtual 370, 3) := by decide +kernel
theorem d_X_isConsistent_26 : decode b_X_isConsistent 26 = .ok (.iadd, 1) := by decide +kernel
theorem d_X_isConsistent_27 : decode b_X_isConsistent 27 = .ok (.if_icmp .ne 7, 3) := by decide +kernel
theorem d_X_isConsistent_30 : decode b_X_isConsistent 30 = .ok (.iconst 1, 1) := by decide +kernel
theorem d_X_isConsistent_31 : decode b_X_isConsistent 31 = .ok (.goto 4, 3) := by decide +kernel
theorem d_X_isConsistent_34 : decode b_X_isConsistent 34 = .ok (.iconst 0, 1) := by decide +kernel
theorem d_X_isConsistent_35 : decode b_X_isConsistent 35 = .ok (.istore_n 1, 1) := by decide +kernel
theorem d_X_isConsistent_36 : decode b_X_isConsistent 36 = .ok (.aload_n 0, 1) := by decide +kernel
theorem d_X_isConsistent_37 : decode b_X_isConsistent 37 = .ok (.getfield 12, 3) := by decide +kernel
theorem d_X_isConsistent_40 : decode b_X_isConsistent 40 = .ok (.invokevirtual 391, 3) := by decide +kernel
theorem d_X_isConsistent_43 : decode b_X_isConsistent 43 = .ok (.aload_n 0, 1) := by decide +kernel
theorem d_X_isConsistent_44 : decode b_X_isConsistent 44 = .ok (.getfield 12, 3) := by decide +kernel
theorem d_X_isConsistent_47 : decode b_X_isConsistent 47 = .ok (.invokevirtual 193, 3) := by decide +kernel
theorem d_X_isConsistent_50 : decode b_X_isConsistent 50 = .ok (.if_icmp .ne 7, 3) := by decide +kernel
theorem d_X_isConsistent_53 : decode b_X_isConsistent 53 = .ok (.iconst 1, 1) := by decide +kernel
theorem d_X_isConsistent_54 : decode b_X_isConsistent 54 = .ok (.goto 4, 3) := by decide +kernel
theorem d_X_isConsistent_57 : decode b_X_isConsistent 57 = .ok (.iconst 0, 1) := by decide +kernel
theorem d_X_isConsistent_58 : decode b_X_isConsistent 58 = .ok (.istore_n 2, 1) := by decide +kernel
theorem d_X_isConsistent_59 : decode b_X_isConsistent 59 = .ok (.iload_n 1, 1) := by decide +kernel
theorem d_X_isConsistent_60 : decode b_X_isConsistent 60 = .ok (.ifCond .eq 21, 3) := by decide +kernel
theorem d_X_isConsistent_63 : decode b_X_isConsistent 63 = .ok (.iload_n 2, 1) := by decide +kernel
theorem d_X_isConsistent_64 : decode b_X_isConsistent 64 = .ok (.ifCond .eq 17, 3) := by decide +kernel
theorem d_X_isConsistent_67 : decode b_X_isConsistent 67 = .ok (.aload_n 0, 1) := by decide +kernel
theorem d_X_isConsistent_68 : decode b_X_isConsistent 68 = .ok (.getfield 12, 3) := by decide +kernel
theorem d_X_isConsistent_71 : decode b_X_isConsistent 71 = .ok (.invokevirtual 394, 3) := by decide +kernel
theorem d_X_isConsistent_74 : decode b_X_isConsistent 74 = .ok (.ifCond .eq 7, 3) := by decide +kernel
theorem d_X_isConsistent_77 : decode b_X_isConsistent 77 = .ok (.iconst 1, 1) := by decide +kernel
theorem d_X_isConsistent_78 : decode b_X_isConsistent 78 = .ok (.goto 4, 3) := by decide +kernel
theorem d_X_isConsistent_81 : decode b_X_isConsistent 81 = .ok (.iconst 0, 1) := by decide +kernel
theorem d_X_isConsistent_82 : decode b_X_isConsistent 82 = .ok (.ireturn, 1) := by decide +kernel
theorem d_X_allShares_0 : decode b_X_allShares 0 = .ok (.iconst 0, 1) := by decide +kernel
theorem d_X_allShares_1 : decode b_X_allShares 1 = .ok (.istore_n 1, 1) := by decide +kernel
theorem d_X_allShares_2 : decode b_X_allShares 2 = .ok (.iconst 0, 1) := by decide +kernel
theorem d_X_allShares_3 : decode b_X_allShares 3 = .ok (.istore_n 2, 1) := by decide +kernel
theorem d_X_allShares_4 : decode b_X_allShares 4 = .ok (.iload_n 2, 1) := by decide +kernel
theorem d_X_allShares_5 : decode b_X_allShares 5 = .ok (.iconst 4, 1) := by decide +kernel
theorem d_X_allShares_6 : decode b_X_allShares 6 = .ok (.if_icmp .ge 17, 3) := by decide +kernel
theorem d_X_allShares_9 : decode b_X_allShares 9 = .ok (.iload_n 1, 1) := by decide +kernel
theorem d_X_allShares_10 : decode b_X_allShares 10 = .ok (.aload_n 0, 1) := by decide +kernel
theorem d_X_allShares_11 : decode b_X_allShares 11 = .ok (.iload_n 2, 1) := by decide +kernel
theorem d_X_allShares_12 : decode b_X_allShares 12 = .ok (.invokevirtual 347, 3) := by decide +kernel
theorem d_X_allShares_15 : decode b_X_allShares 15 = .ok (.iadd, 1) := by decide +kernel
theorem d_X_allShares_16 : decode b_X_allShares 16 = .ok (.istore_n 1, 1) := by decide +kernel
theorem d_X_allShares_17 : decode b_X_allShares 17 = .ok (.iinc 2 1, 3) := by decide +kernel
theorem d_X_allShares_20 : decode b_X_allShares 20 = .ok (.goto (-16), 3) := by decide +kernel
theorem d_X_allShares_23 : decode b_X_allShares 23 = .ok (.iload_n 1, 1) := by decide +kernel
theorem d_X_allShares_24 : decode b_X_allShares 24 = .ok (.ireturn, 1) := by decide +kernel
theorem d_X_sharesOf_0 : decode b_X_sharesOf 0 = .ok (.iconst 0, 1) := by decide +kernel
theorem d_X_sharesOf_1 : decode b_X_sharesOf 1 = .ok (.istore_n 2, 1) := by decide +kernel
theorem d_X_sharesOf_2 : decode b_X_sharesOf 2 = .ok (.aload_n 0, 1) := by decide +kernel
theorem d_X_sharesOf_3 : decode b_X_sharesOf 3 = .ok (.getfield 12, 3) := by decide +kernel
theorem d_X_sharesOf_6 : decode b_X_sharesOf 6 = .ok (.getfield 466, 3) := by decide +kernel
theorem d_X_sharesOf_9 : decode b_X_sharesOf 9 = .ok (.astore_n 3, 1) := by decide +kernel
theorem d_X_sharesOf_10 : decode b_X_sharesOf 10 = .ok (.aload_n 3, 1) := by decide +kernel
theorem d_X_sharesOf_11 : decode b_X_sharesOf 11 = .ok (.arraylength, 1) := by decide +kernel
theorem d_X_sharesOf_12 : decode b_X_sharesOf 12 = .ok (.istore 4, 2) := by decide +kernel
theorem d_X_sharesOf_14 : decode b_X_sharesOf 14 = .ok (.iconst 0, 1) := by decide +kernel
theorem d_X_sharesOf_15 : decode b_X_sharesOf 15 = .ok (.istore 5, 2) := by decide +kernel
theorem d_X_sharesOf_17 : decode b_X_sharesOf 17 = .ok (.iload 5, 2) := by decide +kernel
theorem d_X_sharesOf_19 : decode b_X_sharesOf 19 = .ok (.iload 4, 2) := by decide +kernel
theorem d_X_sharesOf_21 : decode b_X_sharesOf 21 = .ok (.if_icmp .ge 40, 3) := by decide +kernel
theorem d_X_sharesOf_24 : decode b_X_sharesOf 24 = .ok (.aload_n 3, 1) := by decide +kernel
theorem d_X_sharesOf_25 : decode b_X_sharesOf 25 = .ok (.iload 5, 2) := by decide +kernel
theorem d_X_sharesOf_27 : decode b_X_sharesOf 27 = .ok (.aaload, 1) := by decide +kernel
theorem d_X_sharesOf_28 : decode b_X_sharesOf 28 = .ok (.astore 6, 2) := by decide +kernel
theorem d_X_sharesOf_30 : decode b_X_sharesOf 30 = .ok (.aload 6, 2) := by decide +kernel
theorem d_X_sharesOf_32 : decode b_X_sharesOf 32 = .ok (.ifnull 23, 3) := by decide +kernel
theorem d_X_sharesOf_35 : decode b_X_sharesOf 35 = .ok (.aload_n 0, 1) := by decide +kernel
theorem d_X_sharesOf_36 : decode b_X_sharesOf 36 = .ok (.getfield 36, 3) := by decide +kernel
theorem d_X_sharesOf_39 : decode b_X_sharesOf 39 = .ok (.aload 6, 2) := by decide +kernel
theorem d_X_sharesOf_41 : decode b_X_sharesOf 41 = .ok (.invokevirtual 340, 3) := by decide +kernel
theorem d_X_sharesOf_44 : decode b_X_sharesOf 44 = .ok (.iload_n 2, 1) := by decide +kernel
theorem d_X_sharesOf_45 : decode b_X_sharesOf 45 = .ok (.aload_n 0, 1) := by decide +kernel
theorem d_X_sharesOf_46 : decode b_X_sharesOf 46 = .ok (.getfield 36, 3) := by decide +kernel
theorem d_X_sharesOf_49 : decode b_X_sharesOf 49 = .ok (.iload_n 1, 1) := by decide +kernel
theorem d_X_sharesOf_50 : decode b_X_sharesOf 50 = .ok (.invokevirtual 344, 3) := by decide +kernel
theorem d_X_sharesOf_53 : decode b_X_sharesOf 53 = .ok (.iadd, 1) := by decide +kernel
theorem d_X_sharesOf_54 : decode b_X_sharesOf 54 = .ok (.istore_n 2, 1) := by decide +kernel
theorem d_X_sharesOf_55 : decode b_X_sharesOf 55 = .ok (.iinc 5 1, 3) := by decide +kernel
theorem d_X_sharesOf_58 : decode b_X_sharesOf 58 = .ok (.goto (-41), 3) := by decide +kernel
theorem d_X_sharesOf_61 : decode b_X_sharesOf 61 = .ok (.iload_n 2, 1) := by decide +kernel
theorem d_X_sharesOf_62 : decode b_X_sharesOf 62 = .ok (.ireturn, 1) := by decide +kernel
theorem d_X_snapshot_0 : decode b_X_snapshot 0 = .ok (.aload_n 0, 1) := by decide +kernel
theorem d_X_snapshot_1 : decode b_X_snapshot 1 = .ok (.getfield 16, 3) := by decide +kernel
theorem d_X_snapshot_4 : decode b_X_snapshot 4 = .ok (.aload_n 0, 1) := by decide +kernel
theorem d_X_snapshot_5 : decode b_X_snapshot 5 = .ok (.getfield 12, 3) := by decide +kernel
theorem d_X_snapshot_8 : decode b_X_snapshot 8 = .ok (.invokevirtual 436, 3) := by decide +kernel
theorem d_X_snapshot_11 : decode b_X_snapshot 11 = .ok (.aload_n 0, 1) := by decide +kernel
theorem d_X_snapshot_12 : decode b_X_snapshot 12 = .ok (.iconst 1, 1) := by decide +kernel
theorem d_X_snapshot_13 : decode b_X_snapshot 13 = .ok (.putfield 40, 3) := by decide +kernel
theorem d_X_snapshot_16 : decode b_X_snapshot 16 = .ok (.aload_n 0, 1) := by decide +kernel
theorem d_X_snapshot_17 : decode b_X_snapshot 17 = .ok (.getfield 16, 3) := by decide +kernel
theorem d_X_snapshot_20 : decode b_X_snapshot 20 = .ok (.getfield 54, 3) := by decide +kernel
theorem d_X_snapshot_23 : decode b_X_snapshot 23 = .ok (.ireturn, 1) := by decide +kernel
theorem d_X_addGate_0 : decode b_X_addGate 0 = .ok (.iload_n 1, 1) := by decide +kernel
theorem d_X_addGate_1 : decode b_X_addGate 1 = .ok (.invokestatic 63, 3) := by decide +kernel
theorem d_X_addGate_4 : decode b_X_addGate 4 = .ok (.ifCond .eq 13, 3) := by decide +kernel
theorem d_X_addGate_7 : decode b_X_addGate 7 = .ok (.iload_n 2, 1) := by decide +kernel
theorem d_X_addGate_8 : decode b_X_addGate 8 = .ok (.iconst 0, 1) := by decide +kernel
theorem d_X_addGate_9 : decode b_X_addGate 9 = .ok (.bipush 99, 2) := by decide +kernel
theorem d_X_addGate_11 : decode b_X_addGate 11 = .ok (.invokestatic 67, 3) := by decide +kernel
theorem d_X_addGate_14 : decode b_X_addGate 14 = .ok (.ifCond .ne 13, 3) := by decide +kernel
theorem d_X_addGate_17 : decode b_X_addGate 17 = .ok (.new 71, 3) := by decide +kernel
theorem d_X_addGate_20 : decode b_X_addGate 20 = .ok (.dup, 1) := by decide +kernel
theorem d_X_addGate_21 : decode b_X_addGate 21 = .ok (.ldc 73, 2) := by decide +kernel
theorem d_X_addGate_23 : decode b_X_addGate 23 = .ok (.invokespecial 75, 3) := by decide +kernel
theorem d_X_addGate_26 : decode b_X_addGate 26 = .ok (.athrow, 1) := by decide +kernel
theorem d_X_addGate_27 : decode b_X_addGate 27 = .ok (.aload_n 0, 1) := by decide +kernel
theorem d_X_addGate_28 : decode b_X_addGate 28 = .ok (.getfield 12, 3) := by decide +kernel
theorem d_X_addGate_31 : decode b_X_addGate 31 = .ok (.getfield 78, 3) := by decide +kernel
theorem d_X_addGate_34 : decode b_X_addGate 34 = .ok (.bipush 12, 2) := by decide +kernel
theorem d_X_addGate_36 : decode b_X_addGate 36 = .ok (.if_icmp .lt 13, 3) := by decide +kernel
theorem d_X_addGate_39 : decode b_X_addGate 39 = .ok (.new 81, 3) := by decide +kernel
theorem d_X_addGate_42 : decode b_X_addGate 42 = .ok (.dup, 1) := by decide +kernel
theorem d_X_addGate_43 : decode b_X_addGate 43 = .ok (.ldc 83, 2) := by decide +kernel
theorem d_X_addGate_45 : decode b_X_addGate 45 = .ok (.invokespecial 85, 3) := by decide +kernel
theorem d_X_addGate_48 : decode b_X_addGate 48 = .ok (.athrow, 1) := by decide +kernel
theorem d_X_addGate_49 : decode b_X_addGate 49 = .ok (.aload_n 0, 1) := by decide +kernel
theorem d_X_addGate_50 : decode b_X_addGate 50 = .ok (.getfield 22, 3) := by decide +kernel
theorem d_X_addGate_53 : decode b_X_addGate 53 = .ok (.aload_n 0, 1) := by decide +kernel
theorem d_X_addGate_54 : decode b_X_addGate 54 = .ok (.getfield 12, 3) := by decide +kernel
theorem d_X_addGate_57 : decode b_X_addGate 57 = .ok (.invokevirtual 86, 3) := by decide +kernel
theorem d_X_addGate_60 : decode b_X_addGate 60 = .ok (.aload_n 0, 1) := by decide +kernel
theorem d_X_addGate_61 : decode b_X_addGate 61 = .ok (.getfield 12, 3) := by decide +kernel
theorem d_X_addGate_64 : decode b_X_addGate 64 = .ok (.new 90, 3) := by decide +kernel
theorem d_X_addGate_67 : decode b_X_addGate 67 = .ok (.dup, 1) := by decide +kernel
theorem d_X_addGate_68 : decode b_X_addGate 68 = .ok (.aload_n 0, 1) := by decide +kernel
theorem d_X_addGate_69 : decode b_X_addGate 69 = .ok (.getfield 12, 3) := by decide +kernel
theorem d_X_addGate_72 : decode b_X_addGate 72 = .ok (.getfield 78, 3) := by decide +kernel
theorem d_X_addGate_75 : decode b_X_addGate 75 = .ok (.iload_n 1, 1) := by decide +kernel
theorem d_X_addGate_76 : decode b_X_addGate 76 = .ok (.iload_n 2, 1) := by decide +kernel
theorem d_X_addGate_77 : decode b_X_addGate 77 = .ok (.invokespecial 92, 3) := by decide +kernel
theorem d_X_addGate_80 : decode b_X_addGate 80 = .ok (.invokevirtual 95, 3) := by decide +kernel
theorem d_X_addGate_83 : decode b_X_addGate 83 = .ok (.ireturn, 1) := by decide +kernel
theorem d_X_isPartner_0 : decode b_X_isPartner 0 = .ok (.iload_n 0, 1) := by decide +kernel
theorem d_X_isPartner_1 : decode b_X_isPartner 1 = .ok (.iconst 0, 1) := by decide +kernel
theorem d_X_isPartner_2 : decode b_X_isPartner 2 = .ok (.iconst 3, 1) := by decide +kernel
theorem d_X_isPartner_3 : decode b_X_isPartner 3 = .ok (.invokestatic 67, 3) := by decide +kernel
theorem d_X_isPartner_6 : decode b_X_isPartner 6 = .ok (.ireturn, 1) := by decide +kernel
theorem d_X_isBetween_0 : decode b_X_isBetween 0 = .ok (.iload_n 0, 1) := by decide +kernel
theorem d_X_isBetween_1 : decode b_X_isBetween 1 = .ok (.iload_n 1, 1) := by decide +kernel
theorem d_X_isBetween_2 : decode b_X_isBetween 2 = .ok (.if_icmp .lt 12, 3) := by decide +kernel
theorem d_X_isBetween_5 : decode b_X_isBetween 5 = .ok (.iload_n 0, 1) := by decide +kernel
theorem d_X_isBetween_6 : decode b_X_isBetween 6 = .ok (.iload_n 2, 1) := by decide +kernel
theorem d_X_isBetween_7 : decode b_X_isBetween 7 = .ok (.if_icmp .gt 7, 3) := by decide +kernel
theorem d_X_isBetween_10 : decode b_X_isBetween 10 = .ok (.iconst 1, 1) := by decide +kernel
theorem d_X_isBetween_11 : decode b_X_isBetween 11 = .ok (.goto 4, 3) := by decide +kernel
theorem d_X_isBetween_14 : decode b_X_isBetween 14 = .ok (.iconst 0, 1) := by decide +kernel
theorem d_X_isBetween_15 : decode b_X_isBetween 15 = .ok (.ireturn, 1) := by decide +kernel
theorem d_X_addProduct_0 : decode b_X_addProduct 0 = .ok (.iload_n 3, 1) := by decide +kernel
theorem d_X_addProduct_1 : decode b_X_addProduct 1 = .ok (.iconst 0, 1) := by decide +kernel
theorem d_X_addProduct_2 : decode b_X_addProduct 2 = .ok (.bipush 23, 2) := by decide +kernel
theorem d_X_addProduct_4 : decode b_X_addProduct 4 = .ok (.invokestatic 67, 3) := by decide +kernel
theorem d_X_addProduct_7 : decode b_X_addProduct 7 = .ok (.ifCond .eq 18, 3) := by decide +kernel
theorem d_X_addProduct_10 : decode b_X_addProduct 10 = .ok (.iload 4, 2) := by decide +kernel
theorem d_X_addProduct_12 : decode b_X_addProduct 12 = .ok (.iload_n 3, 1) := by decide +kernel
theorem d_X_addProduct_13 : decode b_X_addProduct 13 = .ok (.bipush 23, 2) := by decide +kernel
theorem d_X_addProduct_15 : decode b_X_addProduct 15 = .ok (.invokestatic 67, 3) := by decide +kernel
theorem d_X_addProduct_18 : decode b_X_addProduct 18 = .ok (.ifCond .eq 7, 3) := by decide +kernel
theorem d_X_addProduct_21 : decode b_X_addProduct 21 = .ok (.iconst 1, 1) := by decide +kernel
theorem d_X_addProduct_22 : decode b_X_addProduct 22 = .ok (.goto 4, 3) := by decide +kernel
theorem d_X_addProduct_25 : decode b_X_addProduct 25 = .ok (.iconst 0, 1) := by decide +kernel
theorem d_X_addProduct_26 : decode b_X_addProduct 26 = .ok (.istore 7, 2) := by decide +kernel
theorem d_X_addProduct_28 : decode b_X_addProduct 28 = .ok (.iload_n 1, 1) := by decide +kernel
theorem d_X_addProduct_29 : decode b_X_addProduct 29 = .ok (.iconst 0, 1) := by decide +kernel
theorem d_X_addProduct_30 : decode b_X_addProduct 30 = .ok (.iconst 2, 1) := by decide +kernel
theorem d_X_addProduct_31 : decode b_X_addProduct 31 = .ok (.invokestatic 67, 3) := by decide +kernel
theorem d_X_addProduct_34 : decode b_X_addProduct 34 = .ok (.ifCond .eq 40, 3) := by decide +kernel
theorem d_X_addProduct_37 : decode b_X_addProduct 37 = .ok (.iload_n 2, 1) := by decide +kernel
theorem d_X_addProduct_38 : decode b_X_addProduct 38 = .ok (.iconst 1, 1) := by decide +kernel
theorem d_X_addProduct_39 : decode b_X_addProduct 39 = .ok (.bipush 9, 2) := by decide +kernel
theorem d_X_addProduct_41 : decode b_X_addProduct 41 = .ok (.invokestatic 67, 3) := by decide +kernel
theorem d_X_addProduct_44 : decode b_X_addProduct 44 = .ok (.ifCond .eq 30, 3) := by decide +kernel
theorem d_X_addProduct_47 : decode b_X_addProduct 47 = .ok (.iload 5, 2) := by decide +kernel
theorem d_X_addProduct_49 : decode b_X_addProduct 49 = .ok (.iconst 1, 1) := by decide +kernel
theorem d_X_addProduct_50 : decode b_X_addProduct 50 = .ok (.bipush 15, 2) := by decide +kernel
theorem d_X_addProduct_52 : decode b_X_addProduct 52 = .ok (.invokestatic 67, 3) := by decide +kernel
theorem d_X_addProduct_55 : decode b_X_addProduct 55 = .ok (.ifCond .eq 19, 3) := by decide +kernel
theorem d_X_addProduct_58 : decode b_X_addProduct 58 = .ok (.iload 6, 2) := by decide +kernel
theorem d_X_addProduct_60 : decode b_X_addProduct 60 = .ok (.iconst 1, 1) := by decide +kernel
theorem d_X_addProduct_61 : decode b_X_addProduct 61 = .ok (.sipush 9999, 3) := by decide +kernel
theorem d_X_addProduct_64 : decode b_X_addProduct 64 = .ok (.invokestatic 67, 3) := by decide +kernel
theorem d_X_addProduct_67 : decode b_X_addProduct 67 = .ok (.ifCond .eq 7, 3) := by decide +kernel
theorem d_X_addProduct_70 : decode b_X_addProduct 70 = .ok (.iconst 1, 1) := by decide +kernel
theorem d_X_addProduct_71 : decode b_X_addProduct 71 = .ok (.goto 4, 3) := by decide +kernel
theorem d_X_addProduct_74 : decode b_X_addProduct 74 = .ok (.iconst 0, 1) := by decide +kernel
theorem d_X_addProduct_75 : decode b_X_addProduct 75 = .ok (.istore 8, 2) := by decide +kernel
theorem d_X_addProduct_77 : decode b_X_addProduct 77 = .ok (.iload 7, 2) := by decide +kernel
theorem d_X_addProduct_79 : decode b_X_addProduct 79 = .ok (.ifCond .eq 8, 3) := by decide +kernel
theorem d_X_addProduct_82 : decode b_X_addProduct 82 = .ok (.iload 8, 2) := by decide +kernel
theorem d_X_addProduct_84 : decode b_X_addProduct 84 = .ok (.ifCond .ne 13, 3) := by decide +kernel
theorem d_X_addProduct_87 : decode b_X_addProduct 87 = .ok (.new 71, 3) := by decide +kernel
theorem d_X_addProduct_90 : decode b_X_addProduct 90 = .ok (.dup, 1) := by decide +kernel
theorem d_X_addProduct_91 : decode b_X_addProduct 91 = .ok (.ldc 99, 2) := by decide +kernel
theorem d_X_addProduct_93 : decode b_X_addProduct 93 = .ok (.invokespecial 75, 3) := by decide +kernel
theorem d_X_addProduct_96 : decode b_X_addProduct 96 = .ok (.athrow, 1) := by decide +kernel
theorem d_X_addProduct_97 : decode b_X_addProduct 97 = .ok (.aload_n 0, 1) := by decide +kernel
theorem d_X_addProduct_98 : decode b_X_addProduct 98 = .ok (.getfield 12, 3) := by decide +kernel
theorem d_X_addProduct_101 : decode b_X_addProduct 101 = .ok (.getfield 101, 3) := by decide +kernel
theorem d_X_addProduct_104 : decode b_X_addProduct 104 = .ok (.bipush 8, 2) := by decide +kernel
theorem d_X_addProduct_106 : decode b_X_addProduct 106 = .ok (.if_icmp .lt 13, 3) := by decide +kernel
theorem d_X_addProduct_109 : decode b_X_addProduct 109 = .ok (.new 81, 3) := by decide +kernel
theorem d_X_addProduct_112 : decode b_X_addProduct 112 = .ok (.dup, 1) := by decide +kernel
theorem d_X_addProduct_113 : decode b_X_addProduct 113 = .ok (.ldc 104, 2) := by decide +kernel
theorem d_X_addProduct_115 : decode b_X_addProduct 115 = .ok (.invokespecial 85, 3) := by decide +kernel
theorem d_X_addProduct_118 : decode b_X_addProduct 118 = .ok (.athrow, 1) := by decide +kernel
theorem d_X_addProduct_119 : decode b_X_addProduct 119 = .ok (.aload_n 0, 1) := by decide +kernel
theorem d_X_addProduct_120 : decode b_X_addProduct 120 = .ok (.getfield 22, 3) := by decide +kernel
theorem d_X_addProduct_123 : decode b_X_addProduct 123 = .ok (.aload_n 0, 1) := by decide +kernel
theorem d_X_addProduct_124 : decode b_X_addProduct 124 = .ok (.getfield 12, 3) := by decide +kernel
theorem d_X_addProduct_127 : decode b_X_addProduct 127 = .ok (.invokevirtual 86, 3) := by decide +kernel
theorem d_X_addProduct_130 : decode b_X_addProduct 130 = .ok (.aload_n 0, 1) := by decide +kernel
theorem d_X_addProduct_131 : decode b_X_addProduct 131 = .ok (.getfield 12, 3) := by decide +kernel
theorem d_X_addProduct_134 : decode b_X_addProduct 134 = .ok (.new 106, 3) := by decide +kernel
theorem d_X_addProduct_137 : decode b_X_addProduct 137 = .ok (.dup, 1) := by decide +kernel
theorem d_X_addProduct_138 : decode b_X_addProduct 138 = .ok (.aload_n 0, 1) := by decide +kernel
theorem d_X_addProduct_139 : decode b_X_addProduct 139 = .ok (.getfield 12, 3) := by decide +kernel
theorem d_X_addProduct_142 : decode b_X_addProduct 142 = .ok (.getfield 101, 3) := by decide +kernel
theorem d_X_addProduct_145 : decode b_X_addProduct 145 = .ok (.iload_n 1, 1) := by decide +kernel
theorem d_X_addProduct_146 : decode b_X_addProduct 146 = .ok (.iload_n 2, 1) := by decide +kernel
theorem d_X_addProduct_147 : decode b_X_addProduct 147 = .ok (.iload_n 3, 1) := by decide +kernel
theorem d_X_addProduct_148 : decode b_X_addProduct 148 = .ok (.iload 4, 2) := by decide +kernel
theorem d_X_addProduct_150 : decode b_X_addProduct 150 = .ok (.iload 5, 2) := by decide +kernel
theorem d_X_addProduct_152 : decode b_X_addProduct 152 = .ok (.iload 6, 2) := by decide +kernel
theorem d_X_addProduct_154 : decode b_X_addProduct 154 = .ok (.invokespecial 108, 3) := by decide +kernel
theorem d_X_addProduct_157 : decode b_X_addProduct 157 = .ok (.invokevirtual 111, 3) := by decide +kernel
theorem d_X_addProduct_160 : decode b_X_addProduct 160 = .ok (.ireturn, 1) := by decide +kernel
theorem d_X_gate_0 : decode b_X_gate 0 = .ok (.aload_n 0, 1) := by decide +kernel
theorem d_X_gate_1 : decode b_X_gate 1 = .ok (.iload_n 1, 1) := by decide +kernel
theorem d_X_gate_2 : decode b_X_gate 2 = .ok (.invokevirtual 115, 3) := by decide +kernel
theorem d_X_gate_5 : decode b_X_gate 5 = .ok (.astore_n 3, 1) := by decide +kernel
theorem d_X_gate_6 : decode b_X_gate 6 = .ok (.iload_n 2, 1) := by decide +kernel
theorem d_X_gate_7 : decode b_X_gate 7 = .ok (.tableswitch 98 0 5 #[37, 42, 47, 64, 73, 89], 37) := by decide +kernel
theorem d_X_gate_44 : decode b_X_gate 44 = .ok (.aload_n 3, 1) := by decide +kernel
theorem d_X_gate_45 : decode b_X_gate 45 = .ok (.getfield 119, 3) := by decide +kernel
theorem d_X_gate_48 : decode b_X_gate 48 = .ok (.ireturn, 1) := by decide +kernel
theorem d_X_gate_49 : decode b_X_gate 49 = .ok (.aload_n 3, 1) := by decide +kernel
theorem d_X_gate_50 : decode b_X_gate 50 = .ok (.getfield 122, 3) := by decide +kernel
theorem d_X_gate_53 : decode b_X_gate 53 = .ok (.ireturn, 1) := by decide +kernel
theorem d_X_gate_54 : decode b_X_gate 54 = .ok (.aload_n 0, 1) := by decide +kernel
theorem d_X_gate_55 : decode b_X_gate 55 = .ok (.getfield 12, 3) := by decide +kernel
theorem d_X_gate_58 : decode b_X_gate 58 = .ok (.aload_n 3, 1) := by decide +kernel
theorem d_X_gate_59 : decode b_X_gate 59 = .ok (.invokevirtual 125, 3) := by decide +kernel
theorem d_X_gate_62 : decode b_X_gate 62 = .ok (.ifCond .eq 7, 3) := by decide +kernel
theorem d_X_gate_65 : decode b_X_gate 65 = .ok (.iconst 1, 1) := by decide +kernel
theorem d_X_gate_66 : decode b_X_gate 66 = .ok (.goto 4, 3) := by decide +kernel
theorem d_X_gate_69 : decode b_X_gate 69 = .ok (.iconst 0, 1) := by decide +kernel
theorem d_X_gate_70 : decode b_X_gate 70 = .ok (.ireturn, 1) := by decide +kernel
theorem d_X_gate_71 : decode b_X_gate 71 = .ok (.aload_n 0, 1) := by decide +kernel
theorem d_X_gate_72 : decode b_X_gate 72 = .ok (.getfield 12, 3) := by decide +kernel
theorem d_X_gate_75 : decode b_X_gate 75 = .ok (.aload_n 3, 1) := by decide +kernel
theorem d_X_gate_76 : decode b_X_gate 76 = .ok (.invokevirtual 129, 3) := by decide +kernel
theorem d_X_gate_79 : decode b_X_gate 79 = .ok (.ireturn, 1) := by decide +kernel
theorem d_X_gate_80 : decode b_X_gate 80 = .ok (.aload_n 0, 1) := by decide +kernel
theorem d_X_gate_81 : decode b_X_gate 81 = .ok (.getfield 12, 3) := by decide +kernel
theorem d_X_gate_84 : decode b_X_gate 84 = .ok (.aload_n 3, 1) := by decide +kernel
theorem d_X_gate_85 : decode b_X_gate 85 = .ok (.aload_n 0, 1) := by decide +kernel
theorem d_X_gate_86 : decode b_X_gate 86 = .ok (.getfield 12, 3) := by decide +kernel
theorem d_X_gate_89 : decode b_X_gate 89 = .ok (.invokevirtual 132, 3) := by decide +kernel
theorem d_X_gate_92 : decode b_X_gate 92 = .ok (.invokevirtual 136, 3) := by decide +kernel
theorem d_X_gate_95 : decode b_X_gate 95 = .ok (.ireturn, 1) := by decide +kernel
theorem d_X_gate_96 : decode b_X_gate 96 = .ok (.aload_n 0, 1) := by decide +kernel
theorem d_X_gate_97 : decode b_X_gate 97 = .ok (.getfield 12, 3) := by decide +kernel
theorem d_X_gate_100 : decode b_X_gate 100 = .ok (.aload_n 3, 1) := by decide +kernel
theorem d_X_gate_101 : decode b_X_gate 101 = .ok (.invokevirtual 140, 3) := by decide +kernel
theorem d_X_gate_104 : decode b_X_gate 104 = .ok (.ireturn, 1) := by decide +kernel
theorem d_X_gate_105 : decode b_X_gate 105 = .ok (.new 71, 3) := by decide +kernel
theorem d_X_gate_108 : decode b_X_gate 108 = .ok (.dup, 1) := by decide +kernel
theorem d_X_gate_109 : decode b_X_gate 109 = .ok (.ldc 143, 2) := by decide +kernel
theorem d_X_gate_111 : decode b_X_gate 111 = .ok (.invokespecial 75, 3) := by decide +kernel
theorem d_X_gate_114 : decode b_X_gate 114 = .ok (.athrow, 1) := by decide +kernel
theorem d_X_existingGate_0 : decode b_X_existingGate 0 = .ok (.aload_n 0, 1) := by decide +kernel
theorem d_X_existingGate_1 : decode b_X_existingGate 1 = .ok (.getfield 12, 3) := by decide +kernel
theorem d_X_existingGate_4 : decode b_X_existingGate 4 = .ok (.iload_n 1, 1) := by decide +kernel
theorem d_X_existingGate_5 : decode b_X_existingGate 5 = .ok (.invokevirtual 441, 3) := by decide +kernel
theorem d_X_existingGate_8 : decode b_X_existingGate 8 = .ok (.astore_n 2, 1) := by decide +kernel
theorem d_X_existingGate_9 : decode b_X_existingGate 9 = .ok (.aload_n 2, 1) := by decide +kernel
theorem d_X_existingGate_10 : decode b_X_existingGate 10 = .ok (.ifnonnull 14, 3) := by decide +kernel
theorem d_X_existingGate_13 : decode b_X_existingGate 13 = .ok (.new 444, 3) := by decide +kernel
theorem d_X_existingGate_16 : decode b_X_existingGate 16 = .ok (.dup, 1) := by decide +kernel
theorem d_X_existingGate_17 : decode b_X_existingGate 17 = .ok (.ldc_w 446, 3) := by decide +kernel
theorem d_X_existingGate_20 : decode b_X_existingGate 20 = .ok (.invokespecial 448, 3) := by decide +kernel
theorem d_X_existingGate_23 : decode b_X_existingGate 23 = .ok (.athrow, 1) := by decide +kernel
theorem d_X_existingGate_24 : decode b_X_existingGate 24 = .ok (.aload_n 2, 1) := by decide +kernel
theorem d_X_existingGate_25 : decode b_X_existingGate 25 = .ok (.areturn, 1) := by decide +kernel
theorem d_X_product_0 : decode b_X_product 0 = .ok (.aload_n 0, 1) := by decide +kernel
theorem d_X_product_1 : decode b_X_product 1 = .ok (.iload_n 1, 1) := by decide +kernel
theorem d_X_product_2 : decode b_X_product 2 = .ok (.invokevirtual 145, 3) := by decide +kernel
theorem d_X_product_5 : decode b_X_product 5 = .ok (.astore_n 3, 1) := by decide +kernel
theorem d_X_product_6 : decode b_X_product 6 = .ok (.iload_n 2, 1) := by decide +kernel
theorem d_X_product_7 : decode b_X_product 7 = .ok (.tableswitch 111 0 8 #[49, 54, 59, 64, 69, 74, 79, 88, 97], 49) := by decide +kernel
theorem d_X_product_56 : decode b_X_product 56 = .ok (.aload_n 3, 1) := by decide +kernel
theorem d_X_product_57 : decode b_X_product 57 = .ok (.getfield 149, 3) := by decide +kernel
theorem d_X_product_60 : decode b_X_product 60 = .ok (.ireturn, 1) := by decide +kernel
theorem d_X_product_61 : decode b_X_product 61 = .ok (.aload_n 3, 1) := by decide +kernel
theorem d_X_product_62 : decode b_X_product 62 = .ok (.getfield 152, 3) := by decide +kernel
theorem d_X_product_65 : decode b_X_product 65 = .ok (.ireturn, 1) := by decide +kernel
theorem d_X_product_66 : decode b_X_product 66 = .ok (.aload_n 3, 1) := by decide +kernel
theorem d_X_product_67 : decode b_X_product 67 = .ok (.getfield 155, 3) := by decide +kernel
theorem d_X_product_70 : decode b_X_product 70 = .ok (.ireturn, 1) := by decide +kernel
theorem d_X_product_71 : decode b_X_product 71 = .ok (.aload_n 3, 1) := by decide +kernel
theorem d_X_product_72 : decode b_X_product 72 = .ok (.getfield 158, 3) := by decide +kernel
theorem d_X_product_75 : decode b_X_product 75 = .ok (.ireturn, 1) := by decide +kernel
theorem d_X_product_76 : decode b_X_product 76 = .ok (.aload_n 3, 1) := by decide +kernel
theorem d_X_product_77 : decode b_X_product 77 = .ok (.getfield 161, 3) := by decide +kernel
theorem d_X_product_80 : decode b_X_product 80 = .ok (.ireturn, 1) := by decide +kernel
theorem d_X_product_81 : decode b_X_product 81 = .ok (.aload_n 3, 1) := by decide +kernel
theorem d_X_product_82 : decode b_X_product 82 = .ok (.getfield 164, 3) := by decide +kernel
theorem d_X_product_85 : decode b_X_product 85 = .ok (.ireturn, 1) := by decide +kernel
theorem d_X_product_86 : decode b_X_product 86 = .ok (.aload_n 0, 1) := by decide +kernel
theorem d_X_product_87 : decode b_X_product 87 = .ok (.getfield 12, 3) := by decide +kernel
theorem d_X_product_90 : decode b_X_product 90 = .ok (.aload_n 3, 1) := by decide +kernel
theorem d_X_product_91 : decode b_X_product 91 = .ok (.invokevirtual 167, 3) := by decide +kernel
theorem d_X_product_94 : decode b_X_product 94 = .ok (.ireturn, 1) := by decide +kernel
theorem d_X_product_95 : decode b_X_product 95 = .ok (.aload_n 0, 1) := by decide +kernel
theorem d_X_product_96 : decode b_X_product 96 = .ok (.getfield 12, 3) := by decide +kernel
theorem d_X_product_99 : decode b_X_product 99 = .ok (.aload_n 3, 1) := by decide +kernel
theorem d_X_product_100 : decode b_X_product 100 = .ok (.invokevirtual 170, 3) := by decide +kernel
theorem d_X_product_103 : decode b_X_product 103 = .ok (.ireturn, 1) := by decide +kernel
theorem d_X_product_104 : decode b_X_product 104 = .ok (.aload_n 0, 1) := by decide +kernel
theorem d_X_product_105 : decode b_X_product 105 = .ok (.getfield 12, 3) := by decide +kernel
theorem d_X_product_108 : decode b_X_product 108 = .ok (.aload_n 3, 1) := by decide +kernel
theorem d_X_product_109 : decode b_X_product 109 = .ok (.invokevirtual 170, 3) := by decide +kernel
theorem d_X_product_112 : decode b_X_product 112 = .ok (.aload_n 3, 1) := by decide +kernel
theorem d_X_product_113 : decode b_X_product 113 = .ok (.getfield 164, 3) := by decide +kernel
theorem d_X_product_116 : decode b_X_product 116 = .ok (.imul, 1) := by decide +kernel
theorem d_X_product_117 : decode b_X_product 117 = .ok (.ireturn, 1) := by decide +kernel
theorem d_X_product_118 : decode b_X_product 118 = .ok (.new 71, 3) := by decide +kernel
theorem d_X_product_121 : decode b_X_product 121 = .ok (.dup, 1) := by decide +kernel
theorem d_X_product_122 : decode b_X_product 122 = .ok (.ldc 173, 2) := by decide +kernel
theorem d_X_product_124 : decode b_X_product 124 = .ok (.invokespecial 75, 3) := by decide +kernel
theorem d_X_product_127 : decode b_X_product 127 = .ok (.athrow, 1) := by decide +kernel
theorem d_X_existingProduct_0 : decode b_X_existingProduct 0 = .ok (.aload_n 0, 1) := by decide +kernel
theorem d_X_existingProduct_1 : decode b_X_existingProduct 1 = .ok (.getfield 12, 3) := by decide +kernel
theorem d_X_existingProduct_4 : decode b_X_existingProduct 4 = .ok (.iload_n 1, 1) := by decide +kernel
theorem d_X_existingProduct_5 : decode b_X_existingProduct 5 = .ok (.invokevirtual 449, 3) := by decide +kernel
theorem d_X_existingProduct_8 : decode b_X_existingProduct 8 = .ok (.astore_n 2, 1) := by decide +kernel
theorem d_X_existingProduct_9 : decode b_X_existingProduct 9 = .ok (.aload_n 2, 1) := by decide +kernel
theorem d_X_existingProduct_10 : decode b_X_existingProduct 10 = .ok (.ifnonnull 14, 3) := by decide +kernel
theorem d_X_existingProduct_13 : decode b_X_existingProduct 13 = .ok (.new 444, 3) := by decide +kernel
theorem d_X_existingProduct_16 : decode b_X_existingProduct 16 = .ok (.dup, 1) := by decide +kernel
theorem d_X_existingProduct_17 : decode b_X_existingProduct 17 = .ok (.ldc_w 452, 3) := by decide +kernel
theorem d_X_existingProduct_20 : decode b_X_existingProduct 20 = .ok (.invokespecial 448, 3) := by decide +kernel
theorem d_X_existingProduct_23 : decode b_X_existingProduct 23 = .ok (.athrow, 1) := by decide +kernel
theorem d_X_existingProduct_24 : decode b_X_existingProduct 24 = .ok (.aload_n 2, 1) := by decide +kernel
theorem d_X_existingProduct_25 : decode b_X_existingProduct 25 = .ok (.areturn, 1) := by decide +kernel
theorem d_X_way_0 : decode b_X_way 0 = .ok (.aload_n 0, 1) := by decide +kernel
theorem d_X_way_1 : decode b_X_way 1 = .ok (.iload_n 1, 1) := by decide +kernel
theorem d_X_way_2 : decode b_X_way 2 = .ok (.invokevirtual 115, 3) := by decide +kernel
theorem d_X_way_5 : decode b_X_way 5 = .ok (.astore_n 3, 1) := by decide +kernel
theorem d_X_way_6 : decode b_X_way 6 = .ok (.aload_n 0, 1) := by decide +kernel
theorem d_X_way_7 : decode b_X_way 7 = .ok (.iload_n 2, 1) := by decide +kernel
theorem d_X_way_8 : decode b_X_way 8 = .ok (.invokevirtual 115, 3) := by decide +kernel
theorem d_X_way_11 : decode b_X_way 11 = .ok (.astore 4, 2) := by decide +kernel
theorem d_X_way_13 : decode b_X_way 13 = .ok (.aload_n 3, 1) := by decide +kernel
theorem d_X_way_14 : decode b_X_way 14 = .ok (.aload 4, 2) := by decide +kernel
theorem d_X_way_16 : decode b_X_way 16 = .ok (.invokevirtual 175, 3) := by decide +kernel
theorem d_X_way_19 : decode b_X_way 19 = .ok (.ireturn, 1) := by decide +kernel
theorem d_X_advance_0 : decode b_X_advance 0 = .ok (.iload_n 1, 1) := by decide +kernel
theorem d_X_advance_1 : decode b_X_advance 1 = .ok (.iconst 0, 1) := by decide +kernel
theorem d_X_advance_2 : decode b_X_advance 2 = .ok (.sipush 2880, 3) := by decide +kernel
theorem d_X_advance_5 : decode b_X_advance 5 = .ok (.invokestatic 67, 3) := by decide +kernel
theorem d_X_advance_8 : decode b_X_advance 8 = .ok (.ifCond .ne 13, 3) := by decide +kernel
theorem d_X_advance_11 : decode b_X_advance 11 = .ok (.new 71, 3) := by decide +kernel
theorem d_X_advance_14 : decode b_X_advance 14 = .ok (.dup, 1) := by decide +kernel
theorem d_X_advance_15 : decode b_X_advance 15 = .ok (.ldc 178, 2) := by decide +kernel
theorem d_X_advance_17 : decode b_X_advance 17 = .ok (.invokespecial 75, 3) := by decide +kernel
theorem d_X_advance_20 : decode b_X_advance 20 = .ok (.athrow, 1) := by decide +kernel
theorem d_X_advance_21 : decode b_X_advance 21 = .ok (.aload_n 0, 1) := by decide +kernel
theorem d_X_advance_22 : decode b_X_advance 22 = .ok (.getfield 12, 3) := by decide +kernel
theorem d_X_advance_25 : decode b_X_advance 25 = .ok (.getfield 180, 3) := by decide +kernel
theorem d_X_advance_28 : decode b_X_advance 28 = .ok (.iload_n 1, 1) := by decide +kernel
theorem d_X_advance_29 : decode b_X_advance 29 = .ok (.iadd, 1) := by decide +kernel
theorem d_X_advance_30 : decode b_X_advance 30 = .ok (.ldc 183, 2) := by decide +kernel
theorem d_X_advance_32 : decode b_X_advance 32 = .ok (.if_icmp .le 13, 3) := by decide +kernel
theorem d_X_advance_35 : decode b_X_advance 35 = .ok (.new 81, 3) := by decide +kernel
theorem d_X_advance_38 : decode b_X_advance 38 = .ok (.dup, 1) := by decide +kernel
theorem d_X_advance_39 : decode b_X_advance 39 = .ok (.ldc 184, 2) := by decide +kernel
theorem d_X_advance_41 : decode b_X_advance 41 = .ok (.invokespecial 85, 3) := by decide +kernel
theorem d_X_advance_44 : decode b_X_advance 44 = .ok (.athrow, 1) := by decide +kernel
theorem d_X_advance_45 : decode b_X_advance 45 = .ok (.aload_n 0, 1) := by decide +kernel
theorem d_X_advance_46 : decode b_X_advance 46 = .ok (.getfield 22, 3) := by decide +kernel
theorem d_X_advance_49 : decode b_X_advance 49 = .ok (.aload_n 0, 1) := by decide +kernel
theorem d_X_advance_50 : decode b_X_advance 50 = .ok (.getfield 12, 3) := by decide +kernel
theorem d_X_advance_53 : decode b_X_advance 53 = .ok (.invokevirtual 86, 3) := by decide +kernel
theorem d_X_advance_56 : decode b_X_advance 56 = .ok (.aload_n 0, 1) := by decide +kernel
theorem d_X_advance_57 : decode b_X_advance 57 = .ok (.getfield 12, 3) := by decide +kernel
theorem d_X_advance_60 : decode b_X_advance 60 = .ok (.iload_n 1, 1) := by decide +kernel
theorem d_X_advance_61 : decode b_X_advance 61 = .ok (.invokevirtual 186, 3) := by decide +kernel
theorem d_X_advance_64 : decode b_X_advance 64 = .ok (.aload_n 0, 1) := by decide +kernel
theorem d_X_advance_65 : decode b_X_advance 65 = .ok (.getfield 12, 3) := by decide +kernel
theorem d_X_advance_68 : decode b_X_advance 68 = .ok (.getfield 180, 3) := by decide +kernel
theorem d_X_advance_71 : decode b_X_advance 71 = .ok (.ireturn, 1) := by decide +kernel
theorem d_X_system_0 : decode b_X_system 0 = .ok (.iload_n 1, 1) := by decide +kernel
theorem d_X_system_1 : decode b_X_system 1 = .ok (.tableswitch 135 0 9 #[55, 63, 71, 79, 87, 95, 103, 111, 119, 127], 55) := by decide +kernel
theorem d_X_system_56 : decode b_X_system 56 = .ok (.aload_n 0, 1) := by decide +kernel
theorem d_X_system_57 : decode b_X_system 57 = .ok (.getfield 12, 3) := by decide +kernel
theorem d_X_system_60 : decode b_X_system 60 = .ok (.getfield 180, 3) := by decide +kernel
theorem d_X_system_63 : decode b_X_system 63 = .ok (.ireturn, 1) := by decide +kernel
theorem d_X_system_64 : decode b_X_system 64 = .ok (.aload_n 0, 1) := by decide +kernel
theorem d_X_system_65 : decode b_X_system 65 = .ok (.getfield 12, 3) := by decide +kernel
theorem d_X_system_68 : decode b_X_system 68 = .ok (.invokevirtual 132, 3) := by decide +kernel
theorem d_X_system_71 : decode b_X_system 71 = .ok (.ireturn, 1) := by decide +kernel
theorem d_X_system_72 : decode b_X_system 72 = .ok (.aload_n 0, 1) := by decide +kernel
theorem d_X_system_73 : decode b_X_system 73 = .ok (.getfield 12, 3) := by decide +kernel
theorem d_X_system_76 : decode b_X_system 76 = .ok (.invokevirtual 190, 3) := by decide +kernel
theorem d_X_system_79 : decode b_X_system 79 = .ok (.ireturn, 1) := by decide +kernel
theorem d_X_system_80 : decode b_X_system 80 = .ok (.aload_n 0, 1) := by decide +kernel
theorem d_X_system_81 : decode b_X_system 81 = .ok (.getfield 12, 3) := by decide +kernel
theorem d_X_system_84 : decode b_X_system 84 = .ok (.getfield 78, 3) := by decide +kernel
theorem d_X_system_87 : decode b_X_system 87 = .ok (.ireturn, 1) := by decide +kernel
theorem d_X_system_88 : decode b_X_system 88 = .ok (.aload_n 0, 1) := by decide +kernel
theorem d_X_system_89 : decode b_X_system 89 = .ok (.getfield 12, 3) := by decide +kernel
theorem d_X_system_92 : decode b_X_system 92 = .ok (.getfield 101, 3) := by decide +kernel
theorem d_X_system_95 : decode b_X_system 95 = .ok (.ireturn, 1) := by decide +kernel
theorem d_X_system_96 : decode b_X_system 96 = .ok (.aload_n 0, 1) := by decide +kernel
theorem d_X_system_97 : decode b_X_system 97 = .ok (.getfield 12, 3) := by decide +kernel
theorem d_X_system_100 : decode b_X_system 100 = .ok (.getfield 54, 3) := by decide +kernel
theorem d_X_system_103 : decode b_X_system 103 = .ok (.ireturn, 1) := by decide +kernel
theorem d_X_system_104 : decode b_X_system 104 = .ok (.aload_n 0, 1) := by decide +kernel
theorem d_X_system_105 : decode b_X_system 105 = .ok (.getfield 12, 3) := by decide +kernel
theorem d_X_system_108 : decode b_X_system 108 = .ok (.invokevirtual 193, 3) := by decide +kernel
theorem d_X_system_111 : decode b_X_system 111 = .ok (.ireturn, 1) := by decide +kernel
theorem d_X_system_112 : decode b_X_system 112 = .ok (.aload_n 0, 1) := by decide +kernel
theorem d_X_system_113 : decode b_X_system 113 = .ok (.getfield 12, 3) := by decide +kernel
theorem d_X_system_116 : decode b_X_system 116 = .ok (.getfield 196, 3) := by decide +kernel
theorem d_X_system_119 : decode b_X_system 119 = .ok (.ireturn, 1) := by decide +kernel
theorem d_X_system_120 : decode b_X_system 120 = .ok (.aload_n 0, 1) := by decide +kernel
theorem d_X_system_121 : decode b_X_system 121 = .ok (.getfield 29, 3) := by decide +kernel
theorem d_X_system_124 : decode b_X_system 124 = .ok (.getfield 199, 3) := by decide +kernel
theorem d_X_system_127 : decode b_X_system 127 = .ok (.ireturn, 1) := by decide +kernel
theorem d_X_system_128 : decode b_X_system 128 = .ok (.aload_n 0, 1) := by decide +kernel
theorem d_X_system_129 : decode b_X_system 129 = .ok (.getfield 22, 3) := by decide +kernel
theorem d_X_system_132 : decode b_X_system 132 = .ok (.getfield 202, 3) := by decide +kernel
theorem d_X_system_135 : decode b_X_system 135 = .ok (.ireturn, 1) := by decide +kernel
theorem d_X_system_136 : decode b_X_system 136 = .ok (.new 71, 3) := by decide +kernel
theorem d_X_system_139 : decode b_X_system 139 = .ok (.dup, 1) := by decide +kernel
theorem d_X_system_140 : decode b_X_system 140 = .ok (.ldc 205, 2) := by decide +kernel
theorem d_X_system_142 : decode b_X_system 142 = .ok (.invokespecial 75, 3) := by decide +kernel
theorem d_X_system_145 : decode b_X_system 145 = .ok (.athrow, 1) := by decide +kernel
theorem d_X_setClosed_0 : decode b_X_setClosed 0 = .ok (.aload_n 0, 1) := by decide +kernel
theorem d_X_setClosed_1 : decode b_X_setClosed 1 = .ok (.iload_n 1, 1) := by decide +kernel
theorem d_X_setClosed_2 : decode b_X_setClosed 2 = .ok (.invokevirtual 115, 3) := by decide +kernel
theorem d_X_setClosed_5 : decode b_X_setClosed 5 = .ok (.astore_n 3, 1) := by decide +kernel
theorem d_X_setClosed_6 : decode b_X_setClosed 6 = .ok (.aload_n 0, 1) := by decide +kernel
theorem d_X_setClosed_7 : decode b_X_setClosed 7 = .ok (.getfield 12, 3) := by decide +kernel
theorem d_X_setClosed_10 : decode b_X_setClosed 10 = .ok (.aload_n 3, 1) := by decide +kernel
theorem d_X_setClosed_11 : decode b_X_setClosed 11 = .ok (.invokevirtual 125, 3) := by decide +kernel
theorem d_X_setClosed_14 : decode b_X_setClosed 14 = .ok (.istore 4, 2) := by decide +kernel
theorem d_X_setClosed_16 : decode b_X_setClosed 16 = .ok (.aload_n 0, 1) := by decide +kernel
theorem d_X_setClosed_17 : decode b_X_setClosed 17 = .ok (.getfield 22, 3) := by decide +kernel
theorem d_X_setClosed_20 : decode b_X_setClosed 20 = .ok (.aload_n 0, 1) := by decide +kernel
theorem d_X_setClosed_21 : decode b_X_setClosed 21 = .ok (.getfield 12, 3) := by decide +kernel
theorem d_X_setClosed_24 : decode b_X_setClosed 24 = .ok (.invokevirtual 86, 3) := by decide +kernel
theorem d_X_setClosed_27 : decode b_X_setClosed 27 = .ok (.aload_n 0, 1) := by decide +kernel
theorem d_X_setClosed_28 : decode b_X_setClosed 28 = .ok (.getfield 12, 3) := by decide +kernel
theorem d_X_setClosed_31 : decode b_X_setClosed 31 = .ok (.aload_n 3, 1) := by decide +kernel
theorem d_X_setClosed_32 : decode b_X_setClosed 32 = .ok (.iload_n 2, 1) := by decide +kernel
theorem d_X_setClosed_33 : decode b_X_setClosed 33 = .ok (.invokevirtual 207, 3) := by decide +kernel
theorem d_X_setClosed_36 : decode b_X_setClosed 36 = .ok (.iload 4, 2) := by decide +kernel
theorem d_X_setClosed_38 : decode b_X_setClosed 38 = .ok (.ireturn, 1) := by decide +kernel
theorem d_X_closedMinutes_0 : decode b_X_closedMinutes 0 = .ok (.aload_n 0, 1) := by decide +kernel
theorem d_X_closedMinutes_1 : decode b_X_closedMinutes 1 = .ok (.iload_n 1, 1) := by decide +kernel
theorem d_X_closedMinutes_2 : decode b_X_closedMinutes 2 = .ok (.invokevirtual 115, 3) := by decide +kernel
theorem d_X_closedMinutes_5 : decode b_X_closedMinutes 5 = .ok (.astore_n 3, 1) := by decide +kernel
theorem d_X_closedMinutes_6 : decode b_X_closedMinutes 6 = .ok (.iload_n 2, 1) := by decide +kernel
theorem d_X_closedMinutes_7 : decode b_X_closedMinutes 7 = .ok (.invokestatic 211, 3) := by decide +kernel
theorem d_X_closedMinutes_10 : decode b_X_closedMinutes 10 = .ok (.ifCond .ne 13, 3) := by decide +kernel
theorem d_X_closedMinutes_13 : decode b_X_closedMinutes 13 = .ok (.new 71, 3) := by decide +kernel
theorem d_X_closedMinutes_16 : decode b_X_closedMinutes 16 = .ok (.dup, 1) := by decide +kernel
theorem d_X_closedMinutes_17 : decode b_X_closedMinutes 17 = .ok (.ldc 214, 2) := by decide +kernel
theorem d_X_closedMinutes_19 : decode b_X_closedMinutes 19 = .ok (.invokespecial 75, 3) := by decide +kernel
theorem d_X_closedMinutes_22 : decode b_X_closedMinutes 22 = .ok (.athrow, 1) := by decide +kernel
theorem d_X_closedMinutes_23 : decode b_X_closedMinutes 23 = .ok (.aload_n 0, 1) := by decide +kernel
theorem d_X_closedMinutes_24 : decode b_X_closedMinutes 24 = .ok (.getfield 12, 3) := by decide +kernel
theorem d_X_closedMinutes_27 : decode b_X_closedMinutes 27 = .ok (.aload_n 3, 1) := by decide +kernel
theorem d_X_closedMinutes_28 : decode b_X_closedMinutes 28 = .ok (.iload_n 2, 1) := by decide +kernel
theorem d_X_closedMinutes_29 : decode b_X_closedMinutes 29 = .ok (.invokevirtual 136, 3) := by decide +kernel
theorem d_X_closedMinutes_32 : decode b_X_closedMinutes 32 = .ok (.ireturn, 1) := by decide +kernel
theorem d_X_isDay_0 : decode b_X_isDay 0 = .ok (.iload_n 0, 1) := by decide +kernel
theorem d_X_isDay_1 : decode b_X_isDay 1 = .ok (.iconst 0, 1) := by decide +kernel
theorem d_X_isDay_2 : decode b_X_isDay 2 = .ok (.bipush 30, 2) := by decide +kernel
theorem d_X_isDay_4 : decode b_X_isDay 4 = .ok (.invokestatic 67, 3) := by decide +kernel
theorem d_X_isDay_7 : decode b_X_isDay 7 = .ok (.ireturn, 1) := by decide +kernel
theorem d_X_isClosedDay_0 : decode b_X_isClosedDay 0 = .ok (.aload_n 0, 1) := by decide +kernel
theorem d_X_isClosedDay_1 : decode b_X_isClosedDay 1 = .ok (.iload_n 1, 1) := by decide +kernel
theorem d_X_isClosedDay_2 : decode b_X_isClosedDay 2 = .ok (.invokevirtual 145, 3) := by decide +kernel
theorem d_X_isClosedDay_5 : decode b_X_isClosedDay 5 = .ok (.astore_n 3, 1) := by decide +kernel
theorem d_X_isClosedDay_6 : decode b_X_isClosedDay 6 = .ok (.iload_n 2, 1) := by decide +kernel
theorem d_X_isClosedDay_7 : decode b_X_isClosedDay 7 = .ok (.invokestatic 211, 3) := by decide +kernel
theorem d_X_isClosedDay_10 : decode b_X_isClosedDay 10 = .ok (.ifCond .ne 13, 3) := by decide +kernel
theorem d_X_isClosedDay_13 : decode b_X_isClosedDay 13 = .ok (.new 71, 3) := by decide +kernel
theorem d_X_isClosedDay_16 : decode b_X_isClosedDay 16 = .ok (.dup, 1) := by decide +kernel
theorem d_X_isClosedDay_17 : decode b_X_isClosedDay 17 = .ok (.ldc 214, 2) := by decide +kernel
theorem d_X_isClosedDay_19 : decode b_X_isClosedDay 19 = .ok (.invokespecial 75, 3) := by decide +kernel
theorem d_X_isClosedDay_22 : decode b_X_isClosedDay 22 = .ok (.athrow, 1) := by decide +kernel
theorem d_X_isClosedDay_23 : decode b_X_isClosedDay 23 = .ok (.aload_n 0, 1) := by decide +kernel
theorem d_X_isClosedDay_24 : decode b_X_isClosedDay 24 = .ok (.getfield 12, 3) := by decide +kernel
theorem d_X_isClosedDay_27 : decode b_X_isClosedDay 27 = .ok (.aload_n 3, 1) := by decide +kernel
theorem d_X_isClosedDay_28 : decode b_X_isClosedDay 28 = .ok (.iload_n 2, 1) := by decide +kernel
theorem d_X_isClosedDay_29 : decode b_X_isClosedDay 29 = .ok (.invokevirtual 216, 3) := by decide +kernel
theorem d_X_isClosedDay_32 : decode b_X_isClosedDay 32 = .ok (.ireturn, 1) := by decide +kernel
theorem d_X_sell_0 : decode b_X_sell 0 = .ok (.aload_n 0, 1) := by decide +kernel
theorem d_X_sell_1 : decode b_X_sell 1 = .ok (.iload_n 1, 1) := by decide +kernel
theorem d_X_sell_2 : decode b_X_sell 2 = .ok (.invokevirtual 145, 3) := by decide +kernel
theorem d_X_sell_5 : decode b_X_sell 5 = .ok (.astore_n 2, 1) := by decide +kernel
theorem d_X_sell_6 : decode b_X_sell 6 = .ok (.aload_n 0, 1) := by decide +kernel
theorem d_X_sell_7 : decode b_X_sell 7 = .ok (.getfield 12, 3) := by decide +kernel
theorem d_X_sell_10 : decode b_X_sell 10 = .ok (.iconst 1, 1) := by decide +kernel
theorem d_X_sell_11 : decode b_X_sell 11 = .ok (.invokevirtual 220, 3) := by decide +kernel
theorem d_X_sell_14 : decode b_X_sell 14 = .ok (.ifCond .ne 13, 3) := by decide +kernel
theorem d_X_sell_17 : decode b_X_sell 17 = .ok (.new 81, 3) := by decide +kernel
theorem d_X_sell_20 : decode b_X_sell 20 = .ok (.dup, 1) := by decide +kernel
theorem d_X_sell_21 : decode b_X_sell 21 = .ok (.ldc 223, 2) := by decide +kernel
theorem d_X_sell_23 : decode b_X_sell 23 = .ok (.invokespecial 85, 3) := by decide +kernel
theorem d_X_sell_26 : decode b_X_sell 26 = .ok (.athrow, 1) := by decide +kernel
theorem d_X_sell_27 : decode b_X_sell 27 = .ok (.aload_n 0, 1) := by decide +kernel
theorem d_X_sell_28 : decode b_X_sell 28 = .ok (.getfield 22, 3) := by decide +kernel
theorem d_X_sell_31 : decode b_X_sell 31 = .ok (.aload_n 0, 1) := by decide +kernel
theorem d_X_sell_32 : decode b_X_sell 32 = .ok (.getfield 12, 3) := by decide +kernel
theorem d_X_sell_35 : decode b_X_sell 35 = .ok (.invokevirtual 86, 3) := by decide +kernel
theorem d_X_sell_38 : decode b_X_sell 38 = .ok (.aload_n 0, 1) := by decide +kernel
theorem d_X_sell_39 : decode b_X_sell 39 = .ok (.getfield 12, 3) := by decide +kernel
theorem d_X_sell_42 : decode b_X_sell 42 = .ok (.aload_n 2, 1) := by decide +kernel
theorem d_X_sell_43 : decode b_X_sell 43 = .ok (.iconst 1, 1) := by decide +kernel
theorem d_X_sell_44 : decode b_X_sell 44 = .ok (.invokevirtual 225, 3) := by decide +kernel
theorem d_X_sell_47 : decode b_X_sell 47 = .ok (.ireturn, 1) := by decide +kernel
theorem d_X_pass_0 : decode b_X_pass 0 = .ok (.aload_n 0, 1) := by decide +kernel
theorem d_X_pass_1 : decode b_X_pass 1 = .ok (.iload_n 1, 1) := by decide +kernel
theorem d_X_pass_2 : decode b_X_pass 2 = .ok (.invokevirtual 229, 3) := by decide +kernel
theorem d_X_pass_5 : decode b_X_pass 5 = .ok (.astore_n 3, 1) := by decide +kernel
theorem d_X_pass_6 : decode b_X_pass 6 = .ok (.aload_n 0, 1) := by decide +kernel
theorem d_X_pass_7 : decode b_X_pass 7 = .ok (.iload_n 2, 1) := by decide +kernel
theorem d_X_pass_8 : decode b_X_pass 8 = .ok (.invokevirtual 115, 3) := by decide +kernel
theorem d_X_pass_11 : decode b_X_pass 11 = .ok (.astore 4, 2) := by decide +kernel
theorem d_X_pass_13 : decode b_X_pass 13 = .ok (.aload_n 0, 1) := by decide +kernel
theorem d_X_pass_14 : decode b_X_pass 14 = .ok (.getfield 12, 3) := by decide +kernel
theorem d_X_pass_17 : decode b_X_pass 17 = .ok (.aload_n 3, 1) := by decide +kernel
theorem d_X_pass_18 : decode b_X_pass 18 = .ok (.aload 4, 2) := by decide +kernel
theorem d_X_pass_20 : decode b_X_pass 20 = .ok (.invokevirtual 233, 3) := by decide +kernel
theorem d_X_pass_23 : decode b_X_pass 23 = .ok (.istore 5, 2) := by decide +kernel
theorem d_X_pass_25 : decode b_X_pass 25 = .ok (.iload 5, 2) := by decide +kernel
theorem d_X_pass_27 : decode b_X_pass 27 = .ok (.ifCond .eq 19, 3) := by decide +kernel
theorem d_X_pass_30 : decode b_X_pass 30 = .ok (.aload_n 0, 1) := by decide +kernel
theorem d_X_pass_31 : decode b_X_pass 31 = .ok (.iload 5, 2) := by decide +kernel
theorem d_X_pass_33 : decode b_X_pass 33 = .ok (.putfield 44, 3) := by decide +kernel
theorem d_X_pass_36 : decode b_X_pass 36 = .ok (.new 237, 3) := by decide +kernel
theorem d_X_pass_39 : decode b_X_pass 39 = .ok (.dup, 1) := by decide +kernel
theorem d_X_pass_40 : decode b_X_pass 40 = .ok (.ldc 239, 2) := by decide +kernel
theorem d_X_pass_42 : decode b_X_pass 42 = .ok (.invokespecial 241, 3) := by decide +kernel
theorem d_X_pass_45 : decode b_X_pass 45 = .ok (.athrow, 1) := by decide +kernel
theorem d_X_pass_46 : decode b_X_pass 46 = .ok (.aload_n 0, 1) := by decide +kernel
theorem d_X_pass_47 : decode b_X_pass 47 = .ok (.getfield 22, 3) := by decide +kernel
theorem d_X_pass_50 : decode b_X_pass 50 = .ok (.aload_n 0, 1) := by decide +kernel
theorem d_X_pass_51 : decode b_X_pass 51 = .ok (.getfield 12, 3) := by decide +kernel
theorem d_X_pass_54 : decode b_X_pass 54 = .ok (.invokevirtual 86, 3) := by decide +kernel
theorem d_X_pass_57 : decode b_X_pass 57 = .ok (.aload_n 0, 1) := by decide +kernel
theorem d_X_pass_58 : decode b_X_pass 58 = .ok (.getfield 12, 3) := by decide +kernel
theorem d_X_pass_61 : decode b_X_pass 61 = .ok (.aload_n 3, 1) := by decide +kernel
theorem d_X_pass_62 : decode b_X_pass 62 = .ok (.aload 4, 2) := by decide +kernel
theorem d_X_pass_64 : decode b_X_pass 64 = .ok (.invokevirtual 242, 3) := by decide +kernel
theorem d_X_pass_67 : decode b_X_pass 67 = .ok (.ireturn, 1) := by decide +kernel
theorem d_X_existingCard_0 : decode b_X_existingCard 0 = .ok (.aload_n 0, 1) := by decide +kernel
theorem d_X_existingCard_1 : decode b_X_existingCard 1 = .ok (.getfield 12, 3) := by decide +kernel
theorem d_X_existingCard_4 : decode b_X_existingCard 4 = .ok (.iload_n 1, 1) := by decide +kernel
theorem d_X_existingCard_5 : decode b_X_existingCard 5 = .ok (.invokevirtual 454, 3) := by decide +kernel
theorem d_X_existingCard_8 : decode b_X_existingCard 8 = .ok (.astore_n 2, 1) := by decide +kernel
theorem d_X_existingCard_9 : decode b_X_existingCard 9 = .ok (.aload_n 2, 1) := by decide +kernel
theorem d_X_existingCard_10 : decode b_X_existingCard 10 = .ok (.ifnonnull 14, 3) := by decide +kernel
theorem d_X_existingCard_13 : decode b_X_existingCard 13 = .ok (.new 444, 3) := by decide +kernel
theorem d_X_existingCard_16 : decode b_X_existingCard 16 = .ok (.dup, 1) := by decide +kernel
theorem d_X_existingCard_17 : decode b_X_existingCard 17 = .ok (.ldc_w 457, 3) := by decide +kernel
theorem d_X_existingCard_20 : decode b_X_existingCard 20 = .ok (.invokespecial 448, 3) := by decide +kernel
theorem d_X_existingCard_23 : decode b_X_existingCard 23 = .ok (.athrow, 1) := by decide +kernel
theorem d_X_existingCard_24 : decode b_X_existingCard 24 = .ok (.aload_n 2, 1) := by decide +kernel
theorem d_X_existingCard_25 : decode b_X_existingCard 25 = .ok (.areturn, 1) := by decide +kernel
theorem d_X_reason_0 : decode b_X_reason 0 = .ok (.aload_n 0, 1) := by decide +kernel
theorem d_X_reason_1 : decode b_X_reason 1 = .ok (.iload_n 1, 1) := by decide +kernel
theorem d_X_reason_2 : decode b_X_reason 2 = .ok (.invokevirtual 229, 3) := by decide +kernel
theorem d_X_reason_5 : decode b_X_reason 5 = .ok (.astore_n 3, 1) := by decide +kernel
theorem d_X_reason_6 : decode b_X_reason 6 = .ok (.aload_n 0, 1) := by decide +kernel
theorem d_X_reason_7 : decode b_X_reason 7 = .ok (.iload_n 2, 1) := by decide +kernel
theorem d_X_reason_8 : decode b_X_reason 8 = .ok (.invokevirtual 115, 3) := by decide +kernel
theorem d_X_reason_11 : decode b_X_reason 11 = .ok (.astore 4, 2) := by decide +kernel
theorem d_X_reason_13 : decode b_X_reason 13 = .ok (.aload_n 0, 1) := by decide +kernel
theorem d_X_reason_14 : decode b_X_reason 14 = .ok (.getfield 12, 3) := by decide +kernel
theorem d_X_reason_17 : decode b_X_reason 17 = .ok (.aload_n 3, 1) := by decide +kernel
theorem d_X_reason_18 : decode b_X_reason 18 = .ok (.aload 4, 2) := by decide +kernel
theorem d_X_reason_20 : decode b_X_reason 20 = .ok (.invokevirtual 233, 3) := by decide +kernel
theorem d_X_reason_23 : decode b_X_reason 23 = .ok (.ireturn, 1) := by decide +kernel
theorem d_X_openGates_0 : decode b_X_openGates 0 = .ok (.aload_n 0, 1) := by decide +kernel
theorem d_X_openGates_1 : decode b_X_openGates 1 = .ok (.getfield 12, 3) := by decide +kernel
theorem d_X_openGates_4 : decode b_X_openGates 4 = .ok (.aload_n 0, 1) := by decide +kernel
theorem d_X_openGates_5 : decode b_X_openGates 5 = .ok (.iload_n 1, 1) := by decide +kernel
theorem d_X_openGates_6 : decode b_X_openGates 6 = .ok (.invokevirtual 229, 3) := by decide +kernel
theorem d_X_openGates_9 : decode b_X_openGates 9 = .ok (.invokevirtual 245, 3) := by decide +kernel
theorem d_X_openGates_12 : decode b_X_openGates 12 = .ok (.ireturn, 1) := by decide +kernel
theorem d_X_refusal_0 : decode b_X_refusal 0 = .ok (.aload_n 0, 1) := by decide +kernel
theorem d_X_refusal_1 : decode b_X_refusal 1 = .ok (.getfield 44, 3) := by decide +kernel
theorem d_X_refusal_4 : decode b_X_refusal 4 = .ok (.ifCond .ne 13, 3) := by decide +kernel
theorem d_X_refusal_7 : decode b_X_refusal 7 = .ok (.new 81, 3) := by decide +kernel
theorem d_X_refusal_10 : decode b_X_refusal 10 = .ok (.dup, 1) := by decide +kernel
theorem d_X_refusal_11 : decode b_X_refusal 11 = .ok (.ldc 249, 2) := by decide +kernel
theorem d_X_refusal_13 : decode b_X_refusal 13 = .ok (.invokespecial 85, 3) := by decide +kernel
theorem d_X_refusal_16 : decode b_X_refusal 16 = .ok (.athrow, 1) := by decide +kernel
theorem d_X_refusal_17 : decode b_X_refusal 17 = .ok (.aload_n 0, 1) := by decide +kernel
theorem d_X_refusal_18 : decode b_X_refusal 18 = .ok (.getfield 44, 3) := by decide +kernel
theorem d_X_refusal_21 : decode b_X_refusal 21 = .ok (.iload_n 1, 1) := by decide +kernel
theorem d_X_refusal_22 : decode b_X_refusal 22 = .ok (.invokestatic 251, 3) := by decide +kernel
theorem d_X_refusal_25 : decode b_X_refusal 25 = .ok (.istore_n 2, 1) := by decide +kernel
theorem d_X_refusal_26 : decode b_X_refusal 26 = .ok (.iload_n 2, 1) := by decide +kernel
theorem d_X_refusal_27 : decode b_X_refusal 27 = .ok (.iconst (-1), 1) := by decide +kernel
theorem d_X_refusal_28 : decode b_X_refusal 28 = .ok (.if_icmp .ne 14, 3) := by decide +kernel
theorem d_X_refusal_31 : decode b_X_refusal 31 = .ok (.new 255, 3) := by decide +kernel
theorem d_X_refusal_34 : decode b_X_refusal 34 = .ok (.dup, 1) := by decide +kernel
theorem d_X_refusal_35 : decode b_X_refusal 35 = .ok (.ldc_w 257, 3) := by decide +kernel
theorem d_X_refusal_38 : decode b_X_refusal 38 = .ok (.invokespecial 259, 3) := by decide +kernel
theorem d_X_refusal_41 : decode b_X_refusal 41 = .ok (.athrow, 1) := by decide +kernel
theorem d_X_refusal_42 : decode b_X_refusal 42 = .ok (.iload_n 2, 1) := by decide +kernel
theorem d_X_refusal_43 : decode b_X_refusal 43 = .ok (.ireturn, 1) := by decide +kernel
theorem d_X_numberInChain_0 : decode b_X_numberInChain 0 = .ok (.iload_n 0, 1) := by decide +kernel
theorem d_X_numberInChain_1 : decode b_X_numberInChain 1 = .ok (.bipush 10, 2) := by decide +kernel
theorem d_X_numberInChain_3 : decode b_X_numberInChain 3 = .ok (.idiv, 1) := by decide +kernel
theorem d_X_numberInChain_4 : decode b_X_numberInChain 4 = .ok (.istore_n 2, 1) := by decide +kernel
theorem d_X_numberInChain_5 : decode b_X_numberInChain 5 = .ok (.iload_n 2, 1) := by decide +kernel
theorem d_X_numberInChain_6 : decode b_X_numberInChain 6 = .ok (.iconst 3, 1) := by decide +kernel
theorem d_X_numberInChain_7 : decode b_X_numberInChain 7 = .ok (.invokestatic 461, 3) := by decide +kernel
theorem d_X_numberInChain_10 : decode b_X_numberInChain 10 = .ok (.istore_n 3, 1) := by decide +kernel
theorem d_X_numberInChain_11 : decode b_X_numberInChain 11 = .ok (.iload_n 1, 1) := by decide +kernel
theorem d_X_numberInChain_12 : decode b_X_numberInChain 12 = .ok (.ifCond .lt 8, 3) := by decide +kernel
theorem d_X_numberInChain_15 : decode b_X_numberInChain 15 = .ok (.iload_n 1, 1) := by decide +kernel
theorem d_X_numberInChain_16 : decode b_X_numberInChain 16 = .ok (.iload_n 3, 1) := by decide +kernel
theorem d_X_numberInChain_17 : decode b_X_numberInChain 17 = .ok (.if_icmp .le 5, 3) := by decide +kernel
theorem d_X_numberInChain_20 : decode b_X_numberInChain 20 = .ok (.iconst (-1), 1) := by decide +kernel
theorem d_X_numberInChain_21 : decode b_X_numberInChain 21 = .ok (.ireturn, 1) := by decide +kernel
theorem d_X_numberInChain_22 : decode b_X_numberInChain 22 = .ok (.iload_n 1, 1) := by decide +kernel
theorem d_X_numberInChain_23 : decode b_X_numberInChain 23 = .ok (.iload_n 3, 1) := by decide +kernel
theorem d_X_numberInChain_24 : decode b_X_numberInChain 24 = .ok (.if_icmp .ne 5, 3) := by decide +kernel
theorem d_X_numberInChain_27 : decode b_X_numberInChain 27 = .ok (.iload_n 0, 1) := by decide +kernel
theorem d_X_numberInChain_28 : decode b_X_numberInChain 28 = .ok (.ireturn, 1) := by decide +kernel
theorem d_X_numberInChain_29 : decode b_X_numberInChain 29 = .ok (.iload_n 1, 1) := by decide +kernel
theorem d_X_numberInChain_30 : decode b_X_numberInChain 30 = .ok (.iconst 2, 1) := by decide +kernel
theorem d_X_numberInChain_31 : decode b_X_numberInChain 31 = .ok (.if_icmp .ge 9, 3) := by decide +kernel
theorem d_X_numberInChain_34 : decode b_X_numberInChain 34 = .ok (.iload_n 1, 1) := by decide +kernel
theorem d_X_numberInChain_35 : decode b_X_numberInChain 35 = .ok (.iconst 1, 1) := by decide +kernel
theorem d_X_numberInChain_36 : decode b_X_numberInChain 36 = .ok (.iadd, 1) := by decide +kernel
theorem d_X_numberInChain_37 : decode b_X_numberInChain 37 = .ok (.goto 4, 3) := by decide +kernel
theorem d_X_numberInChain_40 : decode b_X_numberInChain 40 = .ok (.iload_n 2, 1) := by decide +kernel
theorem d_X_numberInChain_41 : decode b_X_numberInChain 41 = .ok (.ireturn, 1) := by decide +kernel
theorem d_X_block_0 : decode b_X_block 0 = .ok (.aload_n 0, 1) := by decide +kernel
theorem d_X_block_1 : decode b_X_block 1 = .ok (.iload_n 1, 1) := by decide +kernel
theorem d_X_block_2 : decode b_X_block 2 = .ok (.invokevirtual 229, 3) := by decide +kernel
theorem d_X_block_5 : decode b_X_block 5 = .ok (.astore_n 3, 1) := by decide +kernel
theorem d_X_block_6 : decode b_X_block 6 = .ok (.aload_n 3, 1) := by decide +kernel
theorem d_X_block_7 : decode b_X_block 7 = .ok (.invokevirtual 260, 3) := by decide +kernel
theorem d_X_block_10 : decode b_X_block 10 = .ok (.ifCond .eq 14, 3) := by decide +kernel
theorem d_X_block_13 : decode b_X_block 13 = .ok (.new 81, 3) := by decide +kernel
theorem d_X_block_16 : decode b_X_block 16 = .ok (.dup, 1) := by decide +kernel
theorem d_X_block_17 : decode b_X_block 17 = .ok (.ldc_w 266, 3) := by decide +kernel
theorem d_X_block_20 : decode b_X_block 20 = .ok (.invokespecial 85, 3) := by decide +kernel
theorem d_X_block_23 : decode b_X_block 23 = .ok (.athrow, 1) := by decide +kernel
theorem d_X_block_24 : decode b_X_block 24 = .ok (.aload_n 0, 1) := by decide +kernel
theorem d_X_block_25 : decode b_X_block 25 = .ok (.getfield 22, 3) := by decide +kernel
theorem d_X_block_28 : decode b_X_block 28 = .ok (.aload_n 0, 1) := by decide +kernel
theorem d_X_block_29 : decode b_X_block 29 = .ok (.getfield 12, 3) := by decide +kernel
theorem d_X_block_32 : decode b_X_block 32 = .ok (.invokevirtual 86, 3) := by decide +kernel
theorem d_X_block_35 : decode b_X_block 35 = .ok (.aload_n 0, 1) := by decide +kernel
theorem d_X_block_36 : decode b_X_block 36 = .ok (.getfield 12, 3) := by decide +kernel
theorem d_X_block_39 : decode b_X_block 39 = .ok (.aload_n 3, 1) := by decide +kernel
theorem d_X_block_40 : decode b_X_block 40 = .ok (.iload_n 2, 1) := by decide +kernel
theorem d_X_block_41 : decode b_X_block 41 = .ok (.invokevirtual 268, 3) := by decide +kernel
theorem d_X_block_44 : decode b_X_block 44 = .ok (.aload_n 3, 1) := by decide +kernel
theorem d_X_block_45 : decode b_X_block 45 = .ok (.getfield 272, 3) := by decide +kernel
theorem d_X_block_48 : decode b_X_block 48 = .ok (.ireturn, 1) := by decide +kernel
theorem d_X_replace_0 : decode b_X_replace 0 = .ok (.aload_n 0, 1) := by decide +kernel
theorem d_X_replace_1 : decode b_X_replace 1 = .ok (.iload_n 1, 1) := by decide +kernel
theorem d_X_replace_2 : decode b_X_replace 2 = .ok (.invokevirtual 229, 3) := by decide +kernel
theorem d_X_replace_5 : decode b_X_replace 5 = .ok (.astore_n 2, 1) := by decide +kernel
theorem d_X_replace_6 : decode b_X_replace 6 = .ok (.aload_n 2, 1) := by decide +kernel
theorem d_X_replace_7 : decode b_X_replace 7 = .ok (.invokevirtual 260, 3) := by decide +kernel
theorem d_X_replace_10 : decode b_X_replace 10 = .ok (.ifCond .ne 14, 3) := by decide +kernel
theorem d_X_replace_13 : decode b_X_replace 13 = .ok (.aload_n 0, 1) := by decide +kernel
theorem d_X_replace_14 : decode b_X_replace 14 = .ok (.getfield 12, 3) := by decide +kernel
theorem d_X_replace_17 : decode b_X_replace 17 = .ok (.iconst 1, 1) := by decide +kernel
theorem d_X_replace_18 : decode b_X_replace 18 = .ok (.invokevirtual 220, 3) := by decide +kernel
theorem d_X_replace_21 : decode b_X_replace 21 = .ok (.ifCond .ne 14, 3) := by decide +kernel
theorem d_X_replace_24 : decode b_X_replace 24 = .ok (.new 81, 3) := by decide +kernel
theorem d_X_replace_27 : decode b_X_replace 27 = .ok (.dup, 1) := by decide +kernel
theorem d_X_replace_28 : decode b_X_replace 28 = .ok (.ldc_w 275, 3) := by decide +kernel
theorem d_X_replace_31 : decode b_X_replace 31 = .ok (.invokespecial 85, 3) := by decide +kernel
theorem d_X_replace_34 : decode b_X_replace 34 = .ok (.athrow, 1) := by decide +kernel
theorem d_X_replace_35 : decode b_X_replace 35 = .ok (.aload_n 0, 1) := by decide +kernel
theorem d_X_replace_36 : decode b_X_replace 36 = .ok (.getfield 22, 3) := by decide +kernel
theorem d_X_replace_39 : decode b_X_replace 39 = .ok (.aload_n 0, 1) := by decide +kernel
theorem d_X_replace_40 : decode b_X_replace 40 = .ok (.getfield 12, 3) := by decide +kernel
theorem d_X_replace_43 : decode b_X_replace 43 = .ok (.invokevirtual 86, 3) := by decide +kernel
theorem d_X_replace_46 : decode b_X_replace 46 = .ok (.aload_n 0, 1) := by decide +kernel
theorem d_X_replace_47 : decode b_X_replace 47 = .ok (.getfield 12, 3) := by decide +kernel
theorem d_X_replace_50 : decode b_X_replace 50 = .ok (.aload_n 2, 1) := by decide +kernel
theorem d_X_replace_51 : decode b_X_replace 51 = .ok (.invokevirtual 277, 3) := by decide +kernel
theorem d_X_replace_54 : decode b_X_replace 54 = .ok (.ireturn, 1) := by decide +kernel
theorem d_X_card_0 : decode b_X_card 0 = .ok (.aload_n 0, 1) := by decide +kernel
theorem d_X_card_1 : decode b_X_card 1 = .ok (.iload_n 1, 1) := by decide +kernel
theorem d_X_card_2 : decode b_X_card 2 = .ok (.invokevirtual 229, 3) := by decide +kernel
theorem d_X_card_5 : decode b_X_card 5 = .ok (.astore_n 3, 1) := by decide +kernel
theorem d_X_card_6 : decode b_X_card 6 = .ok (.iload_n 2, 1) := by decide +kernel
theorem d_X_card_7 : decode b_X_card 7 = .ok (.tableswitch 111 0 8 #[49, 57, 62, 67, 75, 80, 89, 94, 99], 49) := by decide +kernel
theorem d_X_card_56 : decode b_X_card 56 = .ok (.aload_n 3, 1) := by decide +kernel
theorem d_X_card_57 : decode b_X_card 57 = .ok (.getfield 280, 3) := by decide +kernel
theorem d_X_card_60 : decode b_X_card 60 = .ok (.getfield 284, 3) := by decide +kernel
theorem d_X_card_63 : decode b_X_card 63 = .ok (.ireturn, 1) := by decide +kernel
theorem d_X_card_64 : decode b_X_card 64 = .ok (.aload_n 3, 1) := by decide +kernel
theorem d_X_card_65 : decode b_X_card 65 = .ok (.getfield 272, 3) := by decide +kernel
theorem d_X_card_68 : decode b_X_card 68 = .ok (.ireturn, 1) := by decide +kernel
theorem d_X_card_69 : decode b_X_card 69 = .ok (.aload_n 3, 1) := by decide +kernel
theorem d_X_card_70 : decode b_X_card 70 = .ok (.invokevirtual 287, 3) := by decide +kernel
theorem d_X_card_73 : decode b_X_card 73 = .ok (.ireturn, 1) := by decide +kernel
theorem d_X_card_74 : decode b_X_card 74 = .ok (.aload_n 3, 1) := by decide +kernel
theorem d_X_card_75 : decode b_X_card 75 = .ok (.invokevirtual 290, 3) := by decide +kernel
theorem d_X_card_78 : decode b_X_card 78 = .ok (.invokestatic 293, 3) := by decide +kernel
theorem d_X_card_81 : decode b_X_card 81 = .ok (.ireturn, 1) := by decide +kernel
theorem d_X_card_82 : decode b_X_card 82 = .ok (.aload_n 3, 1) := by decide +kernel
theorem d_X_card_83 : decode b_X_card 83 = .ok (.getfield 299, 3) := by decide +kernel
theorem d_X_card_86 : decode b_X_card 86 = .ok (.ireturn, 1) := by decide +kernel
theorem d_X_card_87 : decode b_X_card 87 = .ok (.aload_n 0, 1) := by decide +kernel
theorem d_X_card_88 : decode b_X_card 88 = .ok (.getfield 12, 3) := by decide +kernel
theorem d_X_card_91 : decode b_X_card 91 = .ok (.aload_n 3, 1) := by decide +kernel
theorem d_X_card_92 : decode b_X_card 92 = .ok (.invokevirtual 302, 3) := by decide +kernel
theorem d_X_card_95 : decode b_X_card 95 = .ok (.ireturn, 1) := by decide +kernel
theorem d_X_card_96 : decode b_X_card 96 = .ok (.aload_n 3, 1) := by decide +kernel
theorem d_X_card_97 : decode b_X_card 97 = .ok (.invokevirtual 305, 3) := by decide +kernel
theorem d_X_card_100 : decode b_X_card 100 = .ok (.ireturn, 1) := by decide +kernel
theorem d_X_card_101 : decode b_X_card 101 = .ok (.aload_n 3, 1) := by decide +kernel
theorem d_X_card_102 : decode b_X_card 102 = .ok (.getfield 307, 3) := by decide +kernel
theorem d_X_card_105 : decode b_X_card 105 = .ok (.ireturn, 1) := by decide +kernel
theorem d_X_card_106 : decode b_X_card 106 = .ok (.aload_n 3, 1) := by decide +kernel
theorem d_X_card_107 : decode b_X_card 107 = .ok (.aload_n 0, 1) := by decide +kernel
theorem d_X_card_108 : decode b_X_card 108 = .ok (.getfield 12, 3) := by decide +kernel
theorem d_X_card_111 : decode b_X_card 111 = .ok (.invokevirtual 132, 3) := by decide +kernel
theorem d_X_card_114 : decode b_X_card 114 = .ok (.invokevirtual 310, 3) := by decide +kernel
theorem d_X_card_117 : decode b_X_card 117 = .ok (.ireturn, 1) := by decide +kernel
theorem d_X_card_118 : decode b_X_card 118 = .ok (.new 71, 3) := by decide +kernel
theorem d_X_card_121 : decode b_X_card 121 = .ok (.dup, 1) := by decide +kernel
theorem d_X_card_122 : decode b_X_card 122 = .ok (.ldc_w 313, 3) := by decide +kernel
theorem d_X_card_125 : decode b_X_card 125 = .ok (.invokespecial 75, 3) := by decide +kernel
theorem d_X_card_128 : decode b_X_card 128 = .ok (.athrow, 1) := by decide +kernel
theorem d_X_ride_0 : decode b_X_ride 0 = .ok (.aload_n 0, 1) := by decide +kernel
theorem d_X_ride_1 : decode b_X_ride 1 = .ok (.iload_n 1, 1) := by decide +kernel
theorem d_X_ride_2 : decode b_X_ride 2 = .ok (.invokevirtual 229, 3) := by decide +kernel
theorem d_X_ride_5 : decode b_X_ride 5 = .ok (.iload_n 2, 1) := by decide +kernel
theorem d_X_ride_6 : decode b_X_ride 6 = .ok (.invokevirtual 315, 3) := by decide +kernel
theorem d_X_ride_9 : decode b_X_ride 9 = .ok (.astore 4, 2) := by decide +kernel
theorem d_X_ride_11 : decode b_X_ride 11 = .ok (.aload 4, 2) := by decide +kernel
theorem d_X_ride_13 : decode b_X_ride 13 = .ok (.ifnonnull 14, 3) := by decide +kernel
theorem d_X_ride_16 : decode b_X_ride 16 = .ok (.new 255, 3) := by decide +kernel
theorem d_X_ride_19 : decode b_X_ride 19 = .ok (.dup, 1) := by decide +kernel
theorem d_X_ride_20 : decode b_X_ride 20 = .ok (.ldc_w 319, 3) := by decide +kernel
theorem d_X_ride_23 : decode b_X_ride 23 = .ok (.invokespecial 259, 3) := by decide +kernel
theorem d_X_ride_26 : decode b_X_ride 26 = .ok (.athrow, 1) := by decide +kernel
theorem d_X_ride_27 : decode b_X_ride 27 = .ok (.iload_n 3, 1) := by decide +kernel
theorem d_X_ride_28 : decode b_X_ride 28 = .ok (.ifCond .eq 14, 3) := by decide +kernel
theorem d_X_ride_31 : decode b_X_ride 31 = .ok (.aload 4, 2) := by decide +kernel
theorem d_X_ride_33 : decode b_X_ride 33 = .ok (.getfield 321, 3) := by decide +kernel
theorem d_X_ride_36 : decode b_X_ride 36 = .ok (.getfield 327, 3) := by decide +kernel
theorem d_X_ride_39 : decode b_X_ride 39 = .ok (.goto 8, 3) := by decide +kernel
theorem d_X_ride_42 : decode b_X_ride 42 = .ok (.aload 4, 2) := by decide +kernel
theorem d_X_ride_44 : decode b_X_ride 44 = .ok (.getfield 328, 3) := by decide +kernel
theorem d_X_ride_47 : decode b_X_ride 47 = .ok (.ireturn, 1) := by decide +kernel
theorem d_X_refundable_0 : decode b_X_refundable 0 = .ok (.aload_n 0, 1) := by decide +kernel
theorem d_X_refundable_1 : decode b_X_refundable 1 = .ok (.getfield 12, 3) := by decide +kernel
theorem d_X_refundable_4 : decode b_X_refundable 4 = .ok (.aload_n 0, 1) := by decide +kernel
theorem d_X_refundable_5 : decode b_X_refundable 5 = .ok (.iload_n 1, 1) := by decide +kernel
theorem d_X_refundable_6 : decode b_X_refundable 6 = .ok (.invokevirtual 229, 3) := by decide +kernel
theorem d_X_refundable_9 : decode b_X_refundable 9 = .ok (.invokevirtual 331, 3) := by decide +kernel
theorem d_X_refundable_12 : decode b_X_refundable 12 = .ok (.ireturn, 1) := by decide +kernel
theorem d_X_refund_0 : decode b_X_refund 0 = .ok (.aload_n 0, 1) := by decide +kernel
theorem d_X_refund_1 : decode b_X_refund 1 = .ok (.iload_n 1, 1) := by decide +kernel
theorem d_X_refund_2 : decode b_X_refund 2 = .ok (.invokevirtual 229, 3) := by decide +kernel
theorem d_X_refund_5 : decode b_X_refund 5 = .ok (.astore_n 2, 1) := by decide +kernel
theorem d_X_refund_6 : decode b_X_refund 6 = .ok (.aload_n 2, 1) := by decide +kernel
theorem d_X_refund_7 : decode b_X_refund 7 = .ok (.invokevirtual 260, 3) := by decide +kernel
theorem d_X_refund_10 : decode b_X_refund 10 = .ok (.ifCond .eq 14, 3) := by decide +kernel
theorem d_X_refund_13 : decode b_X_refund 13 = .ok (.new 81, 3) := by decide +kernel
theorem d_X_refund_16 : decode b_X_refund 16 = .ok (.dup, 1) := by decide +kernel
theorem d_X_refund_17 : decode b_X_refund 17 = .ok (.ldc_w 266, 3) := by decide +kernel
theorem d_X_refund_20 : decode b_X_refund 20 = .ok (.invokespecial 85, 3) := by decide +kernel
theorem d_X_refund_23 : decode b_X_refund 23 = .ok (.athrow, 1) := by decide +kernel
theorem d_X_refund_24 : decode b_X_refund 24 = .ok (.aload_n 0, 1) := by decide +kernel
theorem d_X_refund_25 : decode b_X_refund 25 = .ok (.getfield 22, 3) := by decide +kernel
theorem d_X_refund_28 : decode b_X_refund 28 = .ok (.aload_n 0, 1) := by decide +kernel
theorem d_X_refund_29 : decode b_X_refund 29 = .ok (.getfield 12, 3) := by decide +kernel
theorem d_X_refund_32 : decode b_X_refund 32 = .ok (.invokevirtual 86, 3) := by decide +kernel
theorem d_X_refund_35 : decode b_X_refund 35 = .ok (.aload_n 0, 1) := by decide +kernel
theorem d_X_refund_36 : decode b_X_refund 36 = .ok (.getfield 12, 3) := by decide +kernel
theorem d_X_refund_39 : decode b_X_refund 39 = .ok (.aload_n 2, 1) := by decide +kernel
theorem d_X_refund_40 : decode b_X_refund 40 = .ok (.invokevirtual 334, 3) := by decide +kernel
theorem d_X_refund_43 : decode b_X_refund 43 = .ok (.ireturn, 1) := by decide +kernel
theorem d_X_share_0 : decode b_X_share 0 = .ok (.aload_n 0, 1) := by decide +kernel
theorem d_X_share_1 : decode b_X_share 1 = .ok (.iload_n 1, 1) := by decide +kernel
theorem d_X_share_2 : decode b_X_share 2 = .ok (.invokevirtual 229, 3) := by decide +kernel
theorem d_X_share_5 : decode b_X_share 5 = .ok (.astore_n 3, 1) := by decide +kernel
theorem d_X_share_6 : decode b_X_share 6 = .ok (.iload_n 2, 1) := by decide +kernel
theorem d_X_share_7 : decode b_X_share 7 = .ok (.invokestatic 337, 3) := by decide +kernel
theorem d_X_share_10 : decode b_X_share 10 = .ok (.aload_n 0, 1) := by decide +kernel
theorem d_X_share_11 : decode b_X_share 11 = .ok (.getfield 36, 3) := by decide +kernel
theorem d_X_share_14 : decode b_X_share 14 = .ok (.aload_n 3, 1) := by decide +kernel
theorem d_X_share_15 : decode b_X_share 15 = .ok (.invokevirtual 340, 3) := by decide +kernel
theorem d_X_share_18 : decode b_X_share 18 = .ok (.aload_n 0, 1) := by decide +kernel
theorem d_X_share_19 : decode b_X_share 19 = .ok (.getfield 36, 3) := by decide +kernel
theorem d_X_share_22 : decode b_X_share 22 = .ok (.iload_n 2, 1) := by decide +kernel
theorem d_X_share_23 : decode b_X_share 23 = .ok (.invokevirtual 344, 3) := by decide +kernel
theorem d_X_share_26 : decode b_X_share 26 = .ok (.ireturn, 1) := by decide +kernel
theorem d_X_requirePartner_0 : decode b_X_requirePartner 0 = .ok (.iload_n 0, 1) := by decide +kernel
theorem d_X_requirePartner_1 : decode b_X_requirePartner 1 = .ok (.invokestatic 63, 3) := by decide +kernel
theorem d_X_requirePartner_4 : decode b_X_requirePartner 4 = .ok (.ifCond .ne 14, 3) := by decide +kernel
theorem d_X_requirePartner_7 : decode b_X_requirePartner 7 = .ok (.new 444, 3) := by decide +kernel
theorem d_X_requirePartner_10 : decode b_X_requirePartner 10 = .ok (.dup, 1) := by decide +kernel
theorem d_X_requirePartner_11 : decode b_X_requirePartner 11 = .ok (.ldc_w 459, 3) := by decide +kernel
theorem d_X_requirePartner_14 : decode b_X_requirePartner 14 = .ok (.invokespecial 448, 3) := by decide +kernel
theorem d_X_requirePartner_17 : decode b_X_requirePartner 17 = .ok (.athrow, 1) := by decide +kernel
theorem d_X_requirePartner_18 : decode b_X_requirePartner 18 = .ok (.return_, 1) := by decide +kernel
theorem d_X_partner_0 : decode b_X_partner 0 = .ok (.iload_n 1, 1) := by decide +kernel
theorem d_X_partner_1 : decode b_X_partner 1 = .ok (.invokestatic 337, 3) := by decide +kernel
theorem d_X_partner_4 : decode b_X_partner 4 = .ok (.iload_n 2, 1) := by decide +kernel
theorem d_X_partner_5 : decode b_X_partner 5 = .ok (.tableswitch 64 0 3 #[31, 37, 46, 55], 31) := by decide +kernel
theorem d_X_partner_36 : decode b_X_partner 36 = .ok (.aload_n 0, 1) := by decide +kernel
theorem d_X_partner_37 : decode b_X_partner 37 = .ok (.iload_n 1, 1) := by decide +kernel
theorem d_X_partner_38 : decode b_X_partner 38 = .ok (.invokevirtual 347, 3) := by decide +kernel
theorem d_X_partner_41 : decode b_X_partner 41 = .ok (.ireturn, 1) := by decide +kernel
theorem d_X_partner_42 : decode b_X_partner 42 = .ok (.aload_n 0, 1) := by decide +kernel
theorem d_X_partner_43 : decode b_X_partner 43 = .ok (.getfield 12, 3) := by decide +kernel
theorem d_X_partner_46 : decode b_X_partner 46 = .ok (.iload_n 1, 1) := by decide +kernel
theorem d_X_partner_47 : decode b_X_partner 47 = .ok (.invokevirtual 350, 3) := by decide +kernel
theorem d_X_partner_50 : decode b_X_partner 50 = .ok (.ireturn, 1) := by decide +kernel
theorem d_X_partner_51 : decode b_X_partner 51 = .ok (.aload_n 0, 1) := by decide +kernel
theorem d_X_partner_52 : decode b_X_partner 52 = .ok (.getfield 12, 3) := by decide +kernel
theorem d_X_partner_55 : decode b_X_partner 55 = .ok (.iload_n 1, 1) := by decide +kernel
theorem d_X_partner_56 : decode b_X_partner 56 = .ok (.invokevirtual 353, 3) := by decide +kernel
theorem d_X_partner_59 : decode b_X_partner 59 = .ok (.ireturn, 1) := by decide +kernel
theorem d_X_partner_60 : decode b_X_partner 60 = .ok (.aload_n 0, 1) := by decide +kernel
theorem d_X_partner_61 : decode b_X_partner 61 = .ok (.getfield 12, 3) := by decide +kernel
theorem d_X_partner_64 : decode b_X_partner 64 = .ok (.iload_n 1, 1) := by decide +kernel
theorem d_X_partner_65 : decode b_X_partner 65 = .ok (.invokevirtual 356, 3) := by decide +kernel
theorem d_X_partner_68 : decode b_X_partner 68 = .ok (.ireturn, 1) := by decide +kernel
theorem d_X_partner_69 : decode b_X_partner 69 = .ok (.new 71, 3) := by decide +kernel
theorem d_X_partner_72 : decode b_X_partner 72 = .ok (.dup, 1) := by decide +kernel
theorem d_X_partner_73 : decode b_X_partner 73 = .ok (.ldc_w 359, 3) := by decide +kernel
theorem d_X_partner_76 : decode b_X_partner 76 = .ok (.invokespecial 75, 3) := by decide +kernel
theorem d_X_partner_79 : decode b_X_partner 79 = .ok (.athrow, 1) := by decide +kernel
theorem d_X_account_0 : decode b_X_account 0 = .ok (.iload_n 1, 1) := by decide +kernel
theorem d_X_account_1 : decode b_X_account 1 = .ok (.tableswitch 72 0 4 #[35, 43, 51, 56, 64], 35) := by decide +kernel
theorem d_X_account_36 : decode b_X_account 36 = .ok (.aload_n 0, 1) := by decide +kernel
theorem d_X_account_37 : decode b_X_account 37 = .ok (.getfield 12, 3) := by decide +kernel
theorem d_X_account_40 : decode b_X_account 40 = .ok (.invokevirtual 361, 3) := by decide +kernel
theorem d_X_account_43 : decode b_X_account 43 = .ok (.ireturn, 1) := by decide +kernel
theorem d_X_account_44 : decode b_X_account 44 = .ok (.aload_n 0, 1) := by decide +kernel
theorem d_X_account_45 : decode b_X_account 45 = .ok (.getfield 12, 3) := by decide +kernel
theorem d_X_account_48 : decode b_X_account 48 = .ok (.invokevirtual 364, 3) := by decide +kernel
theorem d_X_account_51 : decode b_X_account 51 = .ok (.ireturn, 1) := by decide +kernel
theorem d_X_account_52 : decode b_X_account 52 = .ok (.aload_n 0, 1) := by decide +kernel
theorem d_X_account_53 : decode b_X_account 53 = .ok (.invokevirtual 367, 3) := by decide +kernel
theorem d_X_account_56 : decode b_X_account 56 = .ok (.ireturn, 1) := by decide +kernel
theorem d_X_account_57 : decode b_X_account 57 = .ok (.aload_n 0, 1) := by decide +kernel
theorem d_X_account_58 : decode b_X_account 58 = .ok (.getfield 12, 3) := by decide +kernel
theorem d_X_account_61 : decode b_X_account 61 = .ok (.invokevirtual 370, 3) := by decide +kernel
theorem d_X_account_64 : decode b_X_account 64 = .ok (.ireturn, 1) := by decide +kernel
theorem d_X_account_65 : decode b_X_account 65 = .ok (.aload_n 0, 1) := by decide +kernel
theorem d_X_account_66 : decode b_X_account 66 = .ok (.getfield 12, 3) := by decide +kernel
theorem d_X_account_69 : decode b_X_account 69 = .ok (.invokevirtual 373, 3) := by decide +kernel
theorem d_X_account_72 : decode b_X_account 72 = .ok (.ireturn, 1) := by decide +kernel
theorem d_X_account_73 : decode b_X_account 73 = .ok (.new 71, 3) := by decide +kernel
theorem d_X_account_76 : decode b_X_account 76 = .ok (.dup, 1) := by decide +kernel
theorem d_X_account_77 : decode b_X_account 77 = .ok (.ldc_w 376, 3) := by decide +kernel
theorem d_X_account_80 : decode b_X_account 80 = .ok (.invokespecial 75, 3) := by decide +kernel
theorem d_X_account_83 : decode b_X_account 83 = .ok (.athrow, 1) := by decide +kernel
theorem d_X_meanRides_0 : decode b_X_meanRides 0 = .ok (.aload_n 0, 1) := by decide +kernel
theorem d_X_meanRides_1 : decode b_X_meanRides 1 = .ok (.getfield 12, 3) := by decide +kernel
theorem d_X_meanRides_4 : decode b_X_meanRides 4 = .ok (.invokevirtual 378, 3) := by decide +kernel
theorem d_X_meanRides_7 : decode b_X_meanRides 7 = .ok (.istore_n 1, 1) := by decide +kernel
theorem d_X_meanRides_8 : decode b_X_meanRides 8 = .ok (.iload_n 1, 1) := by decide +kernel
theorem d_X_meanRides_9 : decode b_X_meanRides 9 = .ok (.ifCond .gt 14, 3) := by decide +kernel
theorem d_X_meanRides_12 : decode b_X_meanRides 12 = .ok (.new 381, 3) := by decide +kernel
theorem d_X_meanRides_15 : decode b_X_meanRides 15 = .ok (.dup, 1) := by decide +kernel
theorem d_X_meanRides_16 : decode b_X_meanRides 16 = .ok (.ldc_w 383, 3) := by decide +kernel
theorem d_X_meanRides_19 : decode b_X_meanRides 19 = .ok (.invokespecial 385, 3) := by decide +kernel
theorem d_X_meanRides_22 : decode b_X_meanRides 22 = .ok (.athrow, 1) := by decide +kernel
theorem d_X_meanRides_23 : decode b_X_meanRides 23 = .ok (.aload_n 0, 1) := by decide +kernel
theorem d_X_meanRides_24 : decode b_X_meanRides 24 = .ok (.getfield 12, 3) := by decide +kernel
theorem d_X_meanRides_27 : decode b_X_meanRides 27 = .ok (.invokevirtual 193, 3) := by decide +kernel
theorem d_X_meanRides_30 : decode b_X_meanRides 30 = .ok (.i2d, 1) := by decide +kernel
theorem d_X_meanRides_31 : decode b_X_meanRides 31 = .ok (.iload_n 1, 1) := by decide +kernel
theorem d_X_meanRides_32 : decode b_X_meanRides 32 = .ok (.i2d, 1) := by decide +kernel
theorem d_X_meanRides_33 : decode b_X_meanRides 33 = .ok (.ddiv, 1) := by decide +kernel
theorem d_X_meanRides_34 : decode b_X_meanRides 34 = .ok (.dreturn, 1) := by decide +kernel
theorem d_X_closedShare_0 : decode b_X_closedShare 0 = .ok (.aload_n 0, 1) := by decide +kernel
theorem d_X_closedShare_1 : decode b_X_closedShare 1 = .ok (.iload_n 1, 1) := by decide +kernel
theorem d_X_closedShare_2 : decode b_X_closedShare 2 = .ok (.invokevirtual 115, 3) := by decide +kernel
theorem d_X_closedShare_5 : decode b_X_closedShare 5 = .ok (.astore_n 2, 1) := by decide +kernel
theorem d_X_closedShare_6 : decode b_X_closedShare 6 = .ok (.aload_n 0, 1) := by decide +kernel
theorem d_X_closedShare_7 : decode b_X_closedShare 7 = .ok (.getfield 12, 3) := by decide +kernel
theorem d_X_closedShare_10 : decode b_X_closedShare 10 = .ok (.invokevirtual 386, 3) := by decide +kernel
theorem d_X_closedShare_13 : decode b_X_closedShare 13 = .ok (.istore_n 3, 1) := by decide +kernel
theorem d_X_closedShare_14 : decode b_X_closedShare 14 = .ok (.iload_n 3, 1) := by decide +kernel
theorem d_X_closedShare_15 : decode b_X_closedShare 15 = .ok (.ifCond .gt 14, 3) := by decide +kernel
theorem d_X_closedShare_18 : decode b_X_closedShare 18 = .ok (.new 381, 3) := by decide +kernel
theorem d_X_closedShare_21 : decode b_X_closedShare 21 = .ok (.dup, 1) := by decide +kernel
theorem d_X_closedShare_22 : decode b_X_closedShare 22 = .ok (.ldc_w 389, 3) := by decide +kernel
theorem d_X_closedShare_25 : decode b_X_closedShare 25 = .ok (.invokespecial 385, 3) := by decide +kernel
theorem d_X_closedShare_28 : decode b_X_closedShare 28 = .ok (.athrow, 1) := by decide +kernel
theorem d_X_closedShare_29 : decode b_X_closedShare 29 = .ok (.aload_n 0, 1) := by decide +kernel
theorem d_X_closedShare_30 : decode b_X_closedShare 30 = .ok (.getfield 12, 3) := by decide +kernel
theorem d_X_closedShare_33 : decode b_X_closedShare 33 = .ok (.aload_n 2, 1) := by decide +kernel
theorem d_X_closedShare_34 : decode b_X_closedShare 34 = .ok (.invokevirtual 140, 3) := by decide +kernel
theorem d_X_closedShare_37 : decode b_X_closedShare 37 = .ok (.i2f, 1) := by decide +kernel
theorem d_X_closedShare_38 : decode b_X_closedShare 38 = .ok (.iload_n 3, 1) := by decide +kernel
theorem d_X_closedShare_39 : decode b_X_closedShare 39 = .ok (.i2f, 1) := by decide +kernel
theorem d_X_closedShare_40 : decode b_X_closedShare 40 = .ok (.fdiv, 1) := by decide +kernel
theorem d_X_closedShare_41 : decode b_X_closedShare 41 = .ok (.freturn, 1) := by decide +kernel
theorem d_X_append_0 : decode b_X_append 0 = .ok (.iconst 0, 1) := by decide +kernel
theorem d_X_append_1 : decode b_X_append 1 = .ok (.istore_n 2, 1) := by decide +kernel
theorem d_X_append_2 : decode b_X_append 2 = .ok (.bipush 24, 2) := by decide +kernel
theorem d_X_append_4 : decode b_X_append 4 = .ok (.istore_n 3, 1) := by decide +kernel
theorem d_X_append_5 : decode b_X_append 5 = .ok (.iload_n 3, 1) := by decide +kernel
theorem d_X_append_6 : decode b_X_append 6 = .ok (.ifCond .lt 59, 3) := by decide +kernel
theorem d_X_append_9 : decode b_X_append 9 = .ok (.iload_n 1, 1) := by decide +kernel
theorem d_X_append_10 : decode b_X_append 10 = .ok (.iload_n 3, 1) := by decide +kernel
theorem d_X_append_11 : decode b_X_append 11 = .ok (.iushr, 1) := by decide +kernel
theorem d_X_append_12 : decode b_X_append 12 = .ok (.sipush 255, 3) := by decide +kernel
theorem d_X_append_15 : decode b_X_append 15 = .ok (.iand, 1) := by decide +kernel
theorem d_X_append_16 : decode b_X_append 16 = .ok (.istore 4, 2) := by decide +kernel
theorem d_X_append_18 : decode b_X_append 18 = .ok (.iload 4, 2) := by decide +kernel
theorem d_X_append_20 : decode b_X_append 20 = .ok (.ifCond .eq 26, 3) := by decide +kernel
theorem d_X_append_23 : decode b_X_append 23 = .ok (.iload 4, 2) := by decide +kernel
theorem d_X_append_25 : decode b_X_append 25 = .ok (.bipush 32, 2) := by decide +kernel
theorem d_X_append_27 : decode b_X_append 27 = .ok (.bipush 126, 2) := by decide +kernel
theorem d_X_append_29 : decode b_X_append 29 = .ok (.invokestatic 67, 3) := by decide +kernel
theorem d_X_append_32 : decode b_X_append 32 = .ok (.ifCond .ne 14, 3) := by decide +kernel
theorem d_X_append_35 : decode b_X_append 35 = .ok (.new 71, 3) := by decide +kernel
theorem d_X_append_38 : decode b_X_append 38 = .ok (.dup, 1) := by decide +kernel
theorem d_X_append_39 : decode b_X_append 39 = .ok (.ldc_w 397, 3) := by decide +kernel
theorem d_X_append_42 : decode b_X_append 42 = .ok (.invokespecial 75, 3) := by decide +kernel
theorem d_X_append_45 : decode b_X_append 45 = .ok (.athrow, 1) := by decide +kernel
theorem d_X_append_46 : decode b_X_append 46 = .ok (.iload_n 2, 1) := by decide +kernel
theorem d_X_append_47 : decode b_X_append 47 = .ok (.iload 4, 2) := by decide +kernel
theorem d_X_append_49 : decode b_X_append 49 = .ok (.ifCond .eq 7, 3) := by decide +kernel
theorem d_X_append_52 : decode b_X_append 52 = .ok (.iconst 1, 1) := by decide +kernel
theorem d_X_append_53 : decode b_X_append 53 = .ok (.goto 4, 3) := by decide +kernel
theorem d_X_append_56 : decode b_X_append 56 = .ok (.iconst 0, 1) := by decide +kernel
theorem d_X_append_57 : decode b_X_append 57 = .ok (.iadd, 1) := by decide +kernel
theorem d_X_append_58 : decode b_X_append 58 = .ok (.istore_n 2, 1) := by decide +kernel
theorem d_X_append_59 : decode b_X_append 59 = .ok (.iinc 3 (-8), 3) := by decide +kernel
theorem d_X_append_62 : decode b_X_append 62 = .ok (.goto (-57), 3) := by decide +kernel
theorem d_X_append_65 : decode b_X_append 65 = .ok (.aload_n 0, 1) := by decide +kernel
theorem d_X_append_66 : decode b_X_append 66 = .ok (.getfield 29, 3) := by decide +kernel
theorem d_X_append_69 : decode b_X_append 69 = .ok (.getfield 199, 3) := by decide +kernel
theorem d_X_append_72 : decode b_X_append 72 = .ok (.iload_n 2, 1) := by decide +kernel
theorem d_X_append_73 : decode b_X_append 73 = .ok (.iadd, 1) := by decide +kernel
theorem d_X_append_74 : decode b_X_append 74 = .ok (.bipush 60, 2) := by decide +kernel
theorem d_X_append_76 : decode b_X_append 76 = .ok (.if_icmp .le 14, 3) := by decide +kernel
theorem d_X_append_79 : decode b_X_append 79 = .ok (.new 81, 3) := by decide +kernel
theorem d_X_append_82 : decode b_X_append 82 = .ok (.dup, 1) := by decide +kernel
theorem d_X_append_83 : decode b_X_append 83 = .ok (.ldc_w 399, 3) := by decide +kernel
theorem d_X_append_86 : decode b_X_append 86 = .ok (.invokespecial 85, 3) := by decide +kernel
theorem d_X_append_89 : decode b_X_append 89 = .ok (.athrow, 1) := by decide +kernel
theorem d_X_append_90 : decode b_X_append 90 = .ok (.bipush 24, 2) := by decide +kernel
theorem d_X_append_92 : decode b_X_append 92 = .ok (.istore_n 3, 1) := by decide +kernel
theorem d_X_append_93 : decode b_X_append 93 = .ok (.iload_n 3, 1) := by decide +kernel
theorem d_X_append_94 : decode b_X_append 94 = .ok (.ifCond .lt 23, 3) := by decide +kernel
theorem d_X_append_97 : decode b_X_append 97 = .ok (.aload_n 0, 1) := by decide +kernel
theorem d_X_append_98 : decode b_X_append 98 = .ok (.getfield 29, 3) := by decide +kernel
theorem d_X_append_101 : decode b_X_append 101 = .ok (.iload_n 1, 1) := by decide +kernel
theorem d_X_append_102 : decode b_X_append 102 = .ok (.iload_n 3, 1) := by decide +kernel
theorem d_X_append_103 : decode b_X_append 103 = .ok (.iushr, 1) := by decide +kernel
theorem d_X_append_104 : decode b_X_append 104 = .ok (.sipush 255, 3) := by decide +kernel
theorem d_X_append_107 : decode b_X_append 107 = .ok (.iand, 1) := by decide +kernel
theorem d_X_append_108 : decode b_X_append 108 = .ok (.invokevirtual 401, 3) := by decide +kernel
theorem d_X_append_111 : decode b_X_append 111 = .ok (.iinc 3 (-8), 3) := by decide +kernel
theorem d_X_append_114 : decode b_X_append 114 = .ok (.goto (-21), 3) := by decide +kernel
theorem d_X_append_117 : decode b_X_append 117 = .ok (.aload_n 0, 1) := by decide +kernel
theorem d_X_append_118 : decode b_X_append 118 = .ok (.getfield 29, 3) := by decide +kernel
theorem d_X_append_121 : decode b_X_append 121 = .ok (.getfield 199, 3) := by decide +kernel
theorem d_X_append_124 : decode b_X_append 124 = .ok (.ireturn, 1) := by decide +kernel
theorem d_X_read_0 : decode b_X_read 0 = .ok (.aload_n 0, 1) := by decide +kernel
theorem d_X_read_1 : decode b_X_read 1 = .ok (.getfield 29, 3) := by decide +kernel
theorem d_X_read_4 : decode b_X_read 4 = .ok (.invokevirtual 404, 3) := by decide +kernel
theorem d_X_read_7 : decode b_X_read 7 = .ok (.istore_n 1, 1) := by decide +kernel
theorem d_X_read_8 : decode b_X_read 8 = .ok (.iload_n 1, 1) := by decide +kernel
theorem d_X_read_9 : decode b_X_read 9 = .ok (.iconst (-1), 1) := by decide +kernel
theorem d_X_read_10 : decode b_X_read 10 = .ok (.if_icmp .eq 26, 3) := by decide +kernel
theorem d_X_read_13 : decode b_X_read 13 = .ok (.aload_n 0, 1) := by decide +kernel
theorem d_X_read_14 : decode b_X_read 14 = .ok (.iload_n 1, 1) := by decide +kernel
theorem d_X_read_15 : decode b_X_read 15 = .ok (.putfield 48, 3) := by decide +kernel
theorem d_X_read_18 : decode b_X_read 18 = .ok (.aload_n 0, 1) := by decide +kernel
theorem d_X_read_19 : decode b_X_read 19 = .ok (.getfield 29, 3) := by decide +kernel
theorem d_X_read_22 : decode b_X_read 22 = .ok (.invokevirtual 407, 3) := by decide +kernel
theorem d_X_read_25 : decode b_X_read 25 = .ok (.new 71, 3) := by decide +kernel
theorem d_X_read_28 : decode b_X_read 28 = .ok (.dup, 1) := by decide +kernel
theorem d_X_read_29 : decode b_X_read 29 = .ok (.ldc_w 408, 3) := by decide +kernel
theorem d_X_read_32 : decode b_X_read 32 = .ok (.invokespecial 75, 3) := by decide +kernel
theorem d_X_read_35 : decode b_X_read 35 = .ok (.athrow, 1) := by decide +kernel
theorem d_X_read_36 : decode b_X_read 36 = .ok (.aload_n 0, 1) := by decide +kernel
theorem d_X_read_37 : decode b_X_read 37 = .ok (.getfield 22, 3) := by decide +kernel
theorem d_X_read_40 : decode b_X_read 40 = .ok (.aload_n 0, 1) := by decide +kernel
theorem d_X_read_41 : decode b_X_read 41 = .ok (.getfield 12, 3) := by decide +kernel
theorem d_X_read_44 : decode b_X_read 44 = .ok (.invokevirtual 410, 3) := by decide +kernel
theorem d_X_read_47 : decode b_X_read 47 = .ok (.aload_n 0, 1) := by decide +kernel
theorem d_X_read_48 : decode b_X_read 48 = .ok (.invokevirtual 413, 3) := by decide +kernel
theorem d_X_read_51 : decode b_X_read 51 = .ok (.istore_n 2, 1) := by decide +kernel
theorem d_X_read_52 : decode b_X_read 52 = .ok (.aload_n 0, 1) := by decide +kernel
theorem d_X_read_53 : decode b_X_read 53 = .ok (.getfield 29, 3) := by decide +kernel
theorem d_X_read_56 : decode b_X_read 56 = .ok (.invokevirtual 407, 3) := by decide +kernel
theorem d_X_read_59 : decode b_X_read 59 = .ok (.iload_n 2, 1) := by decide +kernel
theorem d_X_read_60 : decode b_X_read 60 = .ok (.iconst (-1), 1) := by decide +kernel
theorem d_X_read_61 : decode b_X_read 61 = .ok (.if_icmp .eq 30, 3) := by decide +kernel
theorem d_X_read_64 : decode b_X_read 64 = .ok (.aload_n 0, 1) := by decide +kernel
theorem d_X_read_65 : decode b_X_read 65 = .ok (.getfield 22, 3) := by decide +kernel
theorem d_X_read_68 : decode b_X_read 68 = .ok (.aload_n 0, 1) := by decide +kernel
theorem d_X_read_69 : decode b_X_read 69 = .ok (.getfield 12, 3) := by decide +kernel
theorem d_X_read_72 : decode b_X_read 72 = .ok (.invokevirtual 416, 3) := by decide +kernel
theorem d_X_read_75 : decode b_X_read 75 = .ok (.aload_n 0, 1) := by decide +kernel
theorem d_X_read_76 : decode b_X_read 76 = .ok (.iload_n 2, 1) := by decide +kernel
theorem d_X_read_77 : decode b_X_read 77 = .ok (.putfield 51, 3) := by decide +kernel
theorem d_X_read_80 : decode b_X_read 80 = .ok (.new 237, 3) := by decide +kernel
theorem d_X_read_83 : decode b_X_read 83 = .ok (.dup, 1) := by decide +kernel
theorem d_X_read_84 : decode b_X_read 84 = .ok (.ldc_w 419, 3) := by decide +kernel
theorem d_X_read_87 : decode b_X_read 87 = .ok (.invokespecial 241, 3) := by decide +kernel
theorem d_X_read_90 : decode b_X_read 90 = .ok (.athrow, 1) := by decide +kernel
theorem d_X_read_91 : decode b_X_read 91 = .ok (.aload_n 0, 1) := by decide +kernel
theorem d_X_read_92 : decode b_X_read 92 = .ok (.getfield 22, 3) := by decide +kernel
theorem d_X_read_95 : decode b_X_read 95 = .ok (.invokevirtual 421, 3) := by decide +kernel
theorem d_X_read_98 : decode b_X_read 98 = .ok (.aload_n 0, 1) := by decide +kernel
theorem d_X_read_99 : decode b_X_read 99 = .ok (.getfield 29, 3) := by decide +kernel
theorem d_X_read_102 : decode b_X_read 102 = .ok (.getfield 424, 3) := by decide +kernel
theorem d_X_read_105 : decode b_X_read 105 = .ok (.ireturn, 1) := by decide +kernel
theorem d_X_firstRefusedOrder_0 : decode b_X_firstRefusedOrder 0 = .ok (.aload_n 0, 1) := by decide +kernel
theorem d_X_firstRefusedOrder_1 : decode b_X_firstRefusedOrder 1 = .ok (.getfield 29, 3) := by decide +kernel
theorem d_X_firstRefusedOrder_4 : decode b_X_firstRefusedOrder 4 = .ok (.invokevirtual 470, 3) := by decide +kernel
theorem d_X_firstRefusedOrder_7 : decode b_X_firstRefusedOrder 7 = .ok (.iconst 0, 1) := by decide +kernel
theorem d_X_firstRefusedOrder_8 : decode b_X_firstRefusedOrder 8 = .ok (.istore_n 1, 1) := by decide +kernel
theorem d_X_firstRefusedOrder_9 : decode b_X_firstRefusedOrder 9 = .ok (.iload_n 1, 1) := by decide +kernel
theorem d_X_firstRefusedOrder_10 : decode b_X_firstRefusedOrder 10 = .ok (.aload_n 0, 1) := by decide +kernel
theorem d_X_firstRefusedOrder_11 : decode b_X_firstRefusedOrder 11 = .ok (.getfield 29, 3) := by decide +kernel
theorem d_X_firstRefusedOrder_14 : decode b_X_firstRefusedOrder 14 = .ok (.getfield 424, 3) := by decide +kernel
theorem d_X_firstRefusedOrder_17 : decode b_X_firstRefusedOrder 17 = .ok (.if_icmp .ge 52, 3) := by decide +kernel
theorem d_X_firstRefusedOrder_20 : decode b_X_firstRefusedOrder 20 = .ok (.aload_n 0, 1) := by decide +kernel
theorem d_X_firstRefusedOrder_21 : decode b_X_firstRefusedOrder 21 = .ok (.getfield 29, 3) := by decide +kernel
theorem d_X_firstRefusedOrder_24 : decode b_X_firstRefusedOrder 24 = .ok (.invokevirtual 473, 3) := by decide +kernel
theorem d_X_firstRefusedOrder_27 : decode b_X_firstRefusedOrder 27 = .ok (.ifCond .eq 24, 3) := by decide +kernel
theorem d_X_firstRefusedOrder_30 : decode b_X_firstRefusedOrder 30 = .ok (.aload_n 0, 1) := by decide +kernel
theorem d_X_firstRefusedOrder_31 : decode b_X_firstRefusedOrder 31 = .ok (.aload_n 0, 1) := by decide +kernel
theorem d_X_firstRefusedOrder_32 : decode b_X_firstRefusedOrder 32 = .ok (.getfield 29, 3) := by decide +kernel
theorem d_X_firstRefusedOrder_35 : decode b_X_firstRefusedOrder 35 = .ok (.getfield 476, 3) := by decide +kernel
theorem d_X_firstRefusedOrder_38 : decode b_X_firstRefusedOrder 38 = .ok (.aload_n 0, 1) := by decide +kernel
theorem d_X_firstRefusedOrder_39 : decode b_X_firstRefusedOrder 39 = .ok (.getfield 29, 3) := by decide +kernel
theorem d_X_firstRefusedOrder_42 : decode b_X_firstRefusedOrder 42 = .ok (.getfield 480, 3) := by decide +kernel
theorem d_X_firstRefusedOrder_45 : decode b_X_firstRefusedOrder 45 = .ok (.invokevirtual 481, 3) := by decide +kernel
theorem d_X_firstRefusedOrder_48 : decode b_X_firstRefusedOrder 48 = .ok (.ifCond .ne 5, 3) := by decide +kernel
theorem d_X_firstRefusedOrder_51 : decode b_X_firstRefusedOrder 51 = .ok (.iload_n 1, 1) := by decide +kernel
theorem d_X_firstRefusedOrder_52 : decode b_X_firstRefusedOrder 52 = .ok (.ireturn, 1) := by decide +kernel
theorem d_X_firstRefusedOrder_53 : decode b_X_firstRefusedOrder 53 = .ok (.aload_n 0, 1) := by decide +kernel
theorem d_X_firstRefusedOrder_54 : decode b_X_firstRefusedOrder 54 = .ok (.getfield 29, 3) := by decide +kernel
theorem d_X_firstRefusedOrder_57 : decode b_X_firstRefusedOrder 57 = .ok (.bipush 59, 2) := by decide +kernel
theorem d_X_firstRefusedOrder_59 : decode b_X_firstRefusedOrder 59 = .ok (.invokevirtual 485, 3) := by decide +kernel
theorem d_X_firstRefusedOrder_62 : decode b_X_firstRefusedOrder 62 = .ok (.pop, 1) := by decide +kernel
theorem d_X_firstRefusedOrder_63 : decode b_X_firstRefusedOrder 63 = .ok (.iinc 1 1, 3) := by decide +kernel
theorem d_X_firstRefusedOrder_66 : decode b_X_firstRefusedOrder 66 = .ok (.goto (-57), 3) := by decide +kernel
theorem d_X_firstRefusedOrder_69 : decode b_X_firstRefusedOrder 69 = .ok (.iconst (-1), 1) := by decide +kernel
theorem d_X_firstRefusedOrder_70 : decode b_X_firstRefusedOrder 70 = .ok (.ireturn, 1) := by decide +kernel
theorem d_X_carriesOut_0 : decode b_X_carriesOut 0 = .ok (.iload_n 1, 1) := by decide +kernel
theorem d_X_carriesOut_1 : decode b_X_carriesOut 1 = .ok (.tableswitch 156 98 119 #[116, 136, 156, 156, 156, 156, 156, 156, 156, 156, 156, 156, 156, 143, 156, 156, 130, 103, 156, 123, 156, 150], 103) := by decide +kernel
theorem d_X_carriesOut_104 : decode b_X_carriesOut 104 = .ok (.aload_n 0, 1) := by decide +kernel
theorem d_X_carriesOut_105 : decode b_X_carriesOut 105 = .ok (.iload_n 2, 1) := by decide +kernel
theorem d_X_carriesOut_106 : decode b_X_carriesOut 106 = .ok (.aload_n 0, 1) := by decide +kernel
theorem d_X_carriesOut_107 : decode b_X_carriesOut 107 = .ok (.getfield 29, 3) := by decide +kernel
theorem d_X_carriesOut_110 : decode b_X_carriesOut 110 = .ok (.getfield 489, 3) := by decide +kernel
theorem d_X_carriesOut_113 : decode b_X_carriesOut 113 = .ok (.invokevirtual 492, 3) := by decide +kernel
theorem d_X_carriesOut_116 : decode b_X_carriesOut 116 = .ok (.ireturn, 1) := by decide +kernel
theorem d_X_carriesOut_117 : decode b_X_carriesOut 117 = .ok (.aload_n 0, 1) := by decide +kernel
theorem d_X_carriesOut_118 : decode b_X_carriesOut 118 = .ok (.iload_n 2, 1) := by decide +kernel
theorem d_X_carriesOut_119 : decode b_X_carriesOut 119 = .ok (.iconst 1, 1) := by decide +kernel
theorem d_X_carriesOut_120 : decode b_X_carriesOut 120 = .ok (.invokevirtual 496, 3) := by decide +kernel
theorem d_X_carriesOut_123 : decode b_X_carriesOut 123 = .ok (.ireturn, 1) := by decide +kernel
theorem d_X_carriesOut_124 : decode b_X_carriesOut 124 = .ok (.aload_n 0, 1) := by decide +kernel
theorem d_X_carriesOut_125 : decode b_X_carriesOut 125 = .ok (.iload_n 2, 1) := by decide +kernel
theorem d_X_carriesOut_126 : decode b_X_carriesOut 126 = .ok (.iconst 0, 1) := by decide +kernel
theorem d_X_carriesOut_127 : decode b_X_carriesOut 127 = .ok (.invokevirtual 496, 3) := by decide +kernel
theorem d_X_carriesOut_130 : decode b_X_carriesOut 130 = .ok (.ireturn, 1) := by decide +kernel
theorem d_X_carriesOut_131 : decode b_X_carriesOut 131 = .ok (.aload_n 0, 1) := by decide +kernel
theorem d_X_carriesOut_132 : decode b_X_carriesOut 132 = .ok (.iload_n 2, 1) := by decide +kernel
theorem d_X_carriesOut_133 : decode b_X_carriesOut 133 = .ok (.invokevirtual 500, 3) := by decide +kernel
theorem d_X_carriesOut_136 : decode b_X_carriesOut 136 = .ok (.ireturn, 1) := by decide +kernel
theorem d_X_carriesOut_137 : decode b_X_carriesOut 137 = .ok (.aload_n 0, 1) := by decide +kernel
theorem d_X_carriesOut_138 : decode b_X_carriesOut 138 = .ok (.iload_n 2, 1) := by decide +kernel
theorem d_X_carriesOut_139 : decode b_X_carriesOut 139 = .ok (.iconst 1, 1) := by decide +kernel
theorem d_X_carriesOut_140 : decode b_X_carriesOut 140 = .ok (.invokevirtual 503, 3) := by decide +kernel
theorem d_X_carriesOut_143 : decode b_X_carriesOut 143 = .ok (.ireturn, 1) := by decide +kernel
theorem d_X_carriesOut_144 : decode b_X_carriesOut 144 = .ok (.aload_n 0, 1) := by decide +kernel
theorem d_X_carriesOut_145 : decode b_X_carriesOut 145 = .ok (.iload_n 2, 1) := by decide +kernel
theorem d_X_carriesOut_146 : decode b_X_carriesOut 146 = .ok (.iconst 0, 1) := by decide +kernel
theorem d_X_carriesOut_147 : decode b_X_carriesOut 147 = .ok (.invokevirtual 503, 3) := by decide +kernel
theorem d_X_carriesOut_150 : decode b_X_carriesOut 150 = .ok (.ireturn, 1) := by decide +kernel
theorem d_X_carriesOut_151 : decode b_X_carriesOut 151 = .ok (.aload_n 0, 1) := by decide +kernel
theorem d_X_carriesOut_152 : decode b_X_carriesOut 152 = .ok (.iload_n 2, 1) := by decide +kernel
theorem d_X_carriesOut_153 : decode b_X_carriesOut 153 = .ok (.invokevirtual 506, 3) := by decide +kernel
theorem d_X_carriesOut_156 : decode b_X_carriesOut 156 = .ok (.ireturn, 1) := by decide +kernel
theorem d_X_carriesOut_157 : decode b_X_carriesOut 157 = .ok (.iconst 0, 1) := by decide +kernel
theorem d_X_carriesOut_158 : decode b_X_carriesOut 158 = .ok (.ireturn, 1) := by decide +kernel
theorem d_X_orderSale_0 : decode b_X_orderSale 0 = .ok (.aload_n 0, 1) := by decide +kernel
theorem d_X_orderSale_1 : decode b_X_orderSale 1 = .ok (.getfield 12, 3) := by decide +kernel
theorem d_X_orderSale_4 : decode b_X_orderSale 4 = .ok (.iload_n 1, 1) := by decide +kernel
theorem d_X_orderSale_5 : decode b_X_orderSale 5 = .ok (.invokevirtual 449, 3) := by decide +kernel
theorem d_X_orderSale_8 : decode b_X_orderSale 8 = .ok (.astore_n 3, 1) := by decide +kernel
theorem d_X_orderSale_9 : decode b_X_orderSale 9 = .ok (.aload_n 3, 1) := by decide +kernel
theorem d_X_orderSale_10 : decode b_X_orderSale 10 = .ok (.ifnull 14, 3) := by decide +kernel
theorem d_X_orderSale_13 : decode b_X_orderSale 13 = .ok (.aload_n 0, 1) := by decide +kernel
theorem d_X_orderSale_14 : decode b_X_orderSale 14 = .ok (.getfield 12, 3) := by decide +kernel
theorem d_X_orderSale_17 : decode b_X_orderSale 17 = .ok (.iload_n 2, 1) := by decide +kernel
theorem d_X_orderSale_18 : decode b_X_orderSale 18 = .ok (.invokevirtual 220, 3) := by decide +kernel
theorem d_X_orderSale_21 : decode b_X_orderSale 21 = .ok (.ifCond .ne 5, 3) := by decide +kernel
theorem d_X_orderSale_24 : decode b_X_orderSale 24 = .ok (.iconst 0, 1) := by decide +kernel
theorem d_X_orderSale_25 : decode b_X_orderSale 25 = .ok (.ireturn, 1) := by decide +kernel
theorem d_X_orderSale_26 : decode b_X_orderSale 26 = .ok (.aload_n 0, 1) := by decide +kernel
theorem d_X_orderSale_27 : decode b_X_orderSale 27 = .ok (.getfield 12, 3) := by decide +kernel
theorem d_X_orderSale_30 : decode b_X_orderSale 30 = .ok (.aload_n 3, 1) := by decide +kernel
theorem d_X_orderSale_31 : decode b_X_orderSale 31 = .ok (.iload_n 2, 1) := by decide +kernel
theorem d_X_orderSale_32 : decode b_X_orderSale 32 = .ok (.invokevirtual 225, 3) := by decide +kernel
theorem d_X_orderSale_35 : decode b_X_orderSale 35 = .ok (.pop, 1) := by decide +kernel
theorem d_X_orderSale_36 : decode b_X_orderSale 36 = .ok (.iconst 1, 1) := by decide +kernel
theorem d_X_orderSale_37 : decode b_X_orderSale 37 = .ok (.ireturn, 1) := by decide +kernel
theorem d_X_orderBlock_0 : decode b_X_orderBlock 0 = .ok (.aload_n 0, 1) := by decide +kernel
theorem d_X_orderBlock_1 : decode b_X_orderBlock 1 = .ok (.getfield 12, 3) := by decide +kernel
theorem d_X_orderBlock_4 : decode b_X_orderBlock 4 = .ok (.iload_n 1, 1) := by decide +kernel
theorem d_X_orderBlock_5 : decode b_X_orderBlock 5 = .ok (.invokevirtual 454, 3) := by decide +kernel
theorem d_X_orderBlock_8 : decode b_X_orderBlock 8 = .ok (.astore_n 3, 1) := by decide +kernel
theorem d_X_orderBlock_9 : decode b_X_orderBlock 9 = .ok (.aload_n 3, 1) := by decide +kernel
theorem d_X_orderBlock_10 : decode b_X_orderBlock 10 = .ok (.ifnull 10, 3) := by decide +kernel
theorem d_X_orderBlock_13 : decode b_X_orderBlock 13 = .ok (.aload_n 3, 1) := by decide +kernel
theorem d_X_orderBlock_14 : decode b_X_orderBlock 14 = .ok (.invokevirtual 260, 3) := by decide +kernel
theorem d_X_orderBlock_17 : decode b_X_orderBlock 17 = .ok (.ifCond .eq 5, 3) := by decide +kernel
theorem d_X_orderBlock_20 : decode b_X_orderBlock 20 = .ok (.iconst 0, 1) := by decide +kernel
theorem d_X_orderBlock_21 : decode b_X_orderBlock 21 = .ok (.ireturn, 1) := by decide +kernel
theorem d_X_orderBlock_22 : decode b_X_orderBlock 22 = .ok (.aload_n 0, 1) := by decide +kernel
theorem d_X_orderBlock_23 : decode b_X_orderBlock 23 = .ok (.getfield 12, 3) := by decide +kernel
theorem d_X_orderBlock_26 : decode b_X_orderBlock 26 = .ok (.aload_n 3, 1) := by decide +kernel
theorem d_X_orderBlock_27 : decode b_X_orderBlock 27 = .ok (.iload_n 2, 1) := by decide +kernel
theorem d_X_orderBlock_28 : decode b_X_orderBlock 28 = .ok (.invokevirtual 268, 3) := by decide +kernel
theorem d_X_orderBlock_31 : decode b_X_orderBlock 31 = .ok (.iconst 1, 1) := by decide +kernel
theorem d_X_orderBlock_32 : decode b_X_orderBlock 32 = .ok (.ireturn, 1) := by decide +kernel
theorem d_X_orderReplacement_0 : decode b_X_orderReplacement 0 = .ok (.aload_n 0, 1) := by decide +kernel
theorem d_X_orderReplacement_1 : decode b_X_orderReplacement 1 = .ok (.getfield 12, 3) := by decide +kernel
theorem d_X_orderReplacement_4 : decode b_X_orderReplacement 4 = .ok (.iload_n 1, 1) := by decide +kernel
theorem d_X_orderReplacement_5 : decode b_X_orderReplacement 5 = .ok (.invokevirtual 454, 3) := by decide +kernel
theorem d_X_orderReplacement_8 : decode b_X_orderReplacement 8 = .ok (.astore_n 2, 1) := by decide +kernel
theorem d_X_orderReplacement_9 : decode b_X_orderReplacement 9 = .ok (.aload_n 2, 1) := by decide +kernel
theorem d_X_orderReplacement_10 : decode b_X_orderReplacement 10 = .ok (.ifnull 21, 3) := by decide +kernel
theorem d_X_orderReplacement_13 : decode b_X_orderReplacement 13 = .ok (.aload_n 2, 1) := by decide +kernel
theorem d_X_orderReplacement_14 : decode b_X_orderReplacement 14 = .ok (.invokevirtual 260, 3) := by decide +kernel
theorem d_X_orderReplacement_17 : decode b_X_orderReplacement 17 = .ok (.ifCond .ne 14, 3) := by decide +kernel
theorem d_X_orderReplacement_20 : decode b_X_orderReplacement 20 = .ok (.aload_n 0, 1) := by decide +kernel
theorem d_X_orderReplacement_21 : decode b_X_orderReplacement 21 = .ok (.getfield 12, 3) := by decide +kernel
theorem d_X_orderReplacement_24 : decode b_X_orderReplacement 24 = .ok (.iconst 1, 1) := by decide +kernel
theorem d_X_orderReplacement_25 : decode b_X_orderReplacement 25 = .ok (.invokevirtual 220, 3) := by decide +kernel
theorem d_X_orderReplacement_28 : decode b_X_orderReplacement 28 = .ok (.ifCond .ne 5, 3) := by decide +kernel
theorem d_X_orderReplacement_31 : decode b_X_orderReplacement 31 = .ok (.iconst 0, 1) := by decide +kernel
theorem d_X_orderReplacement_32 : decode b_X_orderReplacement 32 = .ok (.ireturn, 1) := by decide +kernel
theorem d_X_orderReplacement_33 : decode b_X_orderReplacement 33 = .ok (.aload_n 0, 1) := by decide +kernel
theorem d_X_orderReplacement_34 : decode b_X_orderReplacement 34 = .ok (.getfield 12, 3) := by decide +kernel
theorem d_X_orderReplacement_37 : decode b_X_orderReplacement 37 = .ok (.aload_n 2, 1) := by decide +kernel
theorem d_X_orderReplacement_38 : decode b_X_orderReplacement 38 = .ok (.invokevirtual 277, 3) := by decide +kernel
theorem d_X_orderReplacement_41 : decode b_X_orderReplacement 41 = .ok (.pop, 1) := by decide +kernel
theorem d_X_orderReplacement_42 : decode b_X_orderReplacement 42 = .ok (.iconst 1, 1) := by decide +kernel
theorem d_X_orderReplacement_43 : decode b_X_orderReplacement 43 = .ok (.ireturn, 1) := by decide +kernel
theorem d_X_orderClosing_0 : decode b_X_orderClosing 0 = .ok (.aload_n 0, 1) := by decide +kernel
theorem d_X_orderClosing_1 : decode b_X_orderClosing 1 = .ok (.getfield 12, 3) := by decide +kernel
theorem d_X_orderClosing_4 : decode b_X_orderClosing 4 = .ok (.iload_n 1, 1) := by decide +kernel
theorem d_X_orderClosing_5 : decode b_X_orderClosing 5 = .ok (.invokevirtual 441, 3) := by decide +kernel
theorem d_X_orderClosing_8 : decode b_X_orderClosing 8 = .ok (.astore_n 3, 1) := by decide +kernel
theorem d_X_orderClosing_9 : decode b_X_orderClosing 9 = .ok (.aload_n 3, 1) := by decide +kernel
theorem d_X_orderClosing_10 : decode b_X_orderClosing 10 = .ok (.ifnonnull 5, 3) := by decide +kernel
theorem d_X_orderClosing_13 : decode b_X_orderClosing 13 = .ok (.iconst 0, 1) := by decide +kernel
theorem d_X_orderClosing_14 : decode b_X_orderClosing 14 = .ok (.ireturn, 1) := by decide +kernel
theorem d_X_orderClosing_15 : decode b_X_orderClosing 15 = .ok (.aload_n 0, 1) := by decide +kernel
theorem d_X_orderClosing_16 : decode b_X_orderClosing 16 = .ok (.getfield 12, 3) := by decide +kernel
theorem d_X_orderClosing_19 : decode b_X_orderClosing 19 = .ok (.aload_n 3, 1) := by decide +kernel
theorem d_X_orderClosing_20 : decode b_X_orderClosing 20 = .ok (.iload_n 2, 1) := by decide +kernel
theorem d_X_orderClosing_21 : decode b_X_orderClosing 21 = .ok (.invokevirtual 207, 3) := by decide +kernel
theorem d_X_orderClosing_24 : decode b_X_orderClosing 24 = .ok (.iconst 1, 1) := by decide +kernel
theorem d_X_orderClosing_25 : decode b_X_orderClosing 25 = .ok (.ireturn, 1) := by decide +kernel
theorem d_X_orderWait_0 : decode b_X_orderWait 0 = .ok (.iload_n 1, 1) := by decide +kernel
theorem d_X_orderWait_1 : decode b_X_orderWait 1 = .ok (.sipush 2880, 3) := by decide +kernel
theorem d_X_orderWait_4 : decode b_X_orderWait 4 = .ok (.if_icmp .gt 17, 3) := by decide +kernel
theorem d_X_orderWait_7 : decode b_X_orderWait 7 = .ok (.aload_n 0, 1) := by decide +kernel
theorem d_X_orderWait_8 : decode b_X_orderWait 8 = .ok (.getfield 12, 3) := by decide +kernel
theorem d_X_orderWait_11 : decode b_X_orderWait 11 = .ok (.getfield 180, 3) := by decide +kernel
theorem d_X_orderWait_14 : decode b_X_orderWait 14 = .ok (.iload_n 1, 1) := by decide +kernel
theorem d_X_orderWait_15 : decode b_X_orderWait 15 = .ok (.iadd, 1) := by decide +kernel
theorem d_X_orderWait_16 : decode b_X_orderWait 16 = .ok (.ldc 183, 2) := by decide +kernel
theorem d_X_orderWait_18 : decode b_X_orderWait 18 = .ok (.if_icmp .le 5, 3) := by decide +kernel
theorem d_X_orderWait_21 : decode b_X_orderWait 21 = .ok (.iconst 0, 1) := by decide +kernel
theorem d_X_orderWait_22 : decode b_X_orderWait 22 = .ok (.ireturn, 1) := by decide +kernel
theorem d_X_orderWait_23 : decode b_X_orderWait 23 = .ok (.aload_n 0, 1) := by decide +kernel
theorem d_X_orderWait_24 : decode b_X_orderWait 24 = .ok (.getfield 12, 3) := by decide +kernel
theorem d_X_orderWait_27 : decode b_X_orderWait 27 = .ok (.iload_n 1, 1) := by decide +kernel
theorem d_X_orderWait_28 : decode b_X_orderWait 28 = .ok (.invokevirtual 186, 3) := by decide +kernel
theorem d_X_orderWait_31 : decode b_X_orderWait 31 = .ok (.iconst 1, 1) := by decide +kernel
theorem d_X_orderWait_32 : decode b_X_orderWait 32 = .ok (.ireturn, 1) := by decide +kernel
theorem d_X_errorPosition_0 : decode b_X_errorPosition 0 = .ok (.aload_n 0, 1) := by decide +kernel
theorem d_X_errorPosition_1 : decode b_X_errorPosition 1 = .ok (.getfield 48, 3) := by decide +kernel
theorem d_X_errorPosition_4 : decode b_X_errorPosition 4 = .ok (.iconst (-1), 1) := by decide +kernel
theorem d_X_errorPosition_5 : decode b_X_errorPosition 5 = .ok (.if_icmp .ne 14, 3) := by decide +kernel
theorem d_X_errorPosition_8 : decode b_X_errorPosition 8 = .ok (.new 255, 3) := by decide +kernel
theorem d_X_errorPosition_11 : decode b_X_errorPosition 11 = .ok (.dup, 1) := by decide +kernel
theorem d_X_errorPosition_12 : decode b_X_errorPosition 12 = .ok (.ldc_w 427, 3) := by decide +kernel
theorem d_X_errorPosition_15 : decode b_X_errorPosition 15 = .ok (.invokespecial 259, 3) := by decide +kernel
theorem d_X_errorPosition_18 : decode b_X_errorPosition 18 = .ok (.athrow, 1) := by decide +kernel
theorem d_X_errorPosition_19 : decode b_X_errorPosition 19 = .ok (.aload_n 0, 1) := by decide +kernel
theorem d_X_errorPosition_20 : decode b_X_errorPosition 20 = .ok (.getfield 48, 3) := by decide +kernel
theorem d_X_errorPosition_23 : decode b_X_errorPosition 23 = .ok (.ireturn, 1) := by decide +kernel
theorem d_X_refusedOrder_0 : decode b_X_refusedOrder 0 = .ok (.aload_n 0, 1) := by decide +kernel
theorem d_X_refusedOrder_1 : decode b_X_refusedOrder 1 = .ok (.getfield 51, 3) := by decide +kernel
theorem d_X_refusedOrder_4 : decode b_X_refusedOrder 4 = .ok (.iconst (-1), 1) := by decide +kernel
theorem d_X_refusedOrder_5 : decode b_X_refusedOrder 5 = .ok (.if_icmp .ne 14, 3) := by decide +kernel
theorem d_X_refusedOrder_8 : decode b_X_refusedOrder 8 = .ok (.new 255, 3) := by decide +kernel
theorem d_X_refusedOrder_11 : decode b_X_refusedOrder 11 = .ok (.dup, 1) := by decide +kernel
theorem d_X_refusedOrder_12 : decode b_X_refusedOrder 12 = .ok (.ldc_w 429, 3) := by decide +kernel
theorem d_X_refusedOrder_15 : decode b_X_refusedOrder 15 = .ok (.invokespecial 259, 3) := by decide +kernel
theorem d_X_refusedOrder_18 : decode b_X_refusedOrder 18 = .ok (.athrow, 1) := by decide +kernel
theorem d_X_refusedOrder_19 : decode b_X_refusedOrder 19 = .ok (.aload_n 0, 1) := by decide +kernel
theorem d_X_refusedOrder_20 : decode b_X_refusedOrder 20 = .ok (.getfield 51, 3) := by decide +kernel
theorem d_X_refusedOrder_23 : decode b_X_refusedOrder 23 = .ok (.ireturn, 1) := by decide +kernel
theorem d_X_undo_0 : decode b_X_undo 0 = .ok (.aload_n 0, 1) := by decide +kernel
theorem d_X_undo_1 : decode b_X_undo 1 = .ok (.getfield 22, 3) := by decide +kernel
theorem d_X_undo_4 : decode b_X_undo 4 = .ok (.getfield 202, 3) := by decide +kernel
theorem d_X_undo_7 : decode b_X_undo 7 = .ok (.ifCond .gt 14, 3) := by decide +kernel
theorem d_X_undo_10 : decode b_X_undo 10 = .ok (.new 81, 3) := by decide +kernel
theorem d_X_undo_13 : decode b_X_undo 13 = .ok (.dup, 1) := by decide +kernel
theorem d_X_undo_14 : decode b_X_undo 14 = .ok (.ldc_w 431, 3) := by decide +kernel
theorem d_X_undo_17 : decode b_X_undo 17 = .ok (.invokespecial 85, 3) := by decide +kernel
theorem d_X_undo_20 : decode b_X_undo 20 = .ok (.athrow, 1) := by decide +kernel
theorem d_X_undo_21 : decode b_X_undo 21 = .ok (.aload_n 0, 1) := by decide +kernel
theorem d_X_undo_22 : decode b_X_undo 22 = .ok (.getfield 22, 3) := by decide +kernel
theorem d_X_undo_25 : decode b_X_undo 25 = .ok (.aload_n 0, 1) := by decide +kernel
theorem d_X_undo_26 : decode b_X_undo 26 = .ok (.getfield 12, 3) := by decide +kernel
theorem d_X_undo_29 : decode b_X_undo 29 = .ok (.invokevirtual 433, 3) := by decide +kernel
theorem d_X_undo_32 : decode b_X_undo 32 = .ok (.aload_n 0, 1) := by decide +kernel
theorem d_X_undo_33 : decode b_X_undo 33 = .ok (.getfield 22, 3) := by decide +kernel
theorem d_X_undo_36 : decode b_X_undo 36 = .ok (.getfield 202, 3) := by decide +kernel
theorem d_X_undo_39 : decode b_X_undo 39 = .ok (.ireturn, 1) := by decide +kernel
theorem d_X_restore_0 : decode b_X_restore 0 = .ok (.aload_n 0, 1) := by decide +kernel
theorem d_X_restore_1 : decode b_X_restore 1 = .ok (.getfield 40, 3) := by decide +kernel
theorem d_X_restore_4 : decode b_X_restore 4 = .ok (.ifCond .ne 14, 3) := by decide +kernel
theorem d_X_restore_7 : decode b_X_restore 7 = .ok (.new 81, 3) := by decide +kernel
theorem d_X_restore_10 : decode b_X_restore 10 = .ok (.dup, 1) := by decide +kernel
theorem d_X_restore_11 : decode b_X_restore 11 = .ok (.ldc_w 439, 3) := by decide +kernel
theorem d_X_restore_14 : decode b_X_restore 14 = .ok (.invokespecial 85, 3) := by decide +kernel
theorem d_X_restore_17 : decode b_X_restore 17 = .ok (.athrow, 1) := by decide +kernel
theorem d_X_restore_18 : decode b_X_restore 18 = .ok (.aload_n 0, 1) := by decide +kernel
theorem d_X_restore_19 : decode b_X_restore 19 = .ok (.getfield 12, 3) := by decide +kernel
theorem d_X_restore_22 : decode b_X_restore 22 = .ok (.aload_n 0, 1) := by decide +kernel
theorem d_X_restore_23 : decode b_X_restore 23 = .ok (.getfield 16, 3) := by decide +kernel
theorem d_X_restore_26 : decode b_X_restore 26 = .ok (.invokevirtual 436, 3) := by decide +kernel
theorem d_X_restore_29 : decode b_X_restore 29 = .ok (.aload_n 0, 1) := by decide +kernel
theorem d_X_restore_30 : decode b_X_restore 30 = .ok (.getfield 22, 3) := by decide +kernel
theorem d_X_restore_33 : decode b_X_restore 33 = .ok (.invokevirtual 60, 3) := by decide +kernel
theorem d_X_restore_36 : decode b_X_restore 36 = .ok (.aload_n 0, 1) := by decide +kernel
theorem d_X_restore_37 : decode b_X_restore 37 = .ok (.getfield 12, 3) := by decide +kernel
theorem d_X_restore_40 : decode b_X_restore 40 = .ok (.getfield 54, 3) := by decide +kernel
theorem d_X_restore_43 : decode b_X_restore 43 = .ok (.ireturn, 1) := by decide +kernel
theorem d_R_init_0 : decode b_R_init 0 = .ok (.aload_n 0, 1) := by decide +kernel
theorem d_R_init_1 : decode b_R_init 1 = .ok (.invokespecial 3, 3) := by decide +kernel
theorem d_R_init_4 : decode b_R_init 4 = .ok (.aload_n 0, 1) := by decide +kernel
theorem d_R_init_5 : decode b_R_init 5 = .ok (.bipush 12, 2) := by decide +kernel
theorem d_R_init_7 : decode b_R_init 7 = .ok (.anewarray 9, 3) := by decide +kernel
theorem d_R_init_10 : decode b_R_init 10 = .ok (.putfield 11, 3) := by decide +kernel
theorem d_R_init_13 : decode b_R_init 13 = .ok (.aload_n 0, 1) := by decide +kernel
theorem d_R_init_14 : decode b_R_init 14 = .ok (.bipush 8, 2) := by decide +kernel
theorem d_R_init_16 : decode b_R_init 16 = .ok (.anewarray 17, 3) := by decide +kernel
theorem d_R_init_19 : decode b_R_init 19 = .ok (.putfield 19, 3) := by decide +kernel
theorem d_R_init_22 : decode b_R_init 22 = .ok (.aload_n 0, 1) := by decide +kernel
theorem d_R_init_23 : decode b_R_init 23 = .ok (.bipush 20, 2) := by decide +kernel
theorem d_R_init_25 : decode b_R_init 25 = .ok (.anewarray 23, 3) := by decide +kernel
theorem d_R_init_28 : decode b_R_init 28 = .ok (.putfield 25, 3) := by decide +kernel
theorem d_R_init_31 : decode b_R_init 31 = .ok (.aload_n 0, 1) := by decide +kernel
theorem d_R_init_32 : decode b_R_init 32 = .ok (.sipush 372, 3) := by decide +kernel
theorem d_R_init_35 : decode b_R_init 35 = .ok (.newarray .int, 2) := by decide +kernel
theorem d_R_init_37 : decode b_R_init 37 = .ok (.putfield 29, 3) := by decide +kernel
theorem d_R_init_40 : decode b_R_init 40 = .ok (.aload_n 0, 1) := by decide +kernel
theorem d_R_init_41 : decode b_R_init 41 = .ok (.iconst 0, 1) := by decide +kernel
theorem d_R_init_42 : decode b_R_init 42 = .ok (.putfield 33, 3) := by decide +kernel
theorem d_R_init_45 : decode b_R_init 45 = .ok (.aload_n 0, 1) := by decide +kernel
theorem d_R_init_46 : decode b_R_init 46 = .ok (.iconst 0, 1) := by decide +kernel
theorem d_R_init_47 : decode b_R_init 47 = .ok (.putfield 37, 3) := by decide +kernel
theorem d_R_init_50 : decode b_R_init 50 = .ok (.aload_n 0, 1) := by decide +kernel
theorem d_R_init_51 : decode b_R_init 51 = .ok (.iconst 0, 1) := by decide +kernel
theorem d_R_init_52 : decode b_R_init 52 = .ok (.putfield 40, 3) := by decide +kernel
theorem d_R_init_55 : decode b_R_init 55 = .ok (.aload_n 0, 1) := by decide +kernel
theorem d_R_init_56 : decode b_R_init 56 = .ok (.iconst 0, 1) := by decide +kernel
theorem d_R_init_57 : decode b_R_init 57 = .ok (.putfield 43, 3) := by decide +kernel
theorem d_R_init_60 : decode b_R_init 60 = .ok (.aload_n 0, 1) := by decide +kernel
theorem d_R_init_61 : decode b_R_init 61 = .ok (.sipush 480, 3) := by decide +kernel
theorem d_R_init_64 : decode b_R_init 64 = .ok (.putfield 46, 3) := by decide +kernel
theorem d_R_init_67 : decode b_R_init 67 = .ok (.return_, 1) := by decide +kernel
theorem d_R_empty_0 : decode b_R_empty 0 = .ok (.iconst 0, 1) := by decide +kernel
theorem d_R_empty_1 : decode b_R_empty 1 = .ok (.istore_n 1, 1) := by decide +kernel
theorem d_R_empty_2 : decode b_R_empty 2 = .ok (.iload_n 1, 1) := by decide +kernel
theorem d_R_empty_3 : decode b_R_empty 3 = .ok (.aload_n 0, 1) := by decide +kernel
theorem d_R_empty_4 : decode b_R_empty 4 = .ok (.getfield 11, 3) := by decide +kernel
theorem d_R_empty_7 : decode b_R_empty 7 = .ok (.arraylength, 1) := by decide +kernel
theorem d_R_empty_8 : decode b_R_empty 8 = .ok (.if_icmp .ge 16, 3) := by decide +kernel
theorem d_R_empty_11 : decode b_R_empty 11 = .ok (.aload_n 0, 1) := by decide +kernel
theorem d_R_empty_12 : decode b_R_empty 12 = .ok (.getfield 11, 3) := by decide +kernel
theorem d_R_empty_15 : decode b_R_empty 15 = .ok (.iload_n 1, 1) := by decide +kernel
theorem d_R_empty_16 : decode b_R_empty 16 = .ok (.aconst_null, 1) := by decide +kernel
theorem d_R_empty_17 : decode b_R_empty 17 = .ok (.aastore, 1) := by decide +kernel
theorem d_R_empty_18 : decode b_R_empty 18 = .ok (.iinc 1 1, 3) := by decide +kernel
theorem d_R_empty_21 : decode b_R_empty 21 = .ok (.goto (-19), 3) := by decide +kernel
theorem d_R_empty_24 : decode b_R_empty 24 = .ok (.iconst 0, 1) := by decide +kernel
theorem d_R_empty_25 : decode b_R_empty 25 = .ok (.istore_n 1, 1) := by decide +kernel
theorem d_R_empty_26 : decode b_R_empty 26 = .ok (.iload_n 1, 1) := by decide +kernel
theorem d_R_empty_27 : decode b_R_empty 27 = .ok (.aload_n 0, 1) := by decide +kernel
theorem d_R_empty_28 : decode b_R_empty 28 = .ok (.getfield 19, 3) := by decide +kernel
theorem d_R_empty_31 : decode b_R_empty 31 = .ok (.arraylength, 1) := by decide +kernel
theorem d_R_empty_32 : decode b_R_empty 32 = .ok (.if_icmp .ge 16, 3) := by decide +kernel
theorem d_R_empty_35 : decode b_R_empty 35 = .ok (.aload_n 0, 1) := by decide +kernel
theorem d_R_empty_36 : decode b_R_empty 36 = .ok (.getfield 19, 3) := by decide +kernel
theorem d_R_empty_39 : decode b_R_empty 39 = .ok (.iload_n 1, 1) := by decide +kernel
theorem d_R_empty_40 : decode b_R_empty 40 = .ok (.aconst_null, 1) := by decide +kernel
theorem d_R_empty_41 : decode b_R_empty 41 = .ok (.aastore, 1) := by decide +kernel
theorem d_R_empty_42 : decode b_R_empty 42 = .ok (.iinc 1 1, 3) := by decide +kernel
theorem d_R_empty_45 : decode b_R_empty 45 = .ok (.goto (-19), 3) := by decide +kernel
theorem d_R_empty_48 : decode b_R_empty 48 = .ok (.iconst 0, 1) := by decide +kernel
theorem d_R_empty_49 : decode b_R_empty 49 = .ok (.istore_n 1, 1) := by decide +kernel
theorem d_R_empty_50 : decode b_R_empty 50 = .ok (.iload_n 1, 1) := by decide +kernel
theorem d_R_empty_51 : decode b_R_empty 51 = .ok (.aload_n 0, 1) := by decide +kernel
theorem d_R_empty_52 : decode b_R_empty 52 = .ok (.getfield 25, 3) := by decide +kernel
theorem d_R_empty_55 : decode b_R_empty 55 = .ok (.arraylength, 1) := by decide +kernel
theorem d_R_empty_56 : decode b_R_empty 56 = .ok (.if_icmp .ge 16, 3) := by decide +kernel
theorem d_R_empty_59 : decode b_R_empty 59 = .ok (.aload_n 0, 1) := by decide +kernel
theorem d_R_empty_60 : decode b_R_empty 60 = .ok (.getfield 25, 3) := by decide +kernel
theorem d_R_empty_63 : decode b_R_empty 63 = .ok (.iload_n 1, 1) := by decide +kernel
theorem d_R_empty_64 : decode b_R_empty 64 = .ok (.aconst_null, 1) := by decide +kernel
theorem d_R_empty_65 : decode b_R_empty 65 = .ok (.aastore, 1) := by decide +kernel
theorem d_R_empty_66 : decode b_R_empty 66 = .ok (.iinc 1 1, 3) := by decide +kernel
theorem d_R_empty_69 : decode b_R_empty 69 = .ok (.goto (-19), 3) := by decide +kernel
theorem d_R_empty_72 : decode b_R_empty 72 = .ok (.aload_n 0, 1) := by decide +kernel
theorem d_R_empty_73 : decode b_R_empty 73 = .ok (.getfield 29, 3) := by decide +kernel
theorem d_R_empty_76 : decode b_R_empty 76 = .ok (.iconst 0, 1) := by decide +kernel
theorem d_R_empty_77 : decode b_R_empty 77 = .ok (.invokestatic 49, 3) := by decide +kernel
theorem d_R_empty_80 : decode b_R_empty 80 = .ok (.aload_n 0, 1) := by decide +kernel
theorem d_R_empty_81 : decode b_R_empty 81 = .ok (.iconst 0, 1) := by decide +kernel
theorem d_R_empty_82 : decode b_R_empty 82 = .ok (.putfield 33, 3) := by decide +kernel
theorem d_R_empty_85 : decode b_R_empty 85 = .ok (.aload_n 0, 1) := by decide +kernel
theorem d_R_empty_86 : decode b_R_empty 86 = .ok (.iconst 0, 1) := by decide +kernel
theorem d_R_empty_87 : decode b_R_empty 87 = .ok (.putfield 37, 3) := by decide +kernel
theorem d_R_empty_90 : decode b_R_empty 90 = .ok (.aload_n 0, 1) := by decide +kernel
theorem d_R_empty_91 : decode b_R_empty 91 = .ok (.iconst 0, 1) := by decide +kernel
theorem d_R_empty_92 : decode b_R_empty 92 = .ok (.putfield 40, 3) := by decide +kernel
theorem d_R_empty_95 : decode b_R_empty 95 = .ok (.aload_n 0, 1) := by decide +kernel
theorem d_R_empty_96 : decode b_R_empty 96 = .ok (.iconst 0, 1) := by decide +kernel
theorem d_R_empty_97 : decode b_R_empty 97 = .ok (.putfield 43, 3) := by decide +kernel
theorem d_R_empty_100 : decode b_R_empty 100 = .ok (.aload_n 0, 1) := by decide +kernel
theorem d_R_empty_101 : decode b_R_empty 101 = .ok (.sipush 480, 3) := by decide +kernel
theorem d_R_empty_104 : decode b_R_empty 104 = .ok (.putfield 46, 3) := by decide +kernel
theorem d_R_empty_107 : decode b_R_empty 107 = .ok (.return_, 1) := by decide +kernel
theorem d_R_allPrices_0 : decode b_R_allPrices 0 = .ok (.iconst 0, 1) := by decide +kernel
theorem d_R_allPrices_1 : decode b_R_allPrices 1 = .ok (.istore_n 1, 1) := by decide +kernel
theorem d_R_allPrices_2 : decode b_R_allPrices 2 = .ok (.aload_n 0, 1) := by decide +kernel
theorem d_R_allPrices_3 : decode b_R_allPrices 3 = .ok (.getfield 25, 3) := by decide +kernel
theorem d_R_allPrices_6 : decode b_R_allPrices 6 = .ok (.astore_n 2, 1) := by decide +kernel
theorem d_R_allPrices_7 : decode b_R_allPrices 7 = .ok (.aload_n 2, 1) := by decide +kernel
theorem d_R_allPrices_8 : decode b_R_allPrices 8 = .ok (.arraylength, 1) := by decide +kernel
theorem d_R_allPrices_9 : decode b_R_allPrices 9 = .ok (.istore_n 3, 1) := by decide +kernel
theorem d_R_allPrices_10 : decode b_R_allPrices 10 = .ok (.iconst 0, 1) := by decide +kernel
theorem d_R_allPrices_11 : decode b_R_allPrices 11 = .ok (.istore 4, 2) := by decide +kernel
theorem d_R_allPrices_13 : decode b_R_allPrices 13 = .ok (.iload 4, 2) := by decide +kernel
theorem d_R_allPrices_15 : decode b_R_allPrices 15 = .ok (.iload_n 3, 1) := by decide +kernel
theorem d_R_allPrices_16 : decode b_R_allPrices 16 = .ok (.if_icmp .ge 32, 3) := by decide +kernel
theorem d_R_allPrices_19 : decode b_R_allPrices 19 = .ok (.aload_n 2, 1) := by decide +kernel
theorem d_R_allPrices_20 : decode b_R_allPrices 20 = .ok (.iload 4, 2) := by decide +kernel
theorem d_R_allPrices_22 : decode b_R_allPrices 22 = .ok (.aaload, 1) := by decide +kernel
theorem d_R_allPrices_23 : decode b_R_allPrices 23 = .ok (.astore 5, 2) := by decide +kernel
theorem d_R_allPrices_25 : decode b_R_allPrices 25 = .ok (.iload_n 1, 1) := by decide +kernel
theorem d_R_allPrices_26 : decode b_R_allPrices 26 = .ok (.aload 5, 2) := by decide +kernel
theorem d_R_allPrices_28 : decode b_R_allPrices 28 = .ok (.ifnonnull 7, 3) := by decide +kernel
theorem d_R_allPrices_31 : decode b_R_allPrices 31 = .ok (.iconst 0, 1) := by decide +kernel
theorem d_R_allPrices_32 : decode b_R_allPrices 32 = .ok (.goto 8, 3) := by decide +kernel
theorem d_R_allPrices_35 : decode b_R_allPrices 35 = .ok (.aload 5, 2) := by decide +kernel
theorem d_R_allPrices_37 : decode b_R_allPrices 37 = .ok (.invokevirtual 216, 3) := by decide +kernel
theorem d_R_allPrices_40 : decode b_R_allPrices 40 = .ok (.iadd, 1) := by decide +kernel
theorem d_R_allPrices_41 : decode b_R_allPrices 41 = .ok (.istore_n 1, 1) := by decide +kernel
theorem d_R_allPrices_42 : decode b_R_allPrices 42 = .ok (.iinc 4 1, 3) := by decide +kernel
theorem d_R_allPrices_45 : decode b_R_allPrices 45 = .ok (.goto (-32), 3) := by decide +kernel
theorem d_R_allPrices_48 : decode b_R_allPrices 48 = .ok (.iload_n 1, 1) := by decide +kernel
theorem d_R_allPrices_49 : decode b_R_allPrices 49 = .ok (.ireturn, 1) := by decide +kernel
theorem d_R_allRefunds_0 : decode b_R_allRefunds 0 = .ok (.iconst 0, 1) := by decide +kernel
theorem d_R_allRefunds_1 : decode b_R_allRefunds 1 = .ok (.istore_n 1, 1) := by decide +kernel
theorem d_R_allRefunds_2 : decode b_R_allRefunds 2 = .ok (.aload_n 0, 1) := by decide +kernel
theorem d_R_allRefunds_3 : decode b_R_allRefunds 3 = .ok (.getfield 25, 3) := by decide +kernel
theorem d_R_allRefunds_6 : decode b_R_allRefunds 6 = .ok (.astore_n 2, 1) := by decide +kernel
theorem d_R_allRefunds_7 : decode b_R_allRefunds 7 = .ok (.aload_n 2, 1) := by decide +kernel
theorem d_R_allRefunds_8 : decode b_R_allRefunds 8 = .ok (.arraylength, 1) := by decide +kernel
theorem d_R_allRefunds_9 : decode b_R_allRefunds 9 = .ok (.istore_n 3, 1) := by decide +kernel
theorem d_R_allRefunds_10 : decode b_R_allRefunds 10 = .ok (.iconst 0, 1) := by decide +kernel
theorem d_R_allRefunds_11 : decode b_R_allRefunds 11 = .ok (.istore 4, 2) := by decide +kernel
theorem d_R_allRefunds_13 : decode b_R_allRefunds 13 = .ok (.iload 4, 2) := by decide +kernel
theorem d_R_allRefunds_15 : decode b_R_allRefunds 15 = .ok (.iload_n 3, 1) := by decide +kernel
theorem d_R_allRefunds_16 : decode b_R_allRefunds 16 = .ok (.if_icmp .ge 32, 3) := by decide +kernel
theorem d_R_allRefunds_19 : decode b_R_allRefunds 19 = .ok (.aload_n 2, 1) := by decide +kernel
theorem d_R_allRefunds_20 : decode b_R_allRefunds 20 = .ok (.iload 4, 2) := by decide +kernel
theorem d_R_allRefunds_22 : decode b_R_allRefunds 22 = .ok (.aaload, 1) := by decide +kernel
theorem d_R_allRefunds_23 : decode b_R_allRefunds 23 = .ok (.astore 5, 2) := by decide +kernel
theorem d_R_allRefunds_25 : decode b_R_allRefunds 25 = .ok (.iload_n 1, 1) := by decide +kernel
theorem d_R_allRefunds_26 : decode b_R_allRefunds 26 = .ok (.aload 5, 2) := by decide +kernel
theorem d_R_allRefunds_28 : decode b_R_allRefunds 28 = .ok (.ifnonnull 7, 3) := by decide +kernel
theorem d_R_allRefunds_31 : decode b_R_allRefunds 31 = .ok (.iconst 0, 1) := by decide +kernel
theorem d_R_allRefunds_32 : decode b_R_allRefunds 32 = .ok (.goto 8, 3) := by decide +kernel
theorem d_R_allRefunds_35 : decode b_R_allRefunds 35 = .ok (.aload 5, 2) := by decide +kernel
theorem d_R_allRefunds_37 : decode b_R_allRefunds 37 = .ok (.getfield 219, 3) := by decide +kernel
theorem d_R_allRefunds_40 : decode b_R_allRefunds 40 = .ok (.iadd, 1) := by decide +kernel
theorem d_R_allRefunds_41 : decode b_R_allRefunds 41 = .ok (.istore_n 1, 1) := by decide +kernel
theorem d_R_allRefunds_42 : decode b_R_allRefunds 42 = .ok (.iinc 4 1, 3) := by decide +kernel
theorem d_R_allRefunds_45 : decode b_R_allRefunds 45 = .ok (.goto (-32), 3) := by decide +kernel
theorem d_R_allRefunds_48 : decode b_R_allRefunds 48 = .ok (.iload_n 1, 1) := by decide +kernel
theorem d_R_allRefunds_49 : decode b_R_allRefunds 49 = .ok (.ireturn, 1) := by decide +kernel
theorem d_R_allIdle_0 : decode b_R_allIdle 0 = .ok (.iconst 0, 1) := by decide +kernel
theorem d_R_allIdle_1 : decode b_R_allIdle 1 = .ok (.istore_n 1, 1) := by decide +kernel
theorem d_R_allIdle_2 : decode b_R_allIdle 2 = .ok (.aload_n 0, 1) := by decide +kernel
theorem d_R_allIdle_3 : decode b_R_allIdle 3 = .ok (.getfield 25, 3) := by decide +kernel
theorem d_R_allIdle_6 : decode b_R_allIdle 6 = .ok (.astore_n 2, 1) := by decide +kernel
theorem d_R_allIdle_7 : decode b_R_allIdle 7 = .ok (.aload_n 2, 1) := by decide +kernel
theorem d_R_allIdle_8 : decode b_R_allIdle 8 = .ok (.arraylength, 1) := by decide +kernel
theorem d_R_allIdle_9 : decode b_R_allIdle 9 = .ok (.istore_n 3, 1) := by decide +kernel
theorem d_R_allIdle_10 : decode b_R_allIdle 10 = .ok (.iconst 0, 1) := by decide +kernel
theorem d_R_allIdle_11 : decode b_R_allIdle 11 = .ok (.istore 4, 2) := by decide +kernel
theorem d_R_allIdle_13 : decode b_R_allIdle 13 = .ok (.iload 4, 2) := by decide +kernel
theorem d_R_allIdle_15 : decode b_R_allIdle 15 = .ok (.iload_n 3, 1) := by decide +kernel
theorem d_R_allIdle_16 : decode b_R_allIdle 16 = .ok (.if_icmp .ge 46, 3) := by decide +kernel
theorem d_R_allIdle_19 : decode b_R_allIdle 19 = .ok (.aload_n 2, 1) := by decide +kernel
theorem d_R_allIdle_20 : decode b_R_allIdle 20 = .ok (.iload 4, 2) := by decide +kernel
theorem d_R_allIdle_22 : decode b_R_allIdle 22 = .ok (.aaload, 1) := by decide +kernel
theorem d_R_allIdle_23 : decode b_R_allIdle 23 = .ok (.astore 5, 2) := by decide +kernel
theorem d_R_allIdle_25 : decode b_R_allIdle 25 = .ok (.iload_n 1, 1) := by decide +kernel
theorem d_R_allIdle_26 : decode b_R_allIdle 26 = .ok (.aload 5, 2) := by decide +kernel
theorem d_R_allIdle_28 : decode b_R_allIdle 28 = .ok (.ifnull 11, 3) := by decide +kernel
theorem d_R_allIdle_31 : decode b_R_allIdle 31 = .ok (.aload 5, 2) := by decide +kernel
theorem d_R_allIdle_33 : decode b_R_allIdle 33 = .ok (.invokevirtual 189, 3) := by decide +kernel
theorem d_R_allIdle_36 : decode b_R_allIdle 36 = .ok (.ifCond .le 7, 3) := by decide +kernel
theorem d_R_allIdle_39 : decode b_R_allIdle 39 = .ok (.iconst 0, 1) := by decide +kernel
theorem d_R_allIdle_40 : decode b_R_allIdle 40 = .ok (.goto 14, 3) := by decide +kernel
theorem d_R_allIdle_43 : decode b_R_allIdle 43 = .ok (.aload 5, 2) := by decide +kernel
theorem d_R_allIdle_45 : decode b_R_allIdle 45 = .ok (.invokevirtual 216, 3) := by decide +kernel
theorem d_R_allIdle_48 : decode b_R_allIdle 48 = .ok (.aload 5, 2) := by decide +kernel
theorem d_R_allIdle_50 : decode b_R_allIdle 50 = .ok (.getfield 219, 3) := by decide +kernel
theorem d_R_allIdle_53 : decode b_R_allIdle 53 = .ok (.isub, 1) := by decide +kernel
theorem d_R_allIdle_54 : decode b_R_allIdle 54 = .ok (.iadd, 1) := by decide +kernel
theorem d_R_allIdle_55 : decode b_R_allIdle 55 = .ok (.istore_n 1, 1) := by decide +kernel
theorem d_R_allIdle_56 : decode b_R_allIdle 56 = .ok (.iinc 4 1, 3) := by decide +kernel
theorem d_R_allIdle_59 : decode b_R_allIdle 59 = .ok (.goto (-46), 3) := by decide +kernel
theorem d_R_allIdle_62 : decode b_R_allIdle 62 = .ok (.iload_n 1, 1) := by decide +kernel
theorem d_R_allIdle_63 : decode b_R_allIdle 63 = .ok (.ireturn, 1) := by decide +kernel
theorem d_R_ridesThroughAllGates_0 : decode b_R_ridesThroughAllGates 0 = .ok (.iconst 0, 1) := by decide +kernel
theorem d_R_ridesThroughAllGates_1 : decode b_R_ridesThroughAllGates 1 = .ok (.istore_n 1, 1) := by decide +kernel
theorem d_R_ridesThroughAllGates_2 : decode b_R_ridesThroughAllGates 2 = .ok (.aload_n 0, 1) := by decide +kernel
theorem d_R_ridesThroughAllGates_3 : decode b_R_ridesThroughAllGates 3 = .ok (.getfield 11, 3) := by decide +kernel
theorem d_R_ridesThroughAllGates_6 : decode b_R_ridesThroughAllGates 6 = .ok (.astore_n 2, 1) := by decide +kernel
theorem d_R_ridesThroughAllGates_7 : decode b_R_ridesThroughAllGates 7 = .ok (.aload_n 2, 1) := by decide +kernel
theorem d_R_ridesThroughAllGates_8 : decode b_R_ridesThroughAllGates 8 = .ok (.arraylength, 1) := by decide +kernel
theorem d_R_ridesThroughAllGates_9 : decode b_R_ridesThroughAllGates 9 = .ok (.istore_n 3, 1) := by decide +kernel
theorem d_R_ridesThroughAllGates_10 : decode b_R_ridesThroughAllGates 10 = .ok (.iconst 0, 1) := by decide +kernel
theorem d_R_ridesThroughAllGates_11 : decode b_R_ridesThroughAllGates 11 = .ok (.istore 4, 2) := by decide +kernel
theorem d_R_ridesThroughAllGates_13 : decode b_R_ridesThroughAllGates 13 = .ok (.iload 4, 2) := by decide +kernel
theorem d_R_ridesThroughAllGates_15 : decode b_R_ridesThroughAllGates 15 = .ok (.iload_n 3, 1) := by decide +kernel
theorem d_R_ridesThroughAllGates_16 : decode b_R_ridesThroughAllGates 16 = .ok (.if_icmp .ge 33, 3) := by decide +kernel
theorem d_R_ridesThroughAllGates_19 : decode b_R_ridesThroughAllGates 19 = .ok (.aload_n 2, 1) := by decide +kernel
theorem d_R_ridesThroughAllGates_20 : decode b_R_ridesThroughAllGates 20 = .ok (.iload 4, 2) := by decide +kernel
theorem d_R_ridesThroughAllGates_22 : decode b_R_ridesThroughAllGates 22 = .ok (.aaload, 1) := by decide +kernel
theorem d_R_ridesThroughAllGates_23 : decode b_R_ridesThroughAllGates 23 = .ok (.astore 5, 2) := by decide +kernel
theorem d_R_ridesThroughAllGates_25 : decode b_R_ridesThroughAllGates 25 = .ok (.iload_n 1, 1) := by decide +kernel
theorem d_R_ridesThroughAllGates_26 : decode b_R_ridesThroughAllGates 26 = .ok (.aload 5, 2) := by decide +kernel
theorem d_R_ridesThroughAllGates_28 : decode b_R_ridesThroughAllGates 28 = .ok (.ifnonnull 7, 3) := by decide +kernel
theorem d_R_ridesThroughAllGates_31 : decode b_R_ridesThroughAllGates 31 = .ok (.iconst 0, 1) := by decide +kernel
theorem d_R_ridesThroughAllGates_32 : decode b_R_ridesThroughAllGates 32 = .ok (.goto 9, 3) := by decide +kernel
theorem d_R_ridesThroughAllGates_35 : decode b_R_ridesThroughAllGates 35 = .ok (.aload_n 0, 1) := by decide +kernel
theorem d_R_ridesThroughAllGates_36 : decode b_R_ridesThroughAllGates 36 = .ok (.aload 5, 2) := by decide +kernel
theorem d_R_ridesThroughAllGates_38 : decode b_R_ridesThroughAllGates 38 = .ok (.invokevirtual 195, 3) := by decide +kernel
theorem d_R_ridesThroughAllGates_41 : decode b_R_ridesThroughAllGates 41 = .ok (.iadd, 1) := by decide +kernel
theorem d_R_ridesThroughAllGates_42 : decode b_R_ridesThroughAllGates 42 = .ok (.istore_n 1, 1) := by decide +kernel
theorem d_R_ridesThroughAllGates_43 : decode b_R_ridesThroughAllGates 43 = .ok (.iinc 4 1, 3) := by decide +kernel
theorem d_R_ridesThroughAllGates_46 : decode b_R_ridesThroughAllGates 46 = .ok (.goto (-33), 3) := by decide +kernel
theorem d_R_ridesThroughAllGates_49 : decode b_R_ridesThroughAllGates 49 = .ok (.iload_n 1, 1) := by decide +kernel
theorem d_R_ridesThroughAllGates_50 : decode b_R_ridesThroughAllGates 50 = .ok (.ireturn, 1) := by decide +kernel
theorem d_R_ridesThrough_0 : decode b_R_ridesThrough 0 = .ok (.iconst 0, 1) := by decide +kernel
theorem d_R_ridesThrough_1 : decode b_R_ridesThrough 1 = .ok (.istore_n 2, 1) := by decide +kernel
theorem d_R_ridesThrough_2 : decode b_R_ridesThrough 2 = .ok (.aload_n 0, 1) := by decide +kernel
theorem d_R_ridesThrough_3 : decode b_R_ridesThrough 3 = .ok (.getfield 25, 3) := by decide +kernel
theorem d_R_ridesThrough_6 : decode b_R_ridesThrough 6 = .ok (.astore_n 3, 1) := by decide +kernel
theorem d_R_ridesThrough_7 : decode b_R_ridesThrough 7 = .ok (.aload_n 3, 1) := by decide +kernel
theorem d_R_ridesThrough_8 : decode b_R_ridesThrough 8 = .ok (.arraylength, 1) := by decide +kernel
theorem d_R_ridesThrough_9 : decode b_R_ridesThrough 9 = .ok (.istore 4, 2) := by decide +kernel
theorem d_R_ridesThrough_11 : decode b_R_ridesThrough 11 = .ok (.iconst 0, 1) := by decide +kernel
theorem d_R_ridesThrough_12 : decode b_R_ridesThrough 12 = .ok (.istore 5, 2) := by decide +kernel
theorem d_R_ridesThrough_14 : decode b_R_ridesThrough 14 = .ok (.iload 5, 2) := by decide +kernel
theorem d_R_ridesThrough_16 : decode b_R_ridesThrough 16 = .ok (.iload 4, 2) := by decide +kernel
theorem d_R_ridesThrough_18 : decode b_R_ridesThrough 18 = .ok (.if_icmp .ge 33, 3) := by decide +kernel
theorem d_R_ridesThrough_21 : decode b_R_ridesThrough 21 = .ok (.aload_n 3, 1) := by decide +kernel
theorem d_R_ridesThrough_22 : decode b_R_ridesThrough 22 = .ok (.iload 5, 2) := by decide +kernel
theorem d_R_ridesThrough_24 : decode b_R_ridesThrough 24 = .ok (.aaload, 1) := by decide +kernel
theorem d_R_ridesThrough_25 : decode b_R_ridesThrough 25 = .ok (.astore 6, 2) := by decide +kernel
theorem d_R_ridesThrough_27 : decode b_R_ridesThrough 27 = .ok (.iload_n 2, 1) := by decide +kernel
theorem d_R_ridesThrough_28 : decode b_R_ridesThrough 28 = .ok (.aload 6, 2) := by decide +kernel
theorem d_R_ridesThrough_30 : decode b_R_ridesThrough 30 = .ok (.ifnonnull 7, 3) := by decide +kernel
theorem d_R_ridesThrough_33 : decode b_R_ridesThrough 33 = .ok (.iconst 0, 1) := by decide +kernel
theorem d_R_ridesThrough_34 : decode b_R_ridesThrough 34 = .ok (.goto 9, 3) := by decide +kernel
theorem d_R_ridesThrough_37 : decode b_R_ridesThrough 37 = .ok (.aload 6, 2) := by decide +kernel
theorem d_R_ridesThrough_39 : decode b_R_ridesThrough 39 = .ok (.aload_n 1, 1) := by decide +kernel
theorem d_R_ridesThrough_40 : decode b_R_ridesThrough 40 = .ok (.invokevirtual 192, 3) := by decide +kernel
theorem d_R_ridesThrough_43 : decode b_R_ridesThrough 43 = .ok (.iadd, 1) := by decide +kernel
theorem d_R_ridesThrough_44 : decode b_R_ridesThrough 44 = .ok (.istore_n 2, 1) := by decide +kernel
theorem d_R_ridesThrough_45 : decode b_R_ridesThrough 45 = .ok (.iinc 5 1, 3) := by decide +kernel
theorem d_R_ridesThrough_48 : decode b_R_ridesThrough 48 = .ok (.goto (-34), 3) := by decide +kernel
theorem d_R_ridesThrough_51 : decode b_R_ridesThrough 51 = .ok (.iload_n 2, 1) := by decide +kernel
theorem d_R_ridesThrough_52 : decode b_R_ridesThrough 52 = .ok (.ireturn, 1) := by decide +kernel
theorem d_R_ridesOnAllCards_0 : decode b_R_ridesOnAllCards 0 = .ok (.iconst 0, 1) := by decide +kernel
theorem d_R_ridesOnAllCards_1 : decode b_R_ridesOnAllCards 1 = .ok (.istore_n 1, 1) := by decide +kernel
theorem d_R_ridesOnAllCards_2 : decode b_R_ridesOnAllCards 2 = .ok (.aload_n 0, 1) := by decide +kernel
theorem d_R_ridesOnAllCards_3 : decode b_R_ridesOnAllCards 3 = .ok (.getfield 25, 3) := by decide +kernel
theorem d_R_ridesOnAllCards_6 : decode b_R_ridesOnAllCards 6 = .ok (.astore_n 2, 1) := by decide +kernel
theorem d_R_ridesOnAllCards_7 : decode b_R_ridesOnAllCards 7 = .ok (.aload_n 2, 1) := by decide +kernel
theorem d_R_ridesOnAllCards_8 : decode b_R_ridesOnAllCards 8 = .ok (.arraylength, 1) := by decide +kernel
theorem d_R_ridesOnAllCards_9 : decode b_R_ridesOnAllCards 9 = .ok (.istore_n 3, 1) := by decide +kernel
theorem d_R_ridesOnAllCards_10 : decode b_R_ridesOnAllCards 10 = .ok (.iconst 0, 1) := by decide +kernel
theorem d_R_ridesOnAllCards_11 : decode b_R_ridesOnAllCards 11 = .ok (.istore 4, 2) := by decide +kernel
theorem d_R_ridesOnAllCards_13 : decode b_R_ridesOnAllCards 13 = .ok (.iload 4, 2) := by decide +kernel
theorem d_R_ridesOnAllCards_15 : decode b_R_ridesOnAllCards 15 = .ok (.iload_n 3, 1) := by decide +kernel
theorem d_R_ridesOnAllCards_16 : decode b_R_ridesOnAllCards 16 = .ok (.if_icmp .ge 32, 3) := by decide +kernel
theorem d_R_ridesOnAllCards_19 : decode b_R_ridesOnAllCards 19 = .ok (.aload_n 2, 1) := by decide +kernel
theorem d_R_ridesOnAllCards_20 : decode b_R_ridesOnAllCards 20 = .ok (.iload 4, 2) := by decide +kernel
theorem d_R_ridesOnAllCards_22 : decode b_R_ridesOnAllCards 22 = .ok (.aaload, 1) := by decide +kernel
theorem d_R_ridesOnAllCards_23 : decode b_R_ridesOnAllCards 23 = .ok (.astore 5, 2) := by decide +kernel
theorem d_R_ridesOnAllCards_25 : decode b_R_ridesOnAllCards 25 = .ok (.iload_n 1, 1) := by decide +kernel
theorem d_R_ridesOnAllCards_26 : decode b_R_ridesOnAllCards 26 = .ok (.aload 5, 2) := by decide +kernel
theorem d_R_ridesOnAllCards_28 : decode b_R_ridesOnAllCards 28 = .ok (.ifnonnull 7, 3) := by decide +kernel
theorem d_R_ridesOnAllCards_31 : decode b_R_ridesOnAllCards 31 = .ok (.iconst 0, 1) := by decide +kernel
theorem d_R_ridesOnAllCards_32 : decode b_R_ridesOnAllCards 32 = .ok (.goto 8, 3) := by decide +kernel
theorem d_R_ridesOnAllCards_35 : decode b_R_ridesOnAllCards 35 = .ok (.aload 5, 2) := by decide +kernel
theorem d_R_ridesOnAllCards_37 : decode b_R_ridesOnAllCards 37 = .ok (.invokevirtual 189, 3) := by decide +kernel
theorem d_R_ridesOnAllCards_40 : decode b_R_ridesOnAllCards 40 = .ok (.iadd, 1) := by decide +kernel
theorem d_R_ridesOnAllCards_41 : decode b_R_ridesOnAllCards 41 = .ok (.istore_n 1, 1) := by decide +kernel
theorem d_R_ridesOnAllCards_42 : decode b_R_ridesOnAllCards 42 = .ok (.iinc 4 1, 3) := by decide +kernel
theorem d_R_ridesOnAllCards_45 : decode b_R_ridesOnAllCards 45 = .ok (.goto (-32), 3) := by decide +kernel
theorem d_R_ridesOnAllCards_48 : decode b_R_ridesOnAllCards 48 = .ok (.iload_n 1, 1) := by decide +kernel
theorem d_R_ridesOnAllCards_49 : decode b_R_ridesOnAllCards 49 = .ok (.ireturn, 1) := by decide +kernel
theorem d_R_keepsAllWays_0 : decode b_R_keepsAllWays 0 = .ok (.aload_n 0, 1) := by decide +kernel
theorem d_R_keepsAllWays_1 : decode b_R_keepsAllWays 1 = .ok (.getfield 25, 3) := by decide +kernel
theorem d_R_keepsAllWays_4 : decode b_R_keepsAllWays 4 = .ok (.astore_n 1, 1) := by decide +kernel
theorem d_R_keepsAllWays_5 : decode b_R_keepsAllWays 5 = .ok (.aload_n 1, 1) := by decide +kernel
theorem d_R_keepsAllWays_6 : decode b_R_keepsAllWays 6 = .ok (.arraylength, 1) := by decide +kernel
theorem d_R_keepsAllWays_7 : decode b_R_keepsAllWays 7 = .ok (.istore_n 2, 1) := by decide +kernel
theorem d_R_keepsAllWays_8 : decode b_R_keepsAllWays 8 = .ok (.iconst 0, 1) := by decide +kernel
theorem d_R_keepsAllWays_9 : decode b_R_keepsAllWays 9 = .ok (.istore_n 3, 1) := by decide +kernel
theorem d_R_keepsAllWays_10 : decode b_R_keepsAllWays 10 = .ok (.iload_n 3, 1) := by decide +kernel
theorem d_R_keepsAllWays_11 : decode b_R_keepsAllWays 11 = .ok (.iload_n 2, 1) := by decide +kernel
theorem d_R_keepsAllWays_12 : decode b_R_keepsAllWays 12 = .ok (.if_icmp .ge 29, 3) := by decide +kernel
theorem d_R_keepsAllWays_15 : decode b_R_keepsAllWays 15 = .ok (.aload_n 1, 1) := by decide +kernel
theorem d_R_keepsAllWays_16 : decode b_R_keepsAllWays 16 = .ok (.iload_n 3, 1) := by decide +kernel
theorem d_R_keepsAllWays_17 : decode b_R_keepsAllWays 17 = .ok (.aaload, 1) := by decide +kernel
theorem d_R_keepsAllWays_18 : decode b_R_keepsAllWays 18 = .ok (.astore 4, 2) := by decide +kernel
theorem d_R_keepsAllWays_20 : decode b_R_keepsAllWays 20 = .ok (.aload 4, 2) := by decide +kernel
theorem d_R_keepsAllWays_22 : decode b_R_keepsAllWays 22 = .ok (.ifnull 13, 3) := by decide +kernel
theorem d_R_keepsAllWays_25 : decode b_R_keepsAllWays 25 = .ok (.aload 4, 2) := by decide +kernel
theorem d_R_keepsAllWays_27 : decode b_R_keepsAllWays 27 = .ok (.invokevirtual 196, 3) := by decide +kernel
theorem d_R_keepsAllWays_30 : decode b_R_keepsAllWays 30 = .ok (.ifCond .ne 5, 3) := by decide +kernel
theorem d_R_keepsAllWays_33 : decode b_R_keepsAllWays 33 = .ok (.iconst 0, 1) := by decide +kernel
theorem d_R_keepsAllWays_34 : decode b_R_keepsAllWays 34 = .ok (.ireturn, 1) := by decide +kernel
theorem d_R_keepsAllWays_35 : decode b_R_keepsAllWays 35 = .ok (.iinc 3 1, 3) := by decide +kernel
theorem d_R_keepsAllWays_38 : decode b_R_keepsAllWays 38 = .ok (.goto (-28), 3) := by decide +kernel
theorem d_R_keepsAllWays_41 : decode b_R_keepsAllWays 41 = .ok (.iconst 1, 1) := by decide +kernel
theorem d_R_keepsAllWays_42 : decode b_R_keepsAllWays 42 = .ok (.ireturn, 1) := by decide +kernel
theorem d_R_copyFrom_0 : decode b_R_copyFrom 0 = .ok (.iconst 0, 1) := by decide +kernel
theorem d_R_copyFrom_1 : decode b_R_copyFrom 1 = .ok (.istore_n 2, 1) := by decide +kernel
theorem d_R_copyFrom_2 : decode b_R_copyFrom 2 = .ok (.iload_n 2, 1) := by decide +kernel
theorem d_R_copyFrom_3 : decode b_R_copyFrom 3 = .ok (.aload_n 0, 1) := by decide +kernel
theorem d_R_copyFrom_4 : decode b_R_copyFrom 4 = .ok (.getfield 11, 3) := by decide +kernel
theorem d_R_copyFrom_7 : decode b_R_copyFrom 7 = .ok (.arraylength, 1) := by decide +kernel
theorem d_R_copyFrom_8 : decode b_R_copyFrom 8 = .ok (.if_icmp .ge 30, 3) := by decide +kernel
theorem d_R_copyFrom_11 : decode b_R_copyFrom 11 = .ok (.iload_n 2, 1) := by decide +kernel
theorem d_R_copyFrom_12 : decode b_R_copyFrom 12 = .ok (.aload_n 1, 1) := by decide +kernel
theorem d_R_copyFrom_13 : decode b_R_copyFrom 13 = .ok (.getfield 11, 3) := by decide +kernel
theorem d_R_copyFrom_16 : decode b_R_copyFrom 16 = .ok (.arraylength, 1) := by decide +kernel
theorem d_R_copyFrom_17 : decode b_R_copyFrom 17 = .ok (.if_icmp .ge 21, 3) := by decide +kernel
theorem d_R_copyFrom_20 : decode b_R_copyFrom 20 = .ok (.aload_n 0, 1) := by decide +kernel
theorem d_R_copyFrom_21 : decode b_R_copyFrom 21 = .ok (.getfield 11, 3) := by decide +kernel
theorem d_R_copyFrom_24 : decode b_R_copyFrom 24 = .ok (.iload_n 2, 1) := by decide +kernel
theorem d_R_copyFrom_25 : decode b_R_copyFrom 25 = .ok (.aload_n 1, 1) := by decide +kernel
theorem d_R_copyFrom_26 : decode b_R_copyFrom 26 = .ok (.getfield 11, 3) := by decide +kernel
theorem d_R_copyFrom_29 : decode b_R_copyFrom 29 = .ok (.iload_n 2, 1) := by decide +kernel
theorem d_R_copyFrom_30 : decode b_R_copyFrom 30 = .ok (.aaload, 1) := by decide +kernel
theorem d_R_copyFrom_31 : decode b_R_copyFrom 31 = .ok (.aastore, 1) := by decide +kernel
theorem d_R_copyFrom_32 : decode b_R_copyFrom 32 = .ok (.iinc 2 1, 3) := by decide +kernel
theorem d_R_copyFrom_35 : decode b_R_copyFrom 35 = .ok (.goto (-33), 3) := by decide +kernel
theorem d_R_copyFrom_38 : decode b_R_copyFrom 38 = .ok (.iconst 0, 1) := by decide +kernel
theorem d_R_copyFrom_39 : decode b_R_copyFrom 39 = .ok (.istore_n 2, 1) := by decide +kernel
theorem d_R_copyFrom_40 : decode b_R_copyFrom 40 = .ok (.iload_n 2, 1) := by decide +kernel
theorem d_R_copyFrom_41 : decode b_R_copyFrom 41 = .ok (.aload_n 0, 1) := by decide +kernel
theorem d_R_copyFrom_42 : decode b_R_copyFrom 42 = .ok (.getfield 19, 3) := by decide +kernel
theorem d_R_copyFrom_45 : decode b_R_copyFrom 45 = .ok (.arraylength, 1) := by decide +kernel
theorem d_R_copyFrom_46 : decode b_R_copyFrom 46 = .ok (.if_icmp .ge 30, 3) := by decide +kernel
theorem d_R_copyFrom_49 : decode b_R_copyFrom 49 = .ok (.iload_n 2, 1) := by decide +kernel
theorem d_R_copyFrom_50 : decode b_R_copyFrom 50 = .ok (.aload_n 1, 1) := by decide +kernel
theorem d_R_copyFrom_51 : decode b_R_copyFrom 51 = .ok (.getfield 19, 3) := by decide +kernel
theorem d_R_copyFrom_54 : decode b_R_copyFrom 54 = .ok (.arraylength, 1) := by decide +kernel
theorem d_R_copyFrom_55 : decode b_R_copyFrom 55 = .ok (.if_icmp .ge 21, 3) := by decide +kernel
theorem d_R_copyFrom_58 : decode b_R_copyFrom 58 = .ok (.aload_n 0, 1) := by decide +kernel
theorem d_R_copyFrom_59 : decode b_R_copyFrom 59 = .ok (.getfield 19, 3) := by decide +kernel
theorem d_R_copyFrom_62 : decode b_R_copyFrom 62 = .ok (.iload_n 2, 1) := by decide +kernel
theorem d_R_copyFrom_63 : decode b_R_copyFrom 63 = .ok (.aload_n 1, 1) := by decide +kernel
theorem d_R_copyFrom_64 : decode b_R_copyFrom 64 = .ok (.getfield 19, 3) := by decide +kernel
theorem d_R_copyFrom_67 : decode b_R_copyFrom 67 = .ok (.iload_n 2, 1) := by decide +kernel
theorem d_R_copyFrom_68 : decode b_R_copyFrom 68 = .ok (.aaload, 1) := by decide +kernel
theorem d_R_copyFrom_69 : decode b_R_copyFrom 69 = .ok (.aastore, 1) := by decide +kernel
theorem d_R_copyFrom_70 : decode b_R_copyFrom 70 = .ok (.iinc 2 1, 3) := by decide +kernel
theorem d_R_copyFrom_73 : decode b_R_copyFrom 73 = .ok (.goto (-33), 3) := by decide +kernel
theorem d_R_copyFrom_76 : decode b_R_copyFrom 76 = .ok (.iconst 0, 1) := by decide +kernel
theorem d_R_copyFrom_77 : decode b_R_copyFrom 77 = .ok (.istore_n 2, 1) := by decide +kernel
theorem d_R_copyFrom_78 : decode b_R_copyFrom 78 = .ok (.iload_n 2, 1) := by decide +kernel
theorem d_R_copyFrom_79 : decode b_R_copyFrom 79 = .ok (.aload_n 0, 1) := by decide +kernel
theorem d_R_copyFrom_80 : decode b_R_copyFrom 80 = .ok (.getfield 25, 3) := by decide +kernel
theorem d_R_copyFrom_83 : decode b_R_copyFrom 83 = .ok (.arraylength, 1) := by decide +kernel
theorem d_R_copyFrom_84 : decode b_R_copyFrom 84 = .ok (.if_icmp .ge 30, 3) := by decide +kernel
theorem d_R_copyFrom_87 : decode b_R_copyFrom 87 = .ok (.iload_n 2, 1) := by decide +kernel
theorem d_R_copyFrom_88 : decode b_R_copyFrom 88 = .ok (.aload_n 1, 1) := by decide +kernel
theorem d_R_copyFrom_89 : decode b_R_copyFrom 89 = .ok (.getfield 25, 3) := by decide +kernel
theorem d_R_copyFrom_92 : decode b_R_copyFrom 92 = .ok (.arraylength, 1) := by decide +kernel
theorem d_R_copyFrom_93 : decode b_R_copyFrom 93 = .ok (.if_icmp .ge 21, 3) := by decide +kernel
theorem d_R_copyFrom_96 : decode b_R_copyFrom 96 = .ok (.aload_n 0, 1) := by decide +kernel
theorem d_R_copyFrom_97 : decode b_R_copyFrom 97 = .ok (.getfield 25, 3) := by decide +kernel
theorem d_R_copyFrom_100 : decode b_R_copyFrom 100 = .ok (.iload_n 2, 1) := by decide +kernel
theorem d_R_copyFrom_101 : decode b_R_copyFrom 101 = .ok (.aload_n 1, 1) := by decide +kernel
theorem d_R_copyFrom_102 : decode b_R_copyFrom 102 = .ok (.getfield 25, 3) := by decide +kernel
theorem d_R_copyFrom_105 : decode b_R_copyFrom 105 = .ok (.iload_n 2, 1) := by decide +kernel
theorem d_R_copyFrom_106 : decode b_R_copyFrom 106 = .ok (.aaload, 1) := by decide +kernel
theorem d_R_copyFrom_107 : decode b_R_copyFrom 107 = .ok (.aastore, 1) := by decide +kernel
theorem d_R_copyFrom_108 : decode b_R_copyFrom 108 = .ok (.iinc 2 1, 3) := by decide +kernel
theorem d_R_copyFrom_111 : decode b_R_copyFrom 111 = .ok (.goto (-33), 3) := by decide +kernel
theorem d_R_copyFrom_114 : decode b_R_copyFrom 114 = .ok (.aload_n 1, 1) := by decide +kernel
theorem d_R_copyFrom_115 : decode b_R_copyFrom 115 = .ok (.getfield 29, 3) := by decide +kernel
theorem d_R_copyFrom_118 : decode b_R_copyFrom 118 = .ok (.iconst 0, 1) := by decide +kernel
theorem d_R_copyFrom_119 : decode b_R_copyFrom 119 = .ok (.aload_n 0, 1) := by decide +kernel
theorem d_R_copyFrom_120 : decode b_R_copyFrom 120 = .ok (.getfield 29, 3) := by decide +kernel
theorem d_R_copyFrom_123 : decode b_R_copyFrom 123 = .ok (.iconst 0, 1) := by decide +kernel
theorem d_R_copyFrom_124 : decode b_R_copyFrom 124 = .ok (.aload_n 1, 1) := by decide +kernel
theorem d_R_copyFrom_125 : decode b_R_copyFrom 125 = .ok (.getfield 29, 3) := by decide +kernel
theorem d_R_copyFrom_128 : decode b_R_copyFrom 128 = .ok (.arraylength, 1) := by decide +kernel
theorem d_R_copyFrom_129 : decode b_R_copyFrom 129 = .ok (.aload_n 0, 1) := by decide +kernel
theorem d_R_copyFrom_130 : decode b_R_copyFrom 130 = .ok (.getfield 29, 3) := by decide +kernel
theorem d_R_copyFrom_133 : decode b_R_copyFrom 133 = .ok (.arraylength, 1) := by decide +kernel
theorem d_R_copyFrom_134 : decode b_R_copyFrom 134 = .ok (.invokestatic 55, 3) := by decide +kernel
theorem d_R_copyFrom_137 : decode b_R_copyFrom 137 = .ok (.invokestatic 61, 3) := by decide +kernel
theorem d_R_copyFrom_140 : decode b_R_copyFrom 140 = .ok (.aload_n 0, 1) := by decide +kernel
theorem d_R_copyFrom_141 : decode b_R_copyFrom 141 = .ok (.aload_n 1, 1) := by decide +kernel
theorem d_R_copyFrom_142 : decode b_R_copyFrom 142 = .ok (.getfield 33, 3) := by decide +kernel
theorem d_R_copyFrom_145 : decode b_R_copyFrom 145 = .ok (.putfield 33, 3) := by decide +kernel
theorem d_R_copyFrom_148 : decode b_R_copyFrom 148 = .ok (.aload_n 0, 1) := by decide +kernel
theorem d_R_copyFrom_149 : decode b_R_copyFrom 149 = .ok (.aload_n 1, 1) := by decide +kernel
theorem d_R_copyFrom_150 : decode b_R_copyFrom 150 = .ok (.getfield 37, 3) := by decide +kernel
theorem d_R_copyFrom_153 : decode b_R_copyFrom 153 = .ok (.putfield 37, 3) := by decide +kernel
theorem d_R_copyFrom_156 : decode b_R_copyFrom 156 = .ok (.aload_n 0, 1) := by decide +kernel
theorem d_R_copyFrom_157 : decode b_R_copyFrom 157 = .ok (.aload_n 1, 1) := by decide +kernel
theorem d_R_copyFrom_158 : decode b_R_copyFrom 158 = .ok (.getfield 40, 3) := by decide +kernel
theorem d_R_copyFrom_161 : decode b_R_copyFrom 161 = .ok (.putfield 40, 3) := by decide +kernel
theorem d_R_copyFrom_164 : decode b_R_copyFrom 164 = .ok (.aload_n 0, 1) := by decide +kernel
theorem d_R_copyFrom_165 : decode b_R_copyFrom 165 = .ok (.aload_n 1, 1) := by decide +kernel
theorem d_R_copyFrom_166 : decode b_R_copyFrom 166 = .ok (.getfield 43, 3) := by decide +kernel
theorem d_R_copyFrom_169 : decode b_R_copyFrom 169 = .ok (.putfield 43, 3) := by decide +kernel
theorem d_R_copyFrom_172 : decode b_R_copyFrom 172 = .ok (.aload_n 0, 1) := by decide +kernel
theorem d_R_copyFrom_173 : decode b_R_copyFrom 173 = .ok (.aload_n 1, 1) := by decide +kernel
theorem d_R_copyFrom_174 : decode b_R_copyFrom 174 = .ok (.getfield 46, 3) := by decide +kernel
theorem d_R_copyFrom_177 : decode b_R_copyFrom 177 = .ok (.putfield 46, 3) := by decide +kernel
theorem d_R_copyFrom_180 : decode b_R_copyFrom 180 = .ok (.return_, 1) := by decide +kernel
theorem d_R_insertGate_0 : decode b_R_insertGate 0 = .ok (.aload_n 0, 1) := by decide +kernel
theorem d_R_insertGate_1 : decode b_R_insertGate 1 = .ok (.getfield 33, 3) := by decide +kernel
theorem d_R_insertGate_4 : decode b_R_insertGate 4 = .ok (.ifCond .lt 35, 3) := by decide +kernel
theorem d_R_insertGate_7 : decode b_R_insertGate 7 = .ok (.aload_n 0, 1) := by decide +kernel
theorem d_R_insertGate_8 : decode b_R_insertGate 8 = .ok (.getfield 33, 3) := by decide +kernel
theorem d_R_insertGate_11 : decode b_R_insertGate 11 = .ok (.aload_n 0, 1) := by decide +kernel
theorem d_R_insertGate_12 : decode b_R_insertGate 12 = .ok (.getfield 11, 3) := by decide +kernel
theorem d_R_insertGate_15 : decode b_R_insertGate 15 = .ok (.arraylength, 1) := by decide +kernel
theorem d_R_insertGate_16 : decode b_R_insertGate 16 = .ok (.if_icmp .ge 23, 3) := by decide +kernel
theorem d_R_insertGate_19 : decode b_R_insertGate 19 = .ok (.aload_n 0, 1) := by decide +kernel
theorem d_R_insertGate_20 : decode b_R_insertGate 20 = .ok (.getfield 11, 3) := by decide +kernel
theorem d_R_insertGate_23 : decode b_R_insertGate 23 = .ok (.aload_n 0, 1) := by decide +kernel
theorem d_R_insertGate_24 : decode b_R_insertGate 24 = .ok (.getfield 33, 3) := by decide +kernel
theorem d_R_insertGate_27 : decode b_R_insertGate 27 = .ok (.aload_n 1, 1) := by decide +kernel
theorem d_R_insertGate_28 : decode b_R_insertGate 28 = .ok (.aastore, 1) := by decide +kernel
theorem d_R_insertGate_29 : decode b_R_insertGate 29 = .ok (.aload_n 0, 1) := by decide +kernel
theorem d_R_insertGate_30 : decode b_R_insertGate 30 = .ok (.dup, 1) := by decide +kernel
theorem d_R_insertGate_31 : decode b_R_insertGate 31 = .ok (.getfield 33, 3) := by decide +kernel
theorem d_R_insertGate_34 : decode b_R_insertGate 34 = .ok (.iconst 1, 1) := by decide +kernel
theorem d_R_insertGate_35 : decode b_R_insertGate 35 = .ok (.iadd, 1) := by decide +kernel
theorem d_R_insertGate_36 : decode b_R_insertGate 36 = .ok (.putfield 33, 3) := by decide +kernel
theorem d_R_insertGate_39 : decode b_R_insertGate 39 = .ok (.aload_n 1, 1) := by decide +kernel
theorem d_R_insertGate_40 : decode b_R_insertGate 40 = .ok (.getfield 67, 3) := by decide +kernel
theorem d_R_insertGate_43 : decode b_R_insertGate 43 = .ok (.ireturn, 1) := by decide +kernel
theorem d_R_insertProduct_0 : decode b_R_insertProduct 0 = .ok (.aload_n 0, 1) := by decide +kernel
theorem d_R_insertProduct_1 : decode b_R_insertProduct 1 = .ok (.getfield 37, 3) := by decide +kernel
theorem d_R_insertProduct_4 : decode b_R_insertProduct 4 = .ok (.ifCond .lt 35, 3) := by decide +kernel
theorem d_R_insertProduct_7 : decode b_R_insertProduct 7 = .ok (.aload_n 0, 1) := by decide +kernel
theorem d_R_insertProduct_8 : decode b_R_insertProduct 8 = .ok (.getfield 37, 3) := by decide +kernel
theorem d_R_insertProduct_11 : decode b_R_insertProduct 11 = .ok (.aload_n 0, 1) := by decide +kernel
theorem d_R_insertProduct_12 : decode b_R_insertProduct 12 = .ok (.getfield 19, 3) := by decide +kernel
theorem d_R_insertProduct_15 : decode b_R_insertProduct 15 = .ok (.arraylength, 1) := by decide +kernel
theorem d_R_insertProduct_16 : decode b_R_insertProduct 16 = .ok (.if_icmp .ge 23, 3) := by decide +kernel
theorem d_R_insertProduct_19 : decode b_R_insertProduct 19 = .ok (.aload_n 0, 1) := by decide +kernel
theorem d_R_insertProduct_20 : decode b_R_insertProduct 20 = .ok (.getfield 19, 3) := by decide +kernel
theorem d_R_insertProduct_23 : decode b_R_insertProduct 23 = .ok (.aload_n 0, 1) := by decide +kernel
theorem d_R_insertProduct_24 : decode b_R_insertProduct 24 = .ok (.getfield 37, 3) := by decide +kernel
theorem d_R_insertProduct_27 : decode b_R_insertProduct 27 = .ok (.aload_n 1, 1) := by decide +kernel
theorem d_R_insertProduct_28 : decode b_R_insertProduct 28 = .ok (.aastore, 1) := by decide +kernel
theorem d_R_insertProduct_29 : decode b_R_insertProduct 29 = .ok (.aload_n 0, 1) := by decide +kernel
theorem d_R_insertProduct_30 : decode b_R_insertProduct 30 = .ok (.dup, 1) := by decide +kernel
theorem d_R_insertProduct_31 : decode b_R_insertProduct 31 = .ok (.getfield 37, 3) := by decide +kernel
theorem d_R_insertProduct_34 : decode b_R_insertProduct 34 = .ok (.iconst 1, 1) := by decide +kernel
theorem d_R_insertProduct_35 : decode b_R_insertProduct 35 = .ok (.iadd, 1) := by decide +kernel
theorem d_R_insertProduct_36 : decode b_R_insertProduct 36 = .ok (.putfield 37, 3) := by decide +kernel
theorem d_R_insertProduct_39 : decode b_R_insertProduct 39 = .ok (.aload_n 1, 1) := by decide +kernel
theorem d_R_insertProduct_40 : decode b_R_insertProduct 40 = .ok (.getfield 70, 3) := by decide +kernel
theorem d_R_insertProduct_43 : decode b_R_insertProduct 43 = .ok (.ireturn, 1) := by decide +kernel
theorem d_R_gateAt_0 : decode b_R_gateAt 0 = .ok (.iload_n 1, 1) := by decide +kernel
theorem d_R_gateAt_1 : decode b_R_gateAt 1 = .ok (.ifCond .lt 21, 3) := by decide +kernel
theorem d_R_gateAt_4 : decode b_R_gateAt 4 = .ok (.iload_n 1, 1) := by decide +kernel
theorem d_R_gateAt_5 : decode b_R_gateAt 5 = .ok (.aload_n 0, 1) := by decide +kernel
theorem d_R_gateAt_6 : decode b_R_gateAt 6 = .ok (.getfield 11, 3) := by decide +kernel
theorem d_R_gateAt_9 : decode b_R_gateAt 9 = .ok (.arraylength, 1) := by decide +kernel
theorem d_R_gateAt_10 : decode b_R_gateAt 10 = .ok (.if_icmp .ge 12, 3) := by decide +kernel
theorem d_R_gateAt_13 : decode b_R_gateAt 13 = .ok (.aload_n 0, 1) := by decide +kernel
theorem d_R_gateAt_14 : decode b_R_gateAt 14 = .ok (.getfield 11, 3) := by decide +kernel
theorem d_R_gateAt_17 : decode b_R_gateAt 17 = .ok (.iload_n 1, 1) := by decide +kernel
theorem d_R_gateAt_18 : decode b_R_gateAt 18 = .ok (.aaload, 1) := by decide +kernel
theorem d_R_gateAt_19 : decode b_R_gateAt 19 = .ok (.goto 4, 3) := by decide +kernel
theorem d_R_gateAt_22 : decode b_R_gateAt 22 = .ok (.aconst_null, 1) := by decide +kernel
theorem d_R_gateAt_23 : decode b_R_gateAt 23 = .ok (.areturn, 1) := by decide +kernel
theorem d_R_isShut_0 : decode b_R_isShut 0 = .ok (.aload_n 0, 1) := by decide +kernel
theorem d_R_isShut_1 : decode b_R_isShut 1 = .ok (.getfield 43, 3) := by decide +kernel
theorem d_R_isShut_4 : decode b_R_isShut 4 = .ok (.aload_n 1, 1) := by decide +kernel
theorem d_R_isShut_5 : decode b_R_isShut 5 = .ok (.getfield 67, 3) := by decide +kernel
theorem d_R_isShut_8 : decode b_R_isShut 8 = .ok (.ishr, 1) := by decide +kernel
theorem d_R_isShut_9 : decode b_R_isShut 9 = .ok (.iconst 1, 1) := by decide +kernel
theorem d_R_isShut_10 : decode b_R_isShut 10 = .ok (.iand, 1) := by decide +kernel
theorem d_R_isShut_11 : decode b_R_isShut 11 = .ok (.iconst 1, 1) := by decide +kernel
theorem d_R_isShut_12 : decode b_R_isShut 12 = .ok (.if_icmp .ne 7, 3) := by decide +kernel
theorem d_R_isShut_15 : decode b_R_isShut 15 = .ok (.iconst 1, 1) := by decide +kernel
theorem d_R_isShut_16 : decode b_R_isShut 16 = .ok (.goto 4, 3) := by decide +kernel
theorem d_R_isShut_19 : decode b_R_isShut 19 = .ok (.iconst 0, 1) := by decide +kernel
theorem d_R_isShut_20 : decode b_R_isShut 20 = .ok (.ireturn, 1) := by decide +kernel
theorem d_R_today_0 : decode b_R_today 0 = .ok (.aload_n 0, 1) := by decide +kernel
theorem d_R_today_1 : decode b_R_today 1 = .ok (.getfield 46, 3) := by decide +kernel
theorem d_R_today_4 : decode b_R_today 4 = .ok (.sipush 1440, 3) := by decide +kernel
theorem d_R_today_7 : decode b_R_today 7 = .ok (.idiv, 1) := by decide +kernel
theorem d_R_today_8 : decode b_R_today 8 = .ok (.ireturn, 1) := by decide +kernel
theorem d_R_closedOn_0 : decode b_R_closedOn 0 = .ok (.aload_n 1, 1) := by decide +kernel
theorem d_R_closedOn_1 : decode b_R_closedOn 1 = .ok (.getfield 67, 3) := by decide +kernel
theorem d_R_closedOn_4 : decode b_R_closedOn 4 = .ok (.bipush 31, 2) := by decide +kernel
theorem d_R_closedOn_6 : decode b_R_closedOn 6 = .ok (.imul, 1) := by decide +kernel
theorem d_R_closedOn_7 : decode b_R_closedOn 7 = .ok (.iload_n 2, 1) := by decide +kernel
theorem d_R_closedOn_8 : decode b_R_closedOn 8 = .ok (.iadd, 1) := by decide +kernel
theorem d_R_closedOn_9 : decode b_R_closedOn 9 = .ok (.istore_n 3, 1) := by decide +kernel
theorem d_R_closedOn_10 : decode b_R_closedOn 10 = .ok (.iload_n 3, 1) := by decide +kernel
theorem d_R_closedOn_11 : decode b_R_closedOn 11 = .ok (.ifCond .lt 21, 3) := by decide +kernel
theorem d_R_closedOn_14 : decode b_R_closedOn 14 = .ok (.iload_n 3, 1) := by decide +kernel
theorem d_R_closedOn_15 : decode b_R_closedOn 15 = .ok (.aload_n 0, 1) := by decide +kernel
theorem d_R_closedOn_16 : decode b_R_closedOn 16 = .ok (.getfield 29, 3) := by decide +kernel
theorem d_R_closedOn_19 : decode b_R_closedOn 19 = .ok (.arraylength, 1) := by decide +kernel
theorem d_R_closedOn_20 : decode b_R_closedOn 20 = .ok (.if_icmp .ge 12, 3) := by decide +kernel
theorem d_R_closedOn_23 : decode b_R_closedOn 23 = .ok (.aload_n 0, 1) := by decide +kernel
theorem d_R_closedOn_24 : decode b_R_closedOn 24 = .ok (.getfield 29, 3) := by decide +kernel
theorem d_R_closedOn_27 : decode b_R_closedOn 27 = .ok (.iload_n 3, 1) := by decide +kernel
theorem d_R_closedOn_28 : decode b_R_closedOn 28 = .ok (.iaload, 1) := by decide +kernel
theorem d_R_closedOn_29 : decode b_R_closedOn 29 = .ok (.goto 4, 3) := by decide +kernel
theorem d_R_closedOn_32 : decode b_R_closedOn 32 = .ok (.iconst 0, 1) := by decide +kernel
theorem d_R_closedOn_33 : decode b_R_closedOn 33 = .ok (.ireturn, 1) := by decide +kernel
theorem d_R_closedOnAllDays_0 : decode b_R_closedOnAllDays 0 = .ok (.iconst 0, 1) := by decide +kernel
theorem d_R_closedOnAllDays_1 : decode b_R_closedOnAllDays 1 = .ok (.istore_n 2, 1) := by decide +kernel
theorem d_R_closedOnAllDays_2 : decode b_R_closedOnAllDays 2 = .ok (.iconst 0, 1) := by decide +kernel
theorem d_R_closedOnAllDays_3 : decode b_R_closedOnAllDays 3 = .ok (.istore_n 3, 1) := by decide +kernel
theorem d_R_closedOnAllDays_4 : decode b_R_closedOnAllDays 4 = .ok (.iload_n 3, 1) := by decide +kernel
theorem d_R_closedOnAllDays_5 : decode b_R_closedOnAllDays 5 = .ok (.bipush 31, 2) := by decide +kernel
theorem d_R_closedOnAllDays_7 : decode b_R_closedOnAllDays 7 = .ok (.if_icmp .ge 18, 3) := by decide +kernel
theorem d_R_closedOnAllDays_10 : decode b_R_closedOnAllDays 10 = .ok (.iload_n 2, 1) := by decide +kernel
theorem d_R_closedOnAllDays_11 : decode b_R_closedOnAllDays 11 = .ok (.aload_n 0, 1) := by decide +kernel
theorem d_R_closedOnAllDays_12 : decode b_R_closedOnAllDays 12 = .ok (.aload_n 1, 1) := by decide +kernel
theorem d_R_closedOnAllDays_13 : decode b_R_closedOnAllDays 13 = .ok (.iload_n 3, 1) := by decide +kernel
theorem d_R_closedOnAllDays_14 : decode b_R_closedOnAllDays 14 = .ok (.invokevirtual 139, 3) := by decide +kernel
theorem d_R_closedOnAllDays_17 : decode b_R_closedOnAllDays 17 = .ok (.iadd, 1) := by decide +kernel
theorem d_R_closedOnAllDays_18 : decode b_R_closedOnAllDays 18 = .ok (.istore_n 2, 1) := by decide +kernel
theorem d_R_closedOnAllDays_19 : decode b_R_closedOnAllDays 19 = .ok (.iinc 3 1, 3) := by decide +kernel
theorem d_R_closedOnAllDays_22 : decode b_R_closedOnAllDays 22 = .ok (.goto (-18), 3) := by decide +kernel
theorem d_R_closedOnAllDays_25 : decode b_R_closedOnAllDays 25 = .ok (.iload_n 2, 1) := by decide +kernel
theorem d_R_closedOnAllDays_26 : decode b_R_closedOnAllDays 26 = .ok (.ireturn, 1) := by decide +kernel
theorem d_R_productAt_0 : decode b_R_productAt 0 = .ok (.iload_n 1, 1) := by decide +kernel
theorem d_R_productAt_1 : decode b_R_productAt 1 = .ok (.ifCond .lt 21, 3) := by decide +kernel
theorem d_R_productAt_4 : decode b_R_productAt 4 = .ok (.iload_n 1, 1) := by decide +kernel
theorem d_R_productAt_5 : decode b_R_productAt 5 = .ok (.aload_n 0, 1) := by decide +kernel
theorem d_R_productAt_6 : decode b_R_productAt 6 = .ok (.getfield 19, 3) := by decide +kernel
theorem d_R_productAt_9 : decode b_R_productAt 9 = .ok (.arraylength, 1) := by decide +kernel
theorem d_R_productAt_10 : decode b_R_productAt 10 = .ok (.if_icmp .ge 12, 3) := by decide +kernel
theorem d_R_productAt_13 : decode b_R_productAt 13 = .ok (.aload_n 0, 1) := by decide +kernel
theorem d_R_productAt_14 : decode b_R_productAt 14 = .ok (.getfield 19, 3) := by decide +kernel
theorem d_R_productAt_17 : decode b_R_productAt 17 = .ok (.iload_n 1, 1) := by decide +kernel
theorem d_R_productAt_18 : decode b_R_productAt 18 = .ok (.aaload, 1) := by decide +kernel
theorem d_R_productAt_19 : decode b_R_productAt 19 = .ok (.goto 4, 3) := by decide +kernel
theorem d_R_productAt_22 : decode b_R_productAt 22 = .ok (.aconst_null, 1) := by decide +kernel
theorem d_R_productAt_23 : decode b_R_productAt 23 = .ok (.areturn, 1) := by decide +kernel
theorem d_R_gatesFor_0 : decode b_R_gatesFor 0 = .ok (.iconst 0, 1) := by decide +kernel
theorem d_R_gatesFor_1 : decode b_R_gatesFor 1 = .ok (.istore_n 2, 1) := by decide +kernel
theorem d_R_gatesFor_2 : decode b_R_gatesFor 2 = .ok (.aload_n 0, 1) := by decide +kernel
theorem d_R_gatesFor_3 : decode b_R_gatesFor 3 = .ok (.getfield 11, 3) := by decide +kernel
theorem d_R_gatesFor_6 : decode b_R_gatesFor 6 = .ok (.astore_n 3, 1) := by decide +kernel
theorem d_R_gatesFor_7 : decode b_R_gatesFor 7 = .ok (.aload_n 3, 1) := by decide +kernel
theorem d_R_gatesFor_8 : decode b_R_gatesFor 8 = .ok (.arraylength, 1) := by decide +kernel
theorem d_R_gatesFor_9 : decode b_R_gatesFor 9 = .ok (.istore 4, 2) := by decide +kernel
theorem d_R_gatesFor_11 : decode b_R_gatesFor 11 = .ok (.iconst 0, 1) := by decide +kernel
theorem d_R_gatesFor_12 : decode b_R_gatesFor 12 = .ok (.istore 5, 2) := by decide +kernel
theorem d_R_gatesFor_14 : decode b_R_gatesFor 14 = .ok (.iload 5, 2) := by decide +kernel
theorem d_R_gatesFor_16 : decode b_R_gatesFor 16 = .ok (.iload 4, 2) := by decide +kernel
theorem d_R_gatesFor_18 : decode b_R_gatesFor 18 = .ok (.if_icmp .ge 42, 3) := by decide +kernel
theorem d_R_gatesFor_21 : decode b_R_gatesFor 21 = .ok (.aload_n 3, 1) := by decide +kernel
theorem d_R_gatesFor_22 : decode b_R_gatesFor 22 = .ok (.iload 5, 2) := by decide +kernel
theorem d_R_gatesFor_24 : decode b_R_gatesFor 24 = .ok (.aaload, 1) := by decide +kernel
theorem d_R_gatesFor_25 : decode b_R_gatesFor 25 = .ok (.astore 6, 2) := by decide +kernel
theorem d_R_gatesFor_27 : decode b_R_gatesFor 27 = .ok (.aload 6, 2) := by decide +kernel
theorem d_R_gatesFor_29 : decode b_R_gatesFor 29 = .ok (.ifnull 25, 3) := by decide +kernel
theorem d_R_gatesFor_32 : decode b_R_gatesFor 32 = .ok (.aload_n 1, 1) := by decide +kernel
theorem d_R_gatesFor_33 : decode b_R_gatesFor 33 = .ok (.aload 6, 2) := by decide +kernel
theorem d_R_gatesFor_35 : decode b_R_gatesFor 35 = .ok (.getfield 143, 3) := by decide +kernel
theorem d_R_gatesFor_38 : decode b_R_gatesFor 38 = .ok (.invokevirtual 146, 3) := by decide +kernel
theorem d_R_gatesFor_41 : decode b_R_gatesFor 41 = .ok (.ifCond .eq 13, 3) := by decide +kernel
theorem d_R_gatesFor_44 : decode b_R_gatesFor 44 = .ok (.iload_n 2, 1) := by decide +kernel
theorem d_R_gatesFor_45 : decode b_R_gatesFor 45 = .ok (.iconst 1, 1) := by decide +kernel
theorem d_R_gatesFor_46 : decode b_R_gatesFor 46 = .ok (.aload 6, 2) := by decide +kernel
theorem d_R_gatesFor_48 : decode b_R_gatesFor 48 = .ok (.getfield 67, 3) := by decide +kernel
theorem d_R_gatesFor_51 : decode b_R_gatesFor 51 = .ok (.ishl, 1) := by decide +kernel
theorem d_R_gatesFor_52 : decode b_R_gatesFor 52 = .ok (.ior, 1) := by decide +kernel
theorem d_R_gatesFor_53 : decode b_R_gatesFor 53 = .ok (.istore_n 2, 1) := by decide +kernel
theorem d_R_gatesFor_54 : decode b_R_gatesFor 54 = .ok (.iinc 5 1, 3) := by decide +kernel
theorem d_R_gatesFor_57 : decode b_R_gatesFor 57 = .ok (.goto (-43), 3) := by decide +kernel
theorem d_R_gatesFor_60 : decode b_R_gatesFor 60 = .ok (.iload_n 2, 1) := by decide +kernel
theorem d_R_gatesFor_61 : decode b_R_gatesFor 61 = .ok (.ireturn, 1) := by decide +kernel
theorem d_R_cardsWith_0 : decode b_R_cardsWith 0 = .ok (.iconst 0, 1) := by decide +kernel
theorem d_R_cardsWith_1 : decode b_R_cardsWith 1 = .ok (.istore_n 2, 1) := by decide +kernel
theorem d_R_cardsWith_2 : decode b_R_cardsWith 2 = .ok (.aload_n 0, 1) := by decide +kernel
theorem d_R_cardsWith_3 : decode b_R_cardsWith 3 = .ok (.getfield 25, 3) := by decide +kernel
theorem d_R_cardsWith_6 : decode b_R_cardsWith 6 = .ok (.astore_n 3, 1) := by decide +kernel
theorem d_R_cardsWith_7 : decode b_R_cardsWith 7 = .ok (.aload_n 3, 1) := by decide +kernel
theorem d_R_cardsWith_8 : decode b_R_cardsWith 8 = .ok (.arraylength, 1) := by decide +kernel
theorem d_R_cardsWith_9 : decode b_R_cardsWith 9 = .ok (.istore 4, 2) := by decide +kernel
theorem d_R_cardsWith_11 : decode b_R_cardsWith 11 = .ok (.iconst 0, 1) := by decide +kernel
theorem d_R_cardsWith_12 : decode b_R_cardsWith 12 = .ok (.istore 5, 2) := by decide +kernel
theorem d_R_cardsWith_14 : decode b_R_cardsWith 14 = .ok (.iload 5, 2) := by decide +kernel
theorem d_R_cardsWith_16 : decode b_R_cardsWith 16 = .ok (.iload 4, 2) := by decide +kernel
theorem d_R_cardsWith_18 : decode b_R_cardsWith 18 = .ok (.if_icmp .ge 47, 3) := by decide +kernel
theorem d_R_cardsWith_21 : decode b_R_cardsWith 21 = .ok (.aload_n 3, 1) := by decide +kernel
theorem d_R_cardsWith_22 : decode b_R_cardsWith 22 = .ok (.iload 5, 2) := by decide +kernel
theorem d_R_cardsWith_24 : decode b_R_cardsWith 24 = .ok (.aaload, 1) := by decide +kernel
theorem d_R_cardsWith_25 : decode b_R_cardsWith 25 = .ok (.astore 6, 2) := by decide +kernel
theorem d_R_cardsWith_27 : decode b_R_cardsWith 27 = .ok (.aload 6, 2) := by decide +kernel
theorem d_R_cardsWith_29 : decode b_R_cardsWith 29 = .ok (.ifnull 30, 3) := by decide +kernel
theorem d_R_cardsWith_32 : decode b_R_cardsWith 32 = .ok (.aload 6, 2) := by decide +kernel
theorem d_R_cardsWith_34 : decode b_R_cardsWith 34 = .ok (.getfield 150, 3) := by decide +kernel
theorem d_R_cardsWith_37 : decode b_R_cardsWith 37 = .ok (.iconst 2, 1) := by decide +kernel
theorem d_R_cardsWith_38 : decode b_R_cardsWith 38 = .ok (.if_icmp .eq 21, 3) := by decide +kernel
theorem d_R_cardsWith_41 : decode b_R_cardsWith 41 = .ok (.aload 6, 2) := by decide +kernel
theorem d_R_cardsWith_43 : decode b_R_cardsWith 43 = .ok (.getfield 87, 3) := by decide +kernel
theorem d_R_cardsWith_46 : decode b_R_cardsWith 46 = .ok (.getfield 70, 3) := by decide +kernel
theorem d_R_cardsWith_49 : decode b_R_cardsWith 49 = .ok (.aload_n 1, 1) := by decide +kernel
theorem d_R_cardsWith_50 : decode b_R_cardsWith 50 = .ok (.getfield 70, 3) := by decide +kernel
theorem d_R_cardsWith_53 : decode b_R_cardsWith 53 = .ok (.if_icmp .ne 6, 3) := by decide +kernel
theorem d_R_cardsWith_56 : decode b_R_cardsWith 56 = .ok (.iinc 2 1, 3) := by decide +kernel
theorem d_R_cardsWith_59 : decode b_R_cardsWith 59 = .ok (.iinc 5 1, 3) := by decide +kernel
theorem d_R_cardsWith_62 : decode b_R_cardsWith 62 = .ok (.goto (-48), 3) := by decide +kernel
theorem d_R_cardsWith_65 : decode b_R_cardsWith 65 = .ok (.iload_n 2, 1) := by decide +kernel
theorem d_R_cardsWith_66 : decode b_R_cardsWith 66 = .ok (.ireturn, 1) := by decide +kernel
theorem d_R_goOn_0 : decode b_R_goOn 0 = .ok (.aload_n 0, 1) := by decide +kernel
theorem d_R_goOn_1 : decode b_R_goOn 1 = .ok (.getfield 46, 3) := by decide +kernel
theorem d_R_goOn_4 : decode b_R_goOn 4 = .ok (.iload_n 1, 1) := by decide +kernel
theorem d_R_goOn_5 : decode b_R_goOn 5 = .ok (.iadd, 1) := by decide +kernel
theorem d_R_goOn_6 : decode b_R_goOn 6 = .ok (.istore_n 2, 1) := by decide +kernel
theorem d_R_goOn_7 : decode b_R_goOn 7 = .ok (.aload_n 0, 1) := by decide +kernel
theorem d_R_goOn_8 : decode b_R_goOn 8 = .ok (.getfield 11, 3) := by decide +kernel
theorem d_R_goOn_11 : decode b_R_goOn 11 = .ok (.astore_n 3, 1) := by decide +kernel
theorem d_R_goOn_12 : decode b_R_goOn 12 = .ok (.aload_n 3, 1) := by decide +kernel
theorem d_R_goOn_13 : decode b_R_goOn 13 = .ok (.arraylength, 1) := by decide +kernel
theorem d_R_goOn_14 : decode b_R_goOn 14 = .ok (.istore 4, 2) := by decide +kernel
theorem d_R_goOn_16 : decode b_R_goOn 16 = .ok (.iconst 0, 1) := by decide +kernel
theorem d_R_goOn_17 : decode b_R_goOn 17 = .ok (.istore 5, 2) := by decide +kernel
theorem d_R_goOn_19 : decode b_R_goOn 19 = .ok (.iload 5, 2) := by decide +kernel
theorem d_R_goOn_21 : decode b_R_goOn 21 = .ok (.iload 4, 2) := by decide +kernel
theorem d_R_goOn_23 : decode b_R_goOn 23 = .ok (.if_icmp .ge 40, 3) := by decide +kernel
theorem d_R_goOn_26 : decode b_R_goOn 26 = .ok (.aload_n 3, 1) := by decide +kernel
theorem d_R_goOn_27 : decode b_R_goOn 27 = .ok (.iload 5, 2) := by decide +kernel
theorem d_R_goOn_29 : decode b_R_goOn 29 = .ok (.aaload, 1) := by decide +kernel
theorem d_R_goOn_30 : decode b_R_goOn 30 = .ok (.astore 6, 2) := by decide +kernel
theorem d_R_goOn_32 : decode b_R_goOn 32 = .ok (.aload 6, 2) := by decide +kernel
theorem d_R_goOn_34 : decode b_R_goOn 34 = .ok (.ifnull 23, 3) := by decide +kernel
theorem d_R_goOn_37 : decode b_R_goOn 37 = .ok (.aload_n 0, 1) := by decide +kernel
theorem d_R_goOn_38 : decode b_R_goOn 38 = .ok (.aload 6, 2) := by decide +kernel
theorem d_R_goOn_40 : decode b_R_goOn 40 = .ok (.invokevirtual 124, 3) := by decide +kernel
theorem d_R_goOn_43 : decode b_R_goOn 43 = .ok (.ifCond .eq 14, 3) := by decide +kernel
theorem d_R_goOn_46 : decode b_R_goOn 46 = .ok (.aload_n 0, 1) := by decide +kernel
theorem d_R_goOn_47 : decode b_R_goOn 47 = .ok (.aload 6, 2) := by decide +kernel
theorem d_R_goOn_49 : decode b_R_goOn 49 = .ok (.aload_n 0, 1) := by decide +kernel
theorem d_R_goOn_50 : decode b_R_goOn 50 = .ok (.getfield 46, 3) := by decide +kernel
theorem d_R_goOn_53 : decode b_R_goOn 53 = .ok (.iload_n 2, 1) := by decide +kernel
theorem d_R_goOn_54 : decode b_R_goOn 54 = .ok (.invokevirtual 128, 3) := by decide +kernel
theorem d_R_goOn_57 : decode b_R_goOn 57 = .ok (.iinc 5 1, 3) := by decide +kernel
theorem d_R_goOn_60 : decode b_R_goOn 60 = .ok (.goto (-41), 3) := by decide +kernel
theorem d_R_goOn_63 : decode b_R_goOn 63 = .ok (.aload_n 0, 1) := by decide +kernel
theorem d_R_goOn_64 : decode b_R_goOn 64 = .ok (.iload_n 2, 1) := by decide +kernel
theorem d_R_goOn_65 : decode b_R_goOn 65 = .ok (.putfield 46, 3) := by decide +kernel
theorem d_R_goOn_68 : decode b_R_goOn 68 = .ok (.return_, 1) := by decide +kernel
theorem d_R_countClosed_0 : decode b_R_countClosed 0 = .ok (.iconst 0, 1) := by decide +kernel
theorem d_R_countClosed_1 : decode b_R_countClosed 1 = .ok (.istore 4, 2) := by decide +kernel
theorem d_R_countClosed_3 : decode b_R_countClosed 3 = .ok (.iload 4, 2) := by decide +kernel
theorem d_R_countClosed_5 : decode b_R_countClosed 5 = .ok (.bipush 31, 2) := by decide +kernel
theorem d_R_countClosed_7 : decode b_R_countClosed 7 = .ok (.if_icmp .ge 53, 3) := by decide +kernel
theorem d_R_countClosed_10 : decode b_R_countClosed 10 = .ok (.aload_n 1, 1) := by decide +kernel
theorem d_R_countClosed_11 : decode b_R_countClosed 11 = .ok (.getfield 67, 3) := by decide +kernel
theorem d_R_countClosed_14 : decode b_R_countClosed 14 = .ok (.bipush 31, 2) := by decide +kernel
theorem d_R_countClosed_16 : decode b_R_countClosed 16 = .ok (.imul, 1) := by decide +kernel
theorem d_R_countClosed_17 : decode b_R_countClosed 17 = .ok (.iload 4, 2) := by decide +kernel
theorem d_R_countClosed_19 : decode b_R_countClosed 19 = .ok (.iadd, 1) := by decide +kernel
theorem d_R_countClosed_20 : decode b_R_countClosed 20 = .ok (.istore 5, 2) := by decide +kernel
theorem d_R_countClosed_22 : decode b_R_countClosed 22 = .ok (.iload 5, 2) := by decide +kernel
theorem d_R_countClosed_24 : decode b_R_countClosed 24 = .ok (.ifCond .lt 30, 3) := by decide +kernel
theorem d_R_countClosed_27 : decode b_R_countClosed 27 = .ok (.iload 5, 2) := by decide +kernel
theorem d_R_countClosed_29 : decode b_R_countClosed 29 = .ok (.aload_n 0, 1) := by decide +kernel
theorem d_R_countClosed_30 : decode b_R_countClosed 30 = .ok (.getfield 29, 3) := by decide +kernel
theorem d_R_countClosed_33 : decode b_R_countClosed 33 = .ok (.arraylength, 1) := by decide +kernel
theorem d_R_countClosed_34 : decode b_R_countClosed 34 = .ok (.if_icmp .ge 20, 3) := by decide +kernel
theorem d_R_countClosed_37 : decode b_R_countClosed 37 = .ok (.aload_n 0, 1) := by decide +kernel
theorem d_R_countClosed_38 : decode b_R_countClosed 38 = .ok (.getfield 29, 3) := by decide +kernel
theorem d_R_countClosed_41 : decode b_R_countClosed 41 = .ok (.iload 5, 2) := by decide +kernel
theorem d_R_countClosed_43 : decode b_R_countClosed 43 = .ok (.dup2, 1) := by decide +kernel
theorem d_R_countClosed_44 : decode b_R_countClosed 44 = .ok (.iaload, 1) := by decide +kernel
theorem d_R_countClosed_45 : decode b_R_countClosed 45 = .ok (.iload_n 2, 1) := by decide +kernel
theorem d_R_countClosed_46 : decode b_R_countClosed 46 = .ok (.iload_n 3, 1) := by decide +kernel
theorem d_R_countClosed_47 : decode b_R_countClosed 47 = .ok (.iload 4, 2) := by decide +kernel
theorem d_R_countClosed_49 : decode b_R_countClosed 49 = .ok (.invokestatic 132, 3) := by decide +kernel
theorem d_R_countClosed_52 : decode b_R_countClosed 52 = .ok (.iadd, 1) := by decide +kernel
theorem d_R_countClosed_53 : decode b_R_countClosed 53 = .ok (.iastore, 1) := by decide +kernel
theorem d_R_countClosed_54 : decode b_R_countClosed 54 = .ok (.iinc 4 1, 3) := by decide +kernel
theorem d_R_countClosed_57 : decode b_R_countClosed 57 = .ok (.goto (-54), 3) := by decide +kernel
theorem d_R_countClosed_60 : decode b_R_countClosed 60 = .ok (.return_, 1) := by decide +kernel
theorem d_R_countedBetween_0 : decode b_R_countedBetween 0 = .ok (.iload_n 0, 1) := by decide +kernel
theorem d_R_countedBetween_1 : decode b_R_countedBetween 1 = .ok (.iload_n 2, 1) := by decide +kernel
theorem d_R_countedBetween_2 : decode b_R_countedBetween 2 = .ok (.sipush 1440, 3) := by decide +kernel
theorem d_R_countedBetween_5 : decode b_R_countedBetween 5 = .ok (.imul, 1) := by decide +kernel
theorem d_R_countedBetween_6 : decode b_R_countedBetween 6 = .ok (.sipush 480, 3) := by decide +kernel
theorem d_R_countedBetween_9 : decode b_R_countedBetween 9 = .ok (.iadd, 1) := by decide +kernel
theorem d_R_countedBetween_10 : decode b_R_countedBetween 10 = .ok (.invokestatic 136, 3) := by decide +kernel
theorem d_R_countedBetween_13 : decode b_R_countedBetween 13 = .ok (.istore_n 3, 1) := by decide +kernel
theorem d_R_countedBetween_14 : decode b_R_countedBetween 14 = .ok (.iload_n 1, 1) := by decide +kernel
theorem d_R_countedBetween_15 : decode b_R_countedBetween 15 = .ok (.iload_n 2, 1) := by decide +kernel
theorem d_R_countedBetween_16 : decode b_R_countedBetween 16 = .ok (.sipush 1440, 3) := by decide +kernel
theorem d_R_countedBetween_19 : decode b_R_countedBetween 19 = .ok (.imul, 1) := by decide +kernel
theorem d_R_countedBetween_20 : decode b_R_countedBetween 20 = .ok (.sipush 960, 3) := by decide +kernel
theorem d_R_countedBetween_23 : decode b_R_countedBetween 23 = .ok (.iadd, 1) := by decide +kernel
theorem d_R_countedBetween_24 : decode b_R_countedBetween 24 = .ok (.invokestatic 55, 3) := by decide +kernel
theorem d_R_countedBetween_27 : decode b_R_countedBetween 27 = .ok (.istore 4, 2) := by decide +kernel
theorem d_R_countedBetween_29 : decode b_R_countedBetween 29 = .ok (.iconst 0, 1) := by decide +kernel
theorem d_R_countedBetween_30 : decode b_R_countedBetween 30 = .ok (.iload 4, 2) := by decide +kernel
theorem d_R_countedBetween_32 : decode b_R_countedBetween 32 = .ok (.iload_n 3, 1) := by decide +kernel
theorem d_R_countedBetween_33 : decode b_R_countedBetween 33 = .ok (.isub, 1) := by decide +kernel
theorem d_R_countedBetween_34 : decode b_R_countedBetween 34 = .ok (.invokestatic 136, 3) := by decide +kernel
theorem d_R_countedBetween_37 : decode b_R_countedBetween 37 = .ok (.ireturn, 1) := by decide +kernel
theorem d_R_hour_0 : decode b_R_hour 0 = .ok (.aload_n 0, 1) := by decide +kernel
theorem d_R_hour_1 : decode b_R_hour 1 = .ok (.getfield 46, 3) := by decide +kernel
theorem d_R_hour_4 : decode b_R_hour 4 = .ok (.sipush 1440, 3) := by decide +kernel
theorem d_R_hour_7 : decode b_R_hour 7 = .ok (.irem, 1) := by decide +kernel
theorem d_R_hour_8 : decode b_R_hour 8 = .ok (.bipush 60, 2) := by decide +kernel
theorem d_R_hour_10 : decode b_R_hour 10 = .ok (.idiv, 1) := by decide +kernel
theorem d_R_hour_11 : decode b_R_hour 11 = .ok (.ireturn, 1) := by decide +kernel
theorem d_R_shut_0 : decode b_R_shut 0 = .ok (.iconst 1, 1) := by decide +kernel
theorem d_R_shut_1 : decode b_R_shut 1 = .ok (.aload_n 1, 1) := by decide +kernel
theorem d_R_shut_2 : decode b_R_shut 2 = .ok (.getfield 67, 3) := by decide +kernel
theorem d_R_shut_5 : decode b_R_shut 5 = .ok (.ishl, 1) := by decide +kernel
theorem d_R_shut_6 : decode b_R_shut 6 = .ok (.istore_n 3, 1) := by decide +kernel
theorem d_R_shut_7 : decode b_R_shut 7 = .ok (.aload_n 0, 1) := by decide +kernel
theorem d_R_shut_8 : decode b_R_shut 8 = .ok (.iload_n 2, 1) := by decide +kernel
theorem d_R_shut_9 : decode b_R_shut 9 = .ok (.ifCond .eq 12, 3) := by decide +kernel
theorem d_R_shut_12 : decode b_R_shut 12 = .ok (.aload_n 0, 1) := by decide +kernel
theorem d_R_shut_13 : decode b_R_shut 13 = .ok (.getfield 43, 3) := by decide +kernel
theorem d_R_shut_16 : decode b_R_shut 16 = .ok (.iload_n 3, 1) := by decide +kernel
theorem d_R_shut_17 : decode b_R_shut 17 = .ok (.ior, 1) := by decide +kernel
theorem d_R_shut_18 : decode b_R_shut 18 = .ok (.goto 11, 3) := by decide +kernel
theorem d_R_shut_21 : decode b_R_shut 21 = .ok (.aload_n 0, 1) := by decide +kernel
theorem d_R_shut_22 : decode b_R_shut 22 = .ok (.getfield 43, 3) := by decide +kernel
theorem d_R_shut_25 : decode b_R_shut 25 = .ok (.iload_n 3, 1) := by decide +kernel
theorem d_R_shut_26 : decode b_R_shut 26 = .ok (.iconst (-1), 1) := by decide +kernel
theorem d_R_shut_27 : decode b_R_shut 27 = .ok (.ixor, 1) := by decide +kernel
theorem d_R_shut_28 : decode b_R_shut 28 = .ok (.iand, 1) := by decide +kernel
theorem d_R_shut_29 : decode b_R_shut 29 = .ok (.putfield 43, 3) := by decide +kernel
theorem d_R_shut_32 : decode b_R_shut 32 = .ok (.return_, 1) := by decide +kernel
theorem d_R_isClosedFor_0 : decode b_R_isClosedFor 0 = .ok (.iconst 0, 1) := by decide +kernel
theorem d_R_isClosedFor_1 : decode b_R_isClosedFor 1 = .ok (.istore_n 3, 1) := by decide +kernel
theorem d_R_isClosedFor_2 : decode b_R_isClosedFor 2 = .ok (.iconst 0, 1) := by decide +kernel
theorem d_R_isClosedFor_3 : decode b_R_isClosedFor 3 = .ok (.istore 4, 2) := by decide +kernel
theorem d_R_isClosedFor_5 : decode b_R_isClosedFor 5 = .ok (.aload_n 0, 1) := by decide +kernel
theorem d_R_isClosedFor_6 : decode b_R_isClosedFor 6 = .ok (.getfield 11, 3) := by decide +kernel
theorem d_R_isClosedFor_9 : decode b_R_isClosedFor 9 = .ok (.astore 5, 2) := by decide +kernel
theorem d_R_isClosedFor_11 : decode b_R_isClosedFor 11 = .ok (.aload 5, 2) := by decide +kernel
theorem d_R_isClosedFor_13 : decode b_R_isClosedFor 13 = .ok (.arraylength, 1) := by decide +kernel
theorem d_R_isClosedFor_14 : decode b_R_isClosedFor 14 = .ok (.istore 6, 2) := by decide +kernel
theorem d_R_isClosedFor_16 : decode b_R_isClosedFor 16 = .ok (.iconst 0, 1) := by decide +kernel
theorem d_R_isClosedFor_17 : decode b_R_isClosedFor 17 = .ok (.istore 7, 2) := by decide +kernel
theorem d_R_isClosedFor_19 : decode b_R_isClosedFor 19 = .ok (.iload 7, 2) := by decide +kernel
theorem d_R_isClosedFor_21 : decode b_R_isClosedFor 21 = .ok (.iload 6, 2) := by decide +kernel
theorem d_R_isClosedFor_23 : decode b_R_isClosedFor 23 = .ok (.if_icmp .ge 48, 3) := by decide +kernel
theorem d_R_isClosedFor_26 : decode b_R_isClosedFor 26 = .ok (.aload 5, 2) := by decide +kernel
theorem d_R_isClosedFor_28 : decode b_R_isClosedFor 28 = .ok (.iload 7, 2) := by decide +kernel
theorem d_R_isClosedFor_30 : decode b_R_isClosedFor 30 = .ok (.aaload, 1) := by decide +kernel
theorem d_R_isClosedFor_31 : decode b_R_isClosedFor 31 = .ok (.astore 8, 2) := by decide +kernel
theorem d_R_isClosedFor_33 : decode b_R_isClosedFor 33 = .ok (.aload 8, 2) := by decide +kernel
theorem d_R_isClosedFor_35 : decode b_R_isClosedFor 35 = .ok (.ifnull 30, 3) := by decide +kernel
theorem d_R_isClosedFor_38 : decode b_R_isClosedFor 38 = .ok (.aload_n 1, 1) := by decide +kernel
theorem d_R_isClosedFor_39 : decode b_R_isClosedFor 39 = .ok (.aload 8, 2) := by decide +kernel
theorem d_R_isClosedFor_41 : decode b_R_isClosedFor 41 = .ok (.getfield 143, 3) := by decide +kernel
theorem d_R_isClosedFor_44 : decode b_R_isClosedFor 44 = .ok (.invokevirtual 146, 3) := by decide +kernel
theorem d_R_isClosedFor_47 : decode b_R_isClosedFor 47 = .ok (.ifCond .eq 18, 3) := by decide +kernel
theorem d_R_isClosedFor_50 : decode b_R_isClosedFor 50 = .ok (.iinc 3 1, 3) := by decide +kernel
theorem d_R_isClosedFor_53 : decode b_R_isClosedFor 53 = .ok (.iload 4, 2) := by decide +kernel
theorem d_R_isClosedFor_55 : decode b_R_isClosedFor 55 = .ok (.aload_n 0, 1) := by decide +kernel
theorem d_R_isClosedFor_56 : decode b_R_isClosedFor 56 = .ok (.aload 8, 2) := by decide +kernel
theorem d_R_isClosedFor_58 : decode b_R_isClosedFor 58 = .ok (.iload_n 2, 1) := by decide +kernel
theorem d_R_isClosedFor_59 : decode b_R_isClosedFor 59 = .ok (.invokevirtual 139, 3) := by decide +kernel
theorem d_R_isClosedFor_62 : decode b_R_isClosedFor 62 = .ok (.iadd, 1) := by decide +kernel
theorem d_R_isClosedFor_63 : decode b_R_isClosedFor 63 = .ok (.istore 4, 2) := by decide +kernel
theorem d_R_isClosedFor_65 : decode b_R_isClosedFor 65 = .ok (.iinc 7 1, 3) := by decide +kernel
theorem d_R_isClosedFor_68 : decode b_R_isClosedFor 68 = .ok (.goto (-49), 3) := by decide +kernel
theorem d_R_isClosedFor_71 : decode b_R_isClosedFor 71 = .ok (.iload_n 3, 1) := by decide +kernel
theorem d_R_isClosedFor_72 : decode b_R_isClosedFor 72 = .ok (.ifCond .le 19, 3) := by decide +kernel
theorem d_R_isClosedFor_75 : decode b_R_isClosedFor 75 = .ok (.iconst 2, 1) := by decide +kernel
theorem d_R_isClosedFor_76 : decode b_R_isClosedFor 76 = .ok (.iload 4, 2) := by decide +kernel
theorem d_R_isClosedFor_78 : decode b_R_isClosedFor 78 = .ok (.imul, 1) := by decide +kernel
theorem d_R_isClosedFor_79 : decode b_R_isClosedFor 79 = .ok (.sipush 480, 3) := by decide +kernel
theorem d_R_isClosedFor_82 : decode b_R_isClosedFor 82 = .ok (.iload_n 3, 1) := by decide +kernel
theorem d_R_isClosedFor_83 : decode b_R_isClosedFor 83 = .ok (.imul, 1) := by decide +kernel
theorem d_R_isClosedFor_84 : decode b_R_isClosedFor 84 = .ok (.if_icmp .lt 7, 3) := by decide +kernel
theorem d_R_isClosedFor_87 : decode b_R_isClosedFor 87 = .ok (.iconst 1, 1) := by decide +kernel
theorem d_R_isClosedFor_88 : decode b_R_isClosedFor 88 = .ok (.goto 4, 3) := by decide +kernel
theorem d_R_isClosedFor_91 : decode b_R_isClosedFor 91 = .ok (.iconst 0, 1) := by decide +kernel
theorem d_R_isClosedFor_92 : decode b_R_isClosedFor 92 = .ok (.ireturn, 1) := by decide +kernel
theorem d_R_hasRoomForCards_0 : decode b_R_hasRoomForCards 0 = .ok (.aload_n 0, 1) := by decide +kernel
theorem d_R_hasRoomForCards_1 : decode b_R_hasRoomForCards 1 = .ok (.getfield 40, 3) := by decide +kernel
theorem d_R_hasRoomForCards_4 : decode b_R_hasRoomForCards 4 = .ok (.iload_n 1, 1) := by decide +kernel
theorem d_R_hasRoomForCards_5 : decode b_R_hasRoomForCards 5 = .ok (.iadd, 1) := by decide +kernel
theorem d_R_hasRoomForCards_6 : decode b_R_hasRoomForCards 6 = .ok (.bipush 20, 2) := by decide +kernel
theorem d_R_hasRoomForCards_8 : decode b_R_hasRoomForCards 8 = .ok (.if_icmp .gt 7, 3) := by decide +kernel
theorem d_R_hasRoomForCards_11 : decode b_R_hasRoomForCards 11 = .ok (.iconst 1, 1) := by decide +kernel
theorem d_R_hasRoomForCards_12 : decode b_R_hasRoomForCards 12 = .ok (.goto 4, 3) := by decide +kernel
theorem d_R_hasRoomForCards_15 : decode b_R_hasRoomForCards 15 = .ok (.iconst 0, 1) := by decide +kernel
theorem d_R_hasRoomForCards_16 : decode b_R_hasRoomForCards 16 = .ok (.ireturn, 1) := by decide +kernel
theorem d_R_insertCards_0 : decode b_R_insertCards 0 = .ok (.aload_n 0, 1) := by decide +kernel
theorem d_R_insertCards_1 : decode b_R_insertCards 1 = .ok (.getfield 40, 3) := by decide +kernel
theorem d_R_insertCards_4 : decode b_R_insertCards 4 = .ok (.istore_n 3, 1) := by decide +kernel
theorem d_R_insertCards_5 : decode b_R_insertCards 5 = .ok (.iconst 0, 1) := by decide +kernel
theorem d_R_insertCards_6 : decode b_R_insertCards 6 = .ok (.istore 4, 2) := by decide +kernel
theorem d_R_insertCards_8 : decode b_R_insertCards 8 = .ok (.iload 4, 2) := by decide +kernel
theorem d_R_insertCards_10 : decode b_R_insertCards 10 = .ok (.iload_n 2, 1) := by decide +kernel
theorem d_R_insertCards_11 : decode b_R_insertCards 11 = .ok (.if_icmp .ge 16, 3) := by decide +kernel
theorem d_R_insertCards_14 : decode b_R_insertCards 14 = .ok (.aload_n 0, 1) := by decide +kernel
theorem d_R_insertCards_15 : decode b_R_insertCards 15 = .ok (.aload_n 1, 1) := by decide +kernel
theorem d_R_insertCards_16 : decode b_R_insertCards 16 = .ok (.aconst_null, 1) := by decide +kernel
theorem d_R_insertCards_17 : decode b_R_insertCards 17 = .ok (.invokevirtual 71, 3) := by decide +kernel
theorem d_R_insertCards_20 : decode b_R_insertCards 20 = .ok (.pop, 1) := by decide +kernel
theorem d_R_insertCards_21 : decode b_R_insertCards 21 = .ok (.iinc 4 1, 3) := by decide +kernel
theorem d_R_insertCards_24 : decode b_R_insertCards 24 = .ok (.goto (-16), 3) := by decide +kernel
theorem d_R_insertCards_27 : decode b_R_insertCards 27 = .ok (.iload_n 3, 1) := by decide +kernel
theorem d_R_insertCards_28 : decode b_R_insertCards 28 = .ok (.ireturn, 1) := by decide +kernel
theorem d_R_insertCard_0 : decode b_R_insertCard 0 = .ok (.new 23, 3) := by decide +kernel
theorem d_R_insertCard_3 : decode b_R_insertCard 3 = .ok (.dup, 1) := by decide +kernel
theorem d_R_insertCard_4 : decode b_R_insertCard 4 = .ok (.aload_n 0, 1) := by decide +kernel
theorem d_R_insertCard_5 : decode b_R_insertCard 5 = .ok (.getfield 40, 3) := by decide +kernel
theorem d_R_insertCard_8 : decode b_R_insertCard 8 = .ok (.aload_n 1, 1) := by decide +kernel
theorem d_R_insertCard_9 : decode b_R_insertCard 9 = .ok (.iconst 0, 1) := by decide +kernel
theorem d_R_insertCard_10 : decode b_R_insertCard 10 = .ok (.iconst (-1), 1) := by decide +kernel
theorem d_R_insertCard_11 : decode b_R_insertCard 11 = .ok (.iconst 0, 1) := by decide +kernel
theorem d_R_insertCard_12 : decode b_R_insertCard 12 = .ok (.aload_n 2, 1) := by decide +kernel
theorem d_R_insertCard_13 : decode b_R_insertCard 13 = .ok (.invokespecial 75, 3) := by decide +kernel
theorem d_R_insertCard_16 : decode b_R_insertCard 16 = .ok (.astore_n 3, 1) := by decide +kernel
theorem d_R_insertCard_17 : decode b_R_insertCard 17 = .ok (.aload_n 0, 1) := by decide +kernel
theorem d_R_insertCard_18 : decode b_R_insertCard 18 = .ok (.aload_n 3, 1) := by decide +kernel
theorem d_R_insertCard_19 : decode b_R_insertCard 19 = .ok (.invokevirtual 78, 3) := by decide +kernel
theorem d_R_insertCard_22 : decode b_R_insertCard 22 = .ok (.aload_n 0, 1) := by decide +kernel
theorem d_R_insertCard_23 : decode b_R_insertCard 23 = .ok (.dup, 1) := by decide +kernel
theorem d_R_insertCard_24 : decode b_R_insertCard 24 = .ok (.getfield 40, 3) := by decide +kernel
theorem d_R_insertCard_27 : decode b_R_insertCard 27 = .ok (.iconst 1, 1) := by decide +kernel
theorem d_R_insertCard_28 : decode b_R_insertCard 28 = .ok (.iadd, 1) := by decide +kernel
theorem d_R_insertCard_29 : decode b_R_insertCard 29 = .ok (.putfield 40, 3) := by decide +kernel
theorem d_R_insertCard_32 : decode b_R_insertCard 32 = .ok (.aload_n 3, 1) := by decide +kernel
theorem d_R_insertCard_33 : decode b_R_insertCard 33 = .ok (.getfield 82, 3) := by decide +kernel
theorem d_R_insertCard_36 : decode b_R_insertCard 36 = .ok (.ireturn, 1) := by decide +kernel
theorem d_R_putCard_0 : decode b_R_putCard 0 = .ok (.aload_n 1, 1) := by decide +kernel
theorem d_R_putCard_1 : decode b_R_putCard 1 = .ok (.getfield 82, 3) := by decide +kernel
theorem d_R_putCard_4 : decode b_R_putCard 4 = .ok (.ifCond .lt 25, 3) := by decide +kernel
theorem d_R_putCard_7 : decode b_R_putCard 7 = .ok (.aload_n 1, 1) := by decide +kernel
theorem d_R_putCard_8 : decode b_R_putCard 8 = .ok (.getfield 82, 3) := by decide +kernel
theorem d_R_putCard_11 : decode b_R_putCard 11 = .ok (.aload_n 0, 1) := by decide +kernel
theorem d_R_putCard_12 : decode b_R_putCard 12 = .ok (.getfield 25, 3) := by decide +kernel
theorem d_R_putCard_15 : decode b_R_putCard 15 = .ok (.arraylength, 1) := by decide +kernel
theorem d_R_putCard_16 : decode b_R_putCard 16 = .ok (.if_icmp .ge 13, 3) := by decide +kernel
theorem d_R_putCard_19 : decode b_R_putCard 19 = .ok (.aload_n 0, 1) := by decide +kernel
theorem d_R_putCard_20 : decode b_R_putCard 20 = .ok (.getfield 25, 3) := by decide +kernel
theorem d_R_putCard_23 : decode b_R_putCard 23 = .ok (.aload_n 1, 1) := by decide +kernel
theorem d_R_putCard_24 : decode b_R_putCard 24 = .ok (.getfield 82, 3) := by decide +kernel
theorem d_R_putCard_27 : decode b_R_putCard 27 = .ok (.aload_n 1, 1) := by decide +kernel
theorem d_R_putCard_28 : decode b_R_putCard 28 = .ok (.aastore, 1) := by decide +kernel
theorem d_R_putCard_29 : decode b_R_putCard 29 = .ok (.return_, 1) := by decide +kernel
theorem d_R_cardAt_0 : decode b_R_cardAt 0 = .ok (.iload_n 1, 1) := by decide +kernel
theorem d_R_cardAt_1 : decode b_R_cardAt 1 = .ok (.ifCond .lt 21, 3) := by decide +kernel
theorem d_R_cardAt_4 : decode b_R_cardAt 4 = .ok (.iload_n 1, 1) := by decide +kernel
theorem d_R_cardAt_5 : decode b_R_cardAt 5 = .ok (.aload_n 0, 1) := by decide +kernel
theorem d_R_cardAt_6 : decode b_R_cardAt 6 = .ok (.getfield 25, 3) := by decide +kernel
theorem d_R_cardAt_9 : decode b_R_cardAt 9 = .ok (.arraylength, 1) := by decide +kernel
theorem d_R_cardAt_10 : decode b_R_cardAt 10 = .ok (.if_icmp .ge 12, 3) := by decide +kernel
theorem d_R_cardAt_13 : decode b_R_cardAt 13 = .ok (.aload_n 0, 1) := by decide +kernel
theorem d_R_cardAt_14 : decode b_R_cardAt 14 = .ok (.getfield 25, 3) := by decide +kernel
theorem d_R_cardAt_17 : decode b_R_cardAt 17 = .ok (.iload_n 1, 1) := by decide +kernel
theorem d_R_cardAt_18 : decode b_R_cardAt 18 = .ok (.aaload, 1) := by decide +kernel
theorem d_R_cardAt_19 : decode b_R_cardAt 19 = .ok (.goto 4, 3) := by decide +kernel
theorem d_R_cardAt_22 : decode b_R_cardAt 22 = .ok (.aconst_null, 1) := by decide +kernel
theorem d_R_cardAt_23 : decode b_R_cardAt 23 = .ok (.areturn, 1) := by decide +kernel
theorem d_R_reasonAgainst_0 : decode b_R_reasonAgainst 0 = .ok (.aload_n 0, 1) := by decide +kernel
theorem d_R_reasonAgainst_1 : decode b_R_reasonAgainst 1 = .ok (.aload_n 2, 1) := by decide +kernel
theorem d_R_reasonAgainst_2 : decode b_R_reasonAgainst 2 = .ok (.invokevirtual 124, 3) := by decide +kernel
theorem d_R_reasonAgainst_5 : decode b_R_reasonAgainst 5 = .ok (.ifCond .eq 6, 3) := by decide +kernel
theorem d_R_reasonAgainst_8 : decode b_R_reasonAgainst 8 = .ok (.bipush 11, 2) := by decide +kernel
theorem d_R_reasonAgainst_10 : decode b_R_reasonAgainst 10 = .ok (.ireturn, 1) := by decide +kernel
theorem d_R_reasonAgainst_11 : decode b_R_reasonAgainst 11 = .ok (.aload_n 1, 1) := by decide +kernel
theorem d_R_reasonAgainst_12 : decode b_R_reasonAgainst 12 = .ok (.getfield 150, 3) := by decide +kernel
theorem d_R_reasonAgainst_15 : decode b_R_reasonAgainst 15 = .ok (.ifCond .eq 11, 3) := by decide +kernel
theorem d_R_reasonAgainst_18 : decode b_R_reasonAgainst 18 = .ok (.bipush 20, 2) := by decide +kernel
theorem d_R_reasonAgainst_20 : decode b_R_reasonAgainst 20 = .ok (.aload_n 1, 1) := by decide +kernel
theorem d_R_reasonAgainst_21 : decode b_R_reasonAgainst 21 = .ok (.getfield 150, 3) := by decide +kernel
theorem d_R_reasonAgainst_24 : decode b_R_reasonAgainst 24 = .ok (.iadd, 1) := by decide +kernel
theorem d_R_reasonAgainst_25 : decode b_R_reasonAgainst 25 = .ok (.ireturn, 1) := by decide +kernel
theorem d_R_reasonAgainst_26 : decode b_R_reasonAgainst 26 = .ok (.aload_n 1, 1) := by decide +kernel
theorem d_R_reasonAgainst_27 : decode b_R_reasonAgainst 27 = .ok (.getfield 87, 3) := by decide +kernel
theorem d_R_reasonAgainst_30 : decode b_R_reasonAgainst 30 = .ok (.aload_n 2, 1) := by decide +kernel
theorem d_R_reasonAgainst_31 : decode b_R_reasonAgainst 31 = .ok (.getfield 143, 3) := by decide +kernel
theorem d_R_reasonAgainst_34 : decode b_R_reasonAgainst 34 = .ok (.invokevirtual 146, 3) := by decide +kernel
theorem d_R_reasonAgainst_37 : decode b_R_reasonAgainst 37 = .ok (.ifCond .ne 6, 3) := by decide +kernel
theorem d_R_reasonAgainst_40 : decode b_R_reasonAgainst 40 = .ok (.bipush 31, 2) := by decide +kernel
theorem d_R_reasonAgainst_42 : decode b_R_reasonAgainst 42 = .ok (.ireturn, 1) := by decide +kernel
theorem d_R_reasonAgainst_43 : decode b_R_reasonAgainst 43 = .ok (.aload_n 1, 1) := by decide +kernel
theorem d_R_reasonAgainst_44 : decode b_R_reasonAgainst 44 = .ok (.getfield 87, 3) := by decide +kernel
theorem d_R_reasonAgainst_47 : decode b_R_reasonAgainst 47 = .ok (.aload_n 0, 1) := by decide +kernel
theorem d_R_reasonAgainst_48 : decode b_R_reasonAgainst 48 = .ok (.invokevirtual 153, 3) := by decide +kernel
theorem d_R_reasonAgainst_51 : decode b_R_reasonAgainst 51 = .ok (.invokevirtual 157, 3) := by decide +kernel
theorem d_R_reasonAgainst_54 : decode b_R_reasonAgainst 54 = .ok (.ifCond .ne 6, 3) := by decide +kernel
theorem d_R_reasonAgainst_57 : decode b_R_reasonAgainst 57 = .ok (.bipush 32, 2) := by decide +kernel
theorem d_R_reasonAgainst_59 : decode b_R_reasonAgainst 59 = .ok (.ireturn, 1) := by decide +kernel
theorem d_R_reasonAgainst_60 : decode b_R_reasonAgainst 60 = .ok (.aload_n 1, 1) := by decide +kernel
theorem d_R_reasonAgainst_61 : decode b_R_reasonAgainst 61 = .ok (.aload_n 0, 1) := by decide +kernel
theorem d_R_reasonAgainst_62 : decode b_R_reasonAgainst 62 = .ok (.invokevirtual 160, 3) := by decide +kernel
theorem d_R_reasonAgainst_65 : decode b_R_reasonAgainst 65 = .ok (.invokevirtual 163, 3) := by decide +kernel
theorem d_R_reasonAgainst_68 : decode b_R_reasonAgainst 68 = .ok (.ifCond .ne 6, 3) := by decide +kernel
theorem d_R_reasonAgainst_71 : decode b_R_reasonAgainst 71 = .ok (.bipush 33, 2) := by decide +kernel
theorem d_R_reasonAgainst_73 : decode b_R_reasonAgainst 73 = .ok (.ireturn, 1) := by decide +kernel
theorem d_R_reasonAgainst_74 : decode b_R_reasonAgainst 74 = .ok (.aload_n 0, 1) := by decide +kernel
theorem d_R_reasonAgainst_75 : decode b_R_reasonAgainst 75 = .ok (.aload_n 1, 1) := by decide +kernel
theorem d_R_reasonAgainst_76 : decode b_R_reasonAgainst 76 = .ok (.getfield 91, 3) := by decide +kernel
theorem d_R_reasonAgainst_79 : decode b_R_reasonAgainst 79 = .ok (.aload_n 2, 1) := by decide +kernel
theorem d_R_reasonAgainst_80 : decode b_R_reasonAgainst 80 = .ok (.invokevirtual 166, 3) := by decide +kernel
theorem d_R_reasonAgainst_83 : decode b_R_reasonAgainst 83 = .ok (.ireturn, 1) := by decide +kernel
theorem d_R_reasonOfWay_0 : decode b_R_reasonOfWay 0 = .ok (.aload_n 1, 1) := by decide +kernel
theorem d_R_reasonOfWay_1 : decode b_R_reasonOfWay 1 = .ok (.ifnonnull 5, 3) := by decide +kernel
theorem d_R_reasonOfWay_4 : decode b_R_reasonOfWay 4 = .ok (.iconst 0, 1) := by decide +kernel
theorem d_R_reasonOfWay_5 : decode b_R_reasonOfWay 5 = .ok (.ireturn, 1) := by decide +kernel
theorem d_R_reasonOfWay_6 : decode b_R_reasonOfWay 6 = .ok (.aload_n 0, 1) := by decide +kernel
theorem d_R_reasonOfWay_7 : decode b_R_reasonOfWay 7 = .ok (.getfield 46, 3) := by decide +kernel
theorem d_R_reasonOfWay_10 : decode b_R_reasonOfWay 10 = .ok (.aload_n 1, 1) := by decide +kernel
theorem d_R_reasonOfWay_11 : decode b_R_reasonOfWay 11 = .ok (.getfield 170, 3) := by decide +kernel
theorem d_R_reasonOfWay_14 : decode b_R_reasonOfWay 14 = .ok (.isub, 1) := by decide +kernel
theorem d_R_reasonOfWay_15 : decode b_R_reasonOfWay 15 = .ok (.istore_n 3, 1) := by decide +kernel
theorem d_R_reasonOfWay_16 : decode b_R_reasonOfWay 16 = .ok (.iload_n 3, 1) := by decide +kernel
theorem d_R_reasonOfWay_17 : decode b_R_reasonOfWay 17 = .ok (.aload_n 1, 1) := by decide +kernel
theorem d_R_reasonOfWay_18 : decode b_R_reasonOfWay 18 = .ok (.getfield 173, 3) := by decide +kernel
theorem d_R_reasonOfWay_21 : decode b_R_reasonOfWay 21 = .ok (.aload_n 2, 1) := by decide +kernel
theorem d_R_reasonOfWay_22 : decode b_R_reasonOfWay 22 = .ok (.invokevirtual 177, 3) := by decide +kernel
theorem d_R_reasonOfWay_25 : decode b_R_reasonOfWay 25 = .ok (.if_icmp .ge 6, 3) := by decide +kernel
theorem d_R_reasonOfWay_28 : decode b_R_reasonOfWay 28 = .ok (.bipush 41, 2) := by decide +kernel
theorem d_R_reasonOfWay_30 : decode b_R_reasonOfWay 30 = .ok (.ireturn, 1) := by decide +kernel
theorem d_R_reasonOfWay_31 : decode b_R_reasonOfWay 31 = .ok (.aload_n 1, 1) := by decide +kernel
theorem d_R_reasonOfWay_32 : decode b_R_reasonOfWay 32 = .ok (.getfield 173, 3) := by decide +kernel
theorem d_R_reasonOfWay_35 : decode b_R_reasonOfWay 35 = .ok (.getfield 67, 3) := by decide +kernel
theorem d_R_reasonOfWay_38 : decode b_R_reasonOfWay 38 = .ok (.aload_n 2, 1) := by decide +kernel
theorem d_R_reasonOfWay_39 : decode b_R_reasonOfWay 39 = .ok (.getfield 67, 3) := by decide +kernel
theorem d_R_reasonOfWay_42 : decode b_R_reasonOfWay 42 = .ok (.if_icmp .ne 7, 3) := by decide +kernel
theorem d_R_reasonOfWay_45 : decode b_R_reasonOfWay 45 = .ok (.iconst 1, 1) := by decide +kernel
theorem d_R_reasonOfWay_46 : decode b_R_reasonOfWay 46 = .ok (.goto 4, 3) := by decide +kernel
theorem d_R_reasonOfWay_49 : decode b_R_reasonOfWay 49 = .ok (.iconst 0, 1) := by decide +kernel
theorem d_R_reasonOfWay_50 : decode b_R_reasonOfWay 50 = .ok (.istore 4, 2) := by decide +kernel
theorem d_R_reasonOfWay_52 : decode b_R_reasonOfWay 52 = .ok (.iload 4, 2) := by decide +kernel
theorem d_R_reasonOfWay_54 : decode b_R_reasonOfWay 54 = .ok (.ifCond .eq 13, 3) := by decide +kernel
theorem d_R_reasonOfWay_57 : decode b_R_reasonOfWay 57 = .ok (.iload_n 3, 1) := by decide +kernel
theorem d_R_reasonOfWay_58 : decode b_R_reasonOfWay 58 = .ok (.iconst 5, 1) := by decide +kernel
theorem d_R_reasonOfWay_59 : decode b_R_reasonOfWay 59 = .ok (.if_icmp .ge 8, 3) := by decide +kernel
theorem d_R_reasonOfWay_62 : decode b_R_reasonOfWay 62 = .ok (.bipush 42, 2) := by decide +kernel
theorem d_R_reasonOfWay_64 : decode b_R_reasonOfWay 64 = .ok (.goto 4, 3) := by decide +kernel
theorem d_R_reasonOfWay_67 : decode b_R_reasonOfWay 67 = .ok (.iconst 0, 1) := by decide +kernel
theorem d_R_reasonOfWay_68 : decode b_R_reasonOfWay 68 = .ok (.ireturn, 1) := by decide +kernel
theorem d_R_addRide_0 : decode b_R_addRide 0 = .ok (.new 106, 3) := by decide +kernel
theorem d_R_addRide_3 : decode b_R_addRide 3 = .ok (.dup, 1) := by decide +kernel
theorem d_R_addRide_4 : decode b_R_addRide 4 = .ok (.aload_n 1, 1) := by decide +kernel
theorem d_R_addRide_5 : decode b_R_addRide 5 = .ok (.getfield 91, 3) := by decide +kernel
theorem d_R_addRide_8 : decode b_R_addRide 8 = .ok (.aload_n 2, 1) := by decide +kernel
theorem d_R_addRide_9 : decode b_R_addRide 9 = .ok (.aload_n 0, 1) := by decide +kernel
theorem d_R_addRide_10 : decode b_R_addRide 10 = .ok (.getfield 46, 3) := by decide +kernel
theorem d_R_addRide_13 : decode b_R_addRide 13 = .ok (.invokespecial 108, 3) := by decide +kernel
theorem d_R_addRide_16 : decode b_R_addRide 16 = .ok (.astore_n 3, 1) := by decide +kernel
theorem d_R_addRide_17 : decode b_R_addRide 17 = .ok (.aload_n 0, 1) := by decide +kernel
theorem d_R_addRide_18 : decode b_R_addRide 18 = .ok (.aload_n 1, 1) := by decide +kernel
theorem d_R_addRide_19 : decode b_R_addRide 19 = .ok (.aload_n 3, 1) := by decide +kernel
theorem d_R_addRide_20 : decode b_R_addRide 20 = .ok (.invokevirtual 111, 3) := by decide +kernel
theorem d_R_addRide_23 : decode b_R_addRide 23 = .ok (.invokevirtual 78, 3) := by decide +kernel
theorem d_R_addRide_26 : decode b_R_addRide 26 = .ok (.aload_n 3, 1) := by decide +kernel
theorem d_R_addRide_27 : decode b_R_addRide 27 = .ok (.getfield 115, 3) := by decide +kernel
theorem d_R_addRide_30 : decode b_R_addRide 30 = .ok (.ireturn, 1) := by decide +kernel
theorem d_R_gatesThatLetPass_0 : decode b_R_gatesThatLetPass 0 = .ok (.iconst 0, 1) := by decide +kernel
theorem d_R_gatesThatLetPass_1 : decode b_R_gatesThatLetPass 1 = .ok (.istore_n 2, 1) := by decide +kernel
theorem d_R_gatesThatLetPass_2 : decode b_R_gatesThatLetPass 2 = .ok (.aload_n 0, 1) := by decide +kernel
theorem d_R_gatesThatLetPass_3 : decode b_R_gatesThatLetPass 3 = .ok (.getfield 11, 3) := by decide +kernel
theorem d_R_gatesThatLetPass_6 : decode b_R_gatesThatLetPass 6 = .ok (.astore_n 3, 1) := by decide +kernel
theorem d_R_gatesThatLetPass_7 : decode b_R_gatesThatLetPass 7 = .ok (.aload_n 3, 1) := by decide +kernel
theorem d_R_gatesThatLetPass_8 : decode b_R_gatesThatLetPass 8 = .ok (.arraylength, 1) := by decide +kernel
theorem d_R_gatesThatLetPass_9 : decode b_R_gatesThatLetPass 9 = .ok (.istore 4, 2) := by decide +kernel
theorem d_R_gatesThatLetPass_11 : decode b_R_gatesThatLetPass 11 = .ok (.iconst 0, 1) := by decide +kernel
theorem d_R_gatesThatLetPass_12 : decode b_R_gatesThatLetPass 12 = .ok (.istore 5, 2) := by decide +kernel
theorem d_R_gatesThatLetPass_14 : decode b_R_gatesThatLetPass 14 = .ok (.iload 5, 2) := by decide +kernel
theorem d_R_gatesThatLetPass_16 : decode b_R_gatesThatLetPass 16 = .ok (.iload 4, 2) := by decide +kernel
theorem d_R_gatesThatLetPass_18 : decode b_R_gatesThatLetPass 18 = .ok (.if_icmp .ge 40, 3) := by decide +kernel
theorem d_R_gatesThatLetPass_21 : decode b_R_gatesThatLetPass 21 = .ok (.aload_n 3, 1) := by decide +kernel
theorem d_R_gatesThatLetPass_22 : decode b_R_gatesThatLetPass 22 = .ok (.iload 5, 2) := by decide +kernel
theorem d_R_gatesThatLetPass_24 : decode b_R_gatesThatLetPass 24 = .ok (.aaload, 1) := by decide +kernel
theorem d_R_gatesThatLetPass_25 : decode b_R_gatesThatLetPass 25 = .ok (.astore 6, 2) := by decide +kernel
theorem d_R_gatesThatLetPass_27 : decode b_R_gatesThatLetPass 27 = .ok (.aload 6, 2) := by decide +kernel
theorem d_R_gatesThatLetPass_29 : decode b_R_gatesThatLetPass 29 = .ok (.ifnull 23, 3) := by decide +kernel
theorem d_R_gatesThatLetPass_32 : decode b_R_gatesThatLetPass 32 = .ok (.aload_n 0, 1) := by decide +kernel
theorem d_R_gatesThatLetPass_33 : decode b_R_gatesThatLetPass 33 = .ok (.aload_n 1, 1) := by decide +kernel
theorem d_R_gatesThatLetPass_34 : decode b_R_gatesThatLetPass 34 = .ok (.aload 6, 2) := by decide +kernel
theorem d_R_gatesThatLetPass_36 : decode b_R_gatesThatLetPass 36 = .ok (.invokevirtual 181, 3) := by decide +kernel
theorem d_R_gatesThatLetPass_39 : decode b_R_gatesThatLetPass 39 = .ok (.ifCond .ne 13, 3) := by decide +kernel
theorem d_R_gatesThatLetPass_42 : decode b_R_gatesThatLetPass 42 = .ok (.iload_n 2, 1) := by decide +kernel
theorem d_R_gatesThatLetPass_43 : decode b_R_gatesThatLetPass 43 = .ok (.iconst 1, 1) := by decide +kernel
theorem d_R_gatesThatLetPass_44 : decode b_R_gatesThatLetPass 44 = .ok (.aload 6, 2) := by decide +kernel
theorem d_R_gatesThatLetPass_46 : decode b_R_gatesThatLetPass 46 = .ok (.getfield 67, 3) := by decide +kernel
theorem d_R_gatesThatLetPass_49 : decode b_R_gatesThatLetPass 49 = .ok (.ishl, 1) := by decide +kernel
theorem d_R_gatesThatLetPass_50 : decode b_R_gatesThatLetPass 50 = .ok (.ior, 1) := by decide +kernel
theorem d_R_gatesThatLetPass_51 : decode b_R_gatesThatLetPass 51 = .ok (.istore_n 2, 1) := by decide +kernel
theorem d_R_gatesThatLetPass_52 : decode b_R_gatesThatLetPass 52 = .ok (.iinc 5 1, 3) := by decide +kernel
theorem d_R_gatesThatLetPass_55 : decode b_R_gatesThatLetPass 55 = .ok (.goto (-41), 3) := by decide +kernel
theorem d_R_gatesThatLetPass_58 : decode b_R_gatesThatLetPass 58 = .ok (.iload_n 2, 1) := by decide +kernel
theorem d_R_gatesThatLetPass_59 : decode b_R_gatesThatLetPass 59 = .ok (.ireturn, 1) := by decide +kernel
theorem d_R_setBlocked_0 : decode b_R_setBlocked 0 = .ok (.aload_n 0, 1) := by decide +kernel
theorem d_R_setBlocked_1 : decode b_R_setBlocked 1 = .ok (.aload_n 1, 1) := by decide +kernel
theorem d_R_setBlocked_2 : decode b_R_setBlocked 2 = .ok (.iload_n 2, 1) := by decide +kernel
theorem d_R_setBlocked_3 : decode b_R_setBlocked 3 = .ok (.invokevirtual 83, 3) := by decide +kernel
theorem d_R_setBlocked_6 : decode b_R_setBlocked 6 = .ok (.invokevirtual 78, 3) := by decide +kernel
theorem d_R_setBlocked_9 : decode b_R_setBlocked 9 = .ok (.return_, 1) := by decide +kernel
theorem d_R_exchange_0 : decode b_R_exchange 0 = .ok (.aload_n 0, 1) := by decide +kernel
theorem d_R_exchange_1 : decode b_R_exchange 1 = .ok (.aload_n 1, 1) := by decide +kernel
theorem d_R_exchange_2 : decode b_R_exchange 2 = .ok (.getfield 87, 3) := by decide +kernel
theorem d_R_exchange_5 : decode b_R_exchange 5 = .ok (.aload_n 1, 1) := by decide +kernel
theorem d_R_exchange_6 : decode b_R_exchange 6 = .ok (.getfield 91, 3) := by decide +kernel
theorem d_R_exchange_9 : decode b_R_exchange 9 = .ok (.invokevirtual 71, 3) := by decide +kernel
theorem d_R_exchange_12 : decode b_R_exchange 12 = .ok (.istore_n 2, 1) := by decide +kernel
theorem d_R_exchange_13 : decode b_R_exchange 13 = .ok (.aload_n 0, 1) := by decide +kernel
theorem d_R_exchange_14 : decode b_R_exchange 14 = .ok (.aload_n 1, 1) := by decide +kernel
theorem d_R_exchange_15 : decode b_R_exchange 15 = .ok (.iload_n 2, 1) := by decide +kernel
theorem d_R_exchange_16 : decode b_R_exchange 16 = .ok (.invokevirtual 95, 3) := by decide +kernel
theorem d_R_exchange_19 : decode b_R_exchange 19 = .ok (.invokevirtual 78, 3) := by decide +kernel
theorem d_R_exchange_22 : decode b_R_exchange 22 = .ok (.iload_n 2, 1) := by decide +kernel
theorem d_R_exchange_23 : decode b_R_exchange 23 = .ok (.ireturn, 1) := by decide +kernel
theorem d_R_lastSuccessor_0 : decode b_R_lastSuccessor 0 = .ok (.aload_n 1, 1) := by decide +kernel
theorem d_R_lastSuccessor_1 : decode b_R_lastSuccessor 1 = .ok (.getfield 82, 3) := by decide +kernel
theorem d_R_lastSuccessor_4 : decode b_R_lastSuccessor 4 = .ok (.istore_n 2, 1) := by decide +kernel
theorem d_R_lastSuccessor_5 : decode b_R_lastSuccessor 5 = .ok (.iconst 0, 1) := by decide +kernel
theorem d_R_lastSuccessor_6 : decode b_R_lastSuccessor 6 = .ok (.istore_n 3, 1) := by decide +kernel
theorem d_R_lastSuccessor_7 : decode b_R_lastSuccessor 7 = .ok (.iload_n 3, 1) := by decide +kernel
theorem d_R_lastSuccessor_8 : decode b_R_lastSuccessor 8 = .ok (.bipush 20, 2) := by decide +kernel
theorem d_R_lastSuccessor_10 : decode b_R_lastSuccessor 10 = .ok (.if_icmp .ge 38, 3) := by decide +kernel
theorem d_R_lastSuccessor_13 : decode b_R_lastSuccessor 13 = .ok (.aload_n 0, 1) := by decide +kernel
theorem d_R_lastSuccessor_14 : decode b_R_lastSuccessor 14 = .ok (.iload_n 2, 1) := by decide +kernel
theorem d_R_lastSuccessor_15 : decode b_R_lastSuccessor 15 = .ok (.invokevirtual 118, 3) := by decide +kernel
theorem d_R_lastSuccessor_18 : decode b_R_lastSuccessor 18 = .ok (.astore 4, 2) := by decide +kernel
theorem d_R_lastSuccessor_20 : decode b_R_lastSuccessor 20 = .ok (.aload 4, 2) := by decide +kernel
theorem d_R_lastSuccessor_22 : decode b_R_lastSuccessor 22 = .ok (.ifnull 12, 3) := by decide +kernel
theorem d_R_lastSuccessor_25 : decode b_R_lastSuccessor 25 = .ok (.aload 4, 2) := by decide +kernel
theorem d_R_lastSuccessor_27 : decode b_R_lastSuccessor 27 = .ok (.getfield 121, 3) := by decide +kernel
theorem d_R_lastSuccessor_30 : decode b_R_lastSuccessor 30 = .ok (.iconst (-1), 1) := by decide +kernel
theorem d_R_lastSuccessor_31 : decode b_R_lastSuccessor 31 = .ok (.if_icmp .ne 5, 3) := by decide +kernel
theorem d_R_lastSuccessor_34 : decode b_R_lastSuccessor 34 = .ok (.iload_n 2, 1) := by decide +kernel
theorem d_R_lastSuccessor_35 : decode b_R_lastSuccessor 35 = .ok (.ireturn, 1) := by decide +kernel
theorem d_R_lastSuccessor_36 : decode b_R_lastSuccessor 36 = .ok (.aload 4, 2) := by decide +kernel
theorem d_R_lastSuccessor_38 : decode b_R_lastSuccessor 38 = .ok (.getfield 121, 3) := by decide +kernel
theorem d_R_lastSuccessor_41 : decode b_R_lastSuccessor 41 = .ok (.istore_n 2, 1) := by decide +kernel
theorem d_R_lastSuccessor_42 : decode b_R_lastSuccessor 42 = .ok (.iinc 3 1, 3) := by decide +kernel
theorem d_R_lastSuccessor_45 : decode b_R_lastSuccessor 45 = .ok (.goto (-38), 3) := by decide +kernel
theorem d_R_lastSuccessor_48 : decode b_R_lastSuccessor 48 = .ok (.iload_n 2, 1) := by decide +kernel
theorem d_R_lastSuccessor_49 : decode b_R_lastSuccessor 49 = .ok (.ireturn, 1) := by decide +kernel
theorem d_R_refundFor_0 : decode b_R_refundFor 0 = .ok (.aload_n 1, 1) := by decide +kernel
theorem d_R_refundFor_1 : decode b_R_refundFor 1 = .ok (.invokevirtual 200, 3) := by decide +kernel
theorem d_R_refundFor_4 : decode b_R_refundFor 4 = .ok (.ifCond .eq 7, 3) := by decide +kernel
theorem d_R_refundFor_7 : decode b_R_refundFor 7 = .ok (.iconst 0, 1) := by decide +kernel
theorem d_R_refundFor_8 : decode b_R_refundFor 8 = .ok (.goto 16, 3) := by decide +kernel
theorem d_R_refundFor_11 : decode b_R_refundFor 11 = .ok (.aload_n 1, 1) := by decide +kernel
theorem d_R_refundFor_12 : decode b_R_refundFor 12 = .ok (.getfield 87, 3) := by decide +kernel
theorem d_R_refundFor_15 : decode b_R_refundFor 15 = .ok (.invokevirtual 203, 3) := by decide +kernel
theorem d_R_refundFor_18 : decode b_R_refundFor 18 = .ok (.aload_n 0, 1) := by decide +kernel
theorem d_R_refundFor_19 : decode b_R_refundFor 19 = .ok (.aload_n 1, 1) := by decide +kernel
theorem d_R_refundFor_20 : decode b_R_refundFor 20 = .ok (.invokevirtual 206, 3) := by decide +kernel
theorem d_R_refundFor_23 : decode b_R_refundFor 23 = .ok (.imul, 1) := by decide +kernel
theorem d_R_refundFor_24 : decode b_R_refundFor 24 = .ok (.ireturn, 1) := by decide +kernel
theorem d_R_closedDaysOf_0 : decode b_R_closedDaysOf 0 = .ok (.iconst 0, 1) := by decide +kernel
theorem d_R_closedDaysOf_1 : decode b_R_closedDaysOf 1 = .ok (.istore_n 2, 1) := by decide +kernel
theorem d_R_closedDaysOf_2 : decode b_R_closedDaysOf 2 = .ok (.iconst 0, 1) := by decide +kernel
theorem d_R_closedDaysOf_3 : decode b_R_closedDaysOf 3 = .ok (.istore_n 3, 1) := by decide +kernel
theorem d_R_closedDaysOf_4 : decode b_R_closedDaysOf 4 = .ok (.iload_n 3, 1) := by decide +kernel
theorem d_R_closedDaysOf_5 : decode b_R_closedDaysOf 5 = .ok (.bipush 31, 2) := by decide +kernel
theorem d_R_closedDaysOf_7 : decode b_R_closedDaysOf 7 = .ok (.if_icmp .ge 53, 3) := by decide +kernel
theorem d_R_closedDaysOf_10 : decode b_R_closedDaysOf 10 = .ok (.aload_n 1, 1) := by decide +kernel
theorem d_R_closedDaysOf_11 : decode b_R_closedDaysOf 11 = .ok (.invokevirtual 209, 3) := by decide +kernel
theorem d_R_closedDaysOf_14 : decode b_R_closedDaysOf 14 = .ok (.iload_n 3, 1) := by decide +kernel
theorem d_R_closedDaysOf_15 : decode b_R_closedDaysOf 15 = .ok (.ishr, 1) := by decide +kernel
theorem d_R_closedDaysOf_16 : decode b_R_closedDaysOf 16 = .ok (.iconst 1, 1) := by decide +kernel
theorem d_R_closedDaysOf_17 : decode b_R_closedDaysOf 17 = .ok (.iand, 1) := by decide +kernel
theorem d_R_closedDaysOf_18 : decode b_R_closedDaysOf 18 = .ok (.iconst 1, 1) := by decide +kernel
theorem d_R_closedDaysOf_19 : decode b_R_closedDaysOf 19 = .ok (.if_icmp .ne 7, 3) := by decide +kernel
theorem d_R_closedDaysOf_22 : decode b_R_closedDaysOf 22 = .ok (.iconst 1, 1) := by decide +kernel
theorem d_R_closedDaysOf_23 : decode b_R_closedDaysOf 23 = .ok (.goto 4, 3) := by decide +kernel
theorem d_R_closedDaysOf_26 : decode b_R_closedDaysOf 26 = .ok (.iconst 0, 1) := by decide +kernel
theorem d_R_closedDaysOf_27 : decode b_R_closedDaysOf 27 = .ok (.istore 4, 2) := by decide +kernel
theorem d_R_closedDaysOf_29 : decode b_R_closedDaysOf 29 = .ok (.iload_n 2, 1) := by decide +kernel
theorem d_R_closedDaysOf_30 : decode b_R_closedDaysOf 30 = .ok (.iload 4, 2) := by decide +kernel
theorem d_R_closedDaysOf_32 : decode b_R_closedDaysOf 32 = .ok (.ifCond .eq 19, 3) := by decide +kernel
theorem d_R_closedDaysOf_35 : decode b_R_closedDaysOf 35 = .ok (.aload_n 0, 1) := by decide +kernel
theorem d_R_closedDaysOf_36 : decode b_R_closedDaysOf 36 = .ok (.aload_n 1, 1) := by decide +kernel
theorem d_R_closedDaysOf_37 : decode b_R_closedDaysOf 37 = .ok (.getfield 87, 3) := by decide +kernel
theorem d_R_closedDaysOf_40 : decode b_R_closedDaysOf 40 = .ok (.iload_n 3, 1) := by decide +kernel
theorem d_R_closedDaysOf_41 : decode b_R_closedDaysOf 41 = .ok (.invokevirtual 212, 3) := by decide +kernel
theorem d_R_closedDaysOf_44 : decode b_R_closedDaysOf 44 = .ok (.ifCond .eq 7, 3) := by decide +kernel
theorem d_R_closedDaysOf_47 : decode b_R_closedDaysOf 47 = .ok (.iconst 1, 1) := by decide +kernel
theorem d_R_closedDaysOf_48 : decode b_R_closedDaysOf 48 = .ok (.goto 4, 3) := by decide +kernel
theorem d_R_closedDaysOf_51 : decode b_R_closedDaysOf 51 = .ok (.iconst 0, 1) := by decide +kernel
theorem d_R_closedDaysOf_52 : decode b_R_closedDaysOf 52 = .ok (.iadd, 1) := by decide +kernel
theorem d_R_closedDaysOf_53 : decode b_R_closedDaysOf 53 = .ok (.istore_n 2, 1) := by decide +kernel
theorem d_R_closedDaysOf_54 : decode b_R_closedDaysOf 54 = .ok (.iinc 3 1, 3) := by decide +kernel
theorem d_R_closedDaysOf_57 : decode b_R_closedDaysOf 57 = .ok (.goto (-53), 3) := by decide +kernel
theorem d_R_closedDaysOf_60 : decode b_R_closedDaysOf 60 = .ok (.iload_n 2, 1) := by decide +kernel
theorem d_R_closedDaysOf_61 : decode b_R_closedDaysOf 61 = .ok (.ireturn, 1) := by decide +kernel
theorem d_R_payBack_0 : decode b_R_payBack 0 = .ok (.aload_n 0, 1) := by decide +kernel
theorem d_R_payBack_1 : decode b_R_payBack 1 = .ok (.aload_n 1, 1) := by decide +kernel
theorem d_R_payBack_2 : decode b_R_payBack 2 = .ok (.invokevirtual 99, 3) := by decide +kernel
theorem d_R_payBack_5 : decode b_R_payBack 5 = .ok (.istore_n 2, 1) := by decide +kernel
theorem d_R_payBack_6 : decode b_R_payBack 6 = .ok (.aload_n 0, 1) := by decide +kernel
theorem d_R_payBack_7 : decode b_R_payBack 7 = .ok (.aload_n 1, 1) := by decide +kernel
theorem d_R_payBack_8 : decode b_R_payBack 8 = .ok (.iload_n 2, 1) := by decide +kernel
theorem d_R_payBack_9 : decode b_R_payBack 9 = .ok (.invokevirtual 103, 3) := by decide +kernel
theorem d_R_payBack_12 : decode b_R_payBack 12 = .ok (.invokevirtual 78, 3) := by decide +kernel
theorem d_R_payBack_15 : decode b_R_payBack 15 = .ok (.iload_n 2, 1) := by decide +kernel
theorem d_R_payBack_16 : decode b_R_payBack 16 = .ok (.ireturn, 1) := by decide +kernel
theorem d_R_ridesAt_0 : decode b_R_ridesAt 0 = .ok (.iconst 0, 1) := by decide +kernel
theorem d_R_ridesAt_1 : decode b_R_ridesAt 1 = .ok (.istore_n 2, 1) := by decide +kernel
theorem d_R_ridesAt_2 : decode b_R_ridesAt 2 = .ok (.aload_n 0, 1) := by decide +kernel
theorem d_R_ridesAt_3 : decode b_R_ridesAt 3 = .ok (.getfield 25, 3) := by decide +kernel
theorem d_R_ridesAt_6 : decode b_R_ridesAt 6 = .ok (.astore_n 3, 1) := by decide +kernel
theorem d_R_ridesAt_7 : decode b_R_ridesAt 7 = .ok (.aload_n 3, 1) := by decide +kernel
theorem d_R_ridesAt_8 : decode b_R_ridesAt 8 = .ok (.arraylength, 1) := by decide +kernel
theorem d_R_ridesAt_9 : decode b_R_ridesAt 9 = .ok (.istore 4, 2) := by decide +kernel
theorem d_R_ridesAt_11 : decode b_R_ridesAt 11 = .ok (.iconst 0, 1) := by decide +kernel
theorem d_R_ridesAt_12 : decode b_R_ridesAt 12 = .ok (.istore 5, 2) := by decide +kernel
theorem d_R_ridesAt_14 : decode b_R_ridesAt 14 = .ok (.iload 5, 2) := by decide +kernel
theorem d_R_ridesAt_16 : decode b_R_ridesAt 16 = .ok (.iload 4, 2) := by decide +kernel
theorem d_R_ridesAt_18 : decode b_R_ridesAt 18 = .ok (.if_icmp .ge 33, 3) := by decide +kernel
theorem d_R_ridesAt_21 : decode b_R_ridesAt 21 = .ok (.aload_n 3, 1) := by decide +kernel
theorem d_R_ridesAt_22 : decode b_R_ridesAt 22 = .ok (.iload 5, 2) := by decide +kernel
theorem d_R_ridesAt_24 : decode b_R_ridesAt 24 = .ok (.aaload, 1) := by decide +kernel
theorem d_R_ridesAt_25 : decode b_R_ridesAt 25 = .ok (.astore 6, 2) := by decide +kernel
theorem d_R_ridesAt_27 : decode b_R_ridesAt 27 = .ok (.iload_n 2, 1) := by decide +kernel
theorem d_R_ridesAt_28 : decode b_R_ridesAt 28 = .ok (.aload 6, 2) := by decide +kernel
theorem d_R_ridesAt_30 : decode b_R_ridesAt 30 = .ok (.ifnonnull 7, 3) := by decide +kernel
theorem d_R_ridesAt_33 : decode b_R_ridesAt 33 = .ok (.iconst 0, 1) := by decide +kernel
theorem d_R_ridesAt_34 : decode b_R_ridesAt 34 = .ok (.goto 9, 3) := by decide +kernel
theorem d_R_ridesAt_37 : decode b_R_ridesAt 37 = .ok (.aload 6, 2) := by decide +kernel
theorem d_R_ridesAt_39 : decode b_R_ridesAt 39 = .ok (.iload_n 1, 1) := by decide +kernel
theorem d_R_ridesAt_40 : decode b_R_ridesAt 40 = .ok (.invokevirtual 185, 3) := by decide +kernel
theorem d_R_ridesAt_43 : decode b_R_ridesAt 43 = .ok (.iadd, 1) := by decide +kernel
theorem d_R_ridesAt_44 : decode b_R_ridesAt 44 = .ok (.istore_n 2, 1) := by decide +kernel
theorem d_R_ridesAt_45 : decode b_R_ridesAt 45 = .ok (.iinc 5 1, 3) := by decide +kernel
theorem d_R_ridesAt_48 : decode b_R_ridesAt 48 = .ok (.goto (-34), 3) := by decide +kernel
theorem d_R_ridesAt_51 : decode b_R_ridesAt 51 = .ok (.iload_n 2, 1) := by decide +kernel
theorem d_R_ridesAt_52 : decode b_R_ridesAt 52 = .ok (.ireturn, 1) := by decide +kernel
theorem d_R_gatesOf_0 : decode b_R_gatesOf 0 = .ok (.iconst 0, 1) := by decide +kernel
theorem d_R_gatesOf_1 : decode b_R_gatesOf 1 = .ok (.istore_n 2, 1) := by decide +kernel
theorem d_R_gatesOf_2 : decode b_R_gatesOf 2 = .ok (.aload_n 0, 1) := by decide +kernel
theorem d_R_gatesOf_3 : decode b_R_gatesOf 3 = .ok (.getfield 11, 3) := by decide +kernel
theorem d_R_gatesOf_6 : decode b_R_gatesOf 6 = .ok (.astore_n 3, 1) := by decide +kernel
theorem d_R_gatesOf_7 : decode b_R_gatesOf 7 = .ok (.aload_n 3, 1) := by decide +kernel
theorem d_R_gatesOf_8 : decode b_R_gatesOf 8 = .ok (.arraylength, 1) := by decide +kernel
theorem d_R_gatesOf_9 : decode b_R_gatesOf 9 = .ok (.istore 4, 2) := by decide +kernel
theorem d_R_gatesOf_11 : decode b_R_gatesOf 11 = .ok (.iconst 0, 1) := by decide +kernel
theorem d_R_gatesOf_12 : decode b_R_gatesOf 12 = .ok (.istore 5, 2) := by decide +kernel
theorem d_R_gatesOf_14 : decode b_R_gatesOf 14 = .ok (.iload 5, 2) := by decide +kernel
theorem d_R_gatesOf_16 : decode b_R_gatesOf 16 = .ok (.iload 4, 2) := by decide +kernel
theorem d_R_gatesOf_18 : decode b_R_gatesOf 18 = .ok (.if_icmp .ge 37, 3) := by decide +kernel
theorem d_R_gatesOf_21 : decode b_R_gatesOf 21 = .ok (.aload_n 3, 1) := by decide +kernel
theorem d_R_gatesOf_22 : decode b_R_gatesOf 22 = .ok (.iload 5, 2) := by decide +kernel
theorem d_R_gatesOf_24 : decode b_R_gatesOf 24 = .ok (.aaload, 1) := by decide +kernel
theorem d_R_gatesOf_25 : decode b_R_gatesOf 25 = .ok (.astore 6, 2) := by decide +kernel
theorem d_R_gatesOf_27 : decode b_R_gatesOf 27 = .ok (.iload_n 2, 1) := by decide +kernel
theorem d_R_gatesOf_28 : decode b_R_gatesOf 28 = .ok (.aload 6, 2) := by decide +kernel
theorem d_R_gatesOf_30 : decode b_R_gatesOf 30 = .ok (.ifnull 16, 3) := by decide +kernel
theorem d_R_gatesOf_33 : decode b_R_gatesOf 33 = .ok (.aload 6, 2) := by decide +kernel
theorem d_R_gatesOf_35 : decode b_R_gatesOf 35 = .ok (.getfield 143, 3) := by decide +kernel
theorem d_R_gatesOf_38 : decode b_R_gatesOf 38 = .ok (.iload_n 1, 1) := by decide +kernel
theorem d_R_gatesOf_39 : decode b_R_gatesOf 39 = .ok (.if_icmp .ne 7, 3) := by decide +kernel
theorem d_R_gatesOf_42 : decode b_R_gatesOf 42 = .ok (.iconst 1, 1) := by decide +kernel
theorem d_R_gatesOf_43 : decode b_R_gatesOf 43 = .ok (.goto 4, 3) := by decide +kernel
theorem d_R_gatesOf_46 : decode b_R_gatesOf 46 = .ok (.iconst 0, 1) := by decide +kernel
theorem d_R_gatesOf_47 : decode b_R_gatesOf 47 = .ok (.iadd, 1) := by decide +kernel
theorem d_R_gatesOf_48 : decode b_R_gatesOf 48 = .ok (.istore_n 2, 1) := by decide +kernel
theorem d_R_gatesOf_49 : decode b_R_gatesOf 49 = .ok (.iinc 5 1, 3) := by decide +kernel
theorem d_R_gatesOf_52 : decode b_R_gatesOf 52 = .ok (.goto (-38), 3) := by decide +kernel
theorem d_R_gatesOf_55 : decode b_R_gatesOf 55 = .ok (.iload_n 2, 1) := by decide +kernel
theorem d_R_gatesOf_56 : decode b_R_gatesOf 56 = .ok (.ireturn, 1) := by decide +kernel
theorem d_R_cardsSeenBy_0 : decode b_R_cardsSeenBy 0 = .ok (.iconst 0, 1) := by decide +kernel
theorem d_R_cardsSeenBy_1 : decode b_R_cardsSeenBy 1 = .ok (.istore_n 2, 1) := by decide +kernel
theorem d_R_cardsSeenBy_2 : decode b_R_cardsSeenBy 2 = .ok (.aload_n 0, 1) := by decide +kernel
theorem d_R_cardsSeenBy_3 : decode b_R_cardsSeenBy 3 = .ok (.getfield 25, 3) := by decide +kernel
theorem d_R_cardsSeenBy_6 : decode b_R_cardsSeenBy 6 = .ok (.astore_n 3, 1) := by decide +kernel
theorem d_R_cardsSeenBy_7 : decode b_R_cardsSeenBy 7 = .ok (.aload_n 3, 1) := by decide +kernel
theorem d_R_cardsSeenBy_8 : decode b_R_cardsSeenBy 8 = .ok (.arraylength, 1) := by decide +kernel
theorem d_R_cardsSeenBy_9 : decode b_R_cardsSeenBy 9 = .ok (.istore 4, 2) := by decide +kernel
theorem d_R_cardsSeenBy_11 : decode b_R_cardsSeenBy 11 = .ok (.iconst 0, 1) := by decide +kernel
theorem d_R_cardsSeenBy_12 : decode b_R_cardsSeenBy 12 = .ok (.istore 5, 2) := by decide +kernel
theorem d_R_cardsSeenBy_14 : decode b_R_cardsSeenBy 14 = .ok (.iload 5, 2) := by decide +kernel
theorem d_R_cardsSeenBy_16 : decode b_R_cardsSeenBy 16 = .ok (.iload 4, 2) := by decide +kernel
theorem d_R_cardsSeenBy_18 : decode b_R_cardsSeenBy 18 = .ok (.if_icmp .ge 37, 3) := by decide +kernel
theorem d_R_cardsSeenBy_21 : decode b_R_cardsSeenBy 21 = .ok (.aload_n 3, 1) := by decide +kernel
theorem d_R_cardsSeenBy_22 : decode b_R_cardsSeenBy 22 = .ok (.iload 5, 2) := by decide +kernel
theorem d_R_cardsSeenBy_24 : decode b_R_cardsSeenBy 24 = .ok (.aaload, 1) := by decide +kernel
theorem d_R_cardsSeenBy_25 : decode b_R_cardsSeenBy 25 = .ok (.astore 6, 2) := by decide +kernel
theorem d_R_cardsSeenBy_27 : decode b_R_cardsSeenBy 27 = .ok (.iload_n 2, 1) := by decide +kernel
theorem d_R_cardsSeenBy_28 : decode b_R_cardsSeenBy 28 = .ok (.aload 6, 2) := by decide +kernel
theorem d_R_cardsSeenBy_30 : decode b_R_cardsSeenBy 30 = .ok (.ifnull 16, 3) := by decide +kernel
theorem d_R_cardsSeenBy_33 : decode b_R_cardsSeenBy 33 = .ok (.aload 6, 2) := by decide +kernel
theorem d_R_cardsSeenBy_35 : decode b_R_cardsSeenBy 35 = .ok (.iload_n 1, 1) := by decide +kernel
theorem d_R_cardsSeenBy_36 : decode b_R_cardsSeenBy 36 = .ok (.invokevirtual 185, 3) := by decide +kernel
theorem d_R_cardsSeenBy_39 : decode b_R_cardsSeenBy 39 = .ok (.ifCond .le 7, 3) := by decide +kernel
theorem d_R_cardsSeenBy_42 : decode b_R_cardsSeenBy 42 = .ok (.iconst 1, 1) := by decide +kernel
theorem d_R_cardsSeenBy_43 : decode b_R_cardsSeenBy 43 = .ok (.goto 4, 3) := by decide +kernel
theorem d_R_cardsSeenBy_46 : decode b_R_cardsSeenBy 46 = .ok (.iconst 0, 1) := by decide +kernel
theorem d_R_cardsSeenBy_47 : decode b_R_cardsSeenBy 47 = .ok (.iadd, 1) := by decide +kernel
theorem d_R_cardsSeenBy_48 : decode b_R_cardsSeenBy 48 = .ok (.istore_n 2, 1) := by decide +kernel
theorem d_R_cardsSeenBy_49 : decode b_R_cardsSeenBy 49 = .ok (.iinc 5 1, 3) := by decide +kernel
theorem d_R_cardsSeenBy_52 : decode b_R_cardsSeenBy 52 = .ok (.goto (-38), 3) := by decide +kernel
theorem d_R_cardsSeenBy_55 : decode b_R_cardsSeenBy 55 = .ok (.iload_n 2, 1) := by decide +kernel
theorem d_R_cardsSeenBy_56 : decode b_R_cardsSeenBy 56 = .ok (.ireturn, 1) := by decide +kernel
theorem d_R_allRefundable_0 : decode b_R_allRefundable 0 = .ok (.iconst 0, 1) := by decide +kernel
theorem d_R_allRefundable_1 : decode b_R_allRefundable 1 = .ok (.istore_n 1, 1) := by decide +kernel
theorem d_R_allRefundable_2 : decode b_R_allRefundable 2 = .ok (.aload_n 0, 1) := by decide +kernel
theorem d_R_allRefundable_3 : decode b_R_allRefundable 3 = .ok (.getfield 25, 3) := by decide +kernel
theorem d_R_allRefundable_6 : decode b_R_allRefundable 6 = .ok (.astore_n 2, 1) := by decide +kernel
theorem d_R_allRefundable_7 : decode b_R_allRefundable 7 = .ok (.aload_n 2, 1) := by decide +kernel
theorem d_R_allRefundable_8 : decode b_R_allRefundable 8 = .ok (.arraylength, 1) := by decide +kernel
theorem d_R_allRefundable_9 : decode b_R_allRefundable 9 = .ok (.istore_n 3, 1) := by decide +kernel
theorem d_R_allRefundable_10 : decode b_R_allRefundable 10 = .ok (.iconst 0, 1) := by decide +kernel
theorem d_R_allRefundable_11 : decode b_R_allRefundable 11 = .ok (.istore 4, 2) := by decide +kernel
theorem d_R_allRefundable_13 : decode b_R_allRefundable 13 = .ok (.iload 4, 2) := by decide +kernel
theorem d_R_allRefundable_15 : decode b_R_allRefundable 15 = .ok (.iload_n 3, 1) := by decide +kernel
theorem d_R_allRefundable_16 : decode b_R_allRefundable 16 = .ok (.if_icmp .ge 33, 3) := by decide +kernel
theorem d_R_allRefundable_19 : decode b_R_allRefundable 19 = .ok (.aload_n 2, 1) := by decide +kernel
theorem d_R_allRefundable_20 : decode b_R_allRefundable 20 = .ok (.iload 4, 2) := by decide +kernel
theorem d_R_allRefundable_22 : decode b_R_allRefundable 22 = .ok (.aaload, 1) := by decide +kernel
theorem d_R_allRefundable_23 : decode b_R_allRefundable 23 = .ok (.astore 5, 2) := by decide +kernel
theorem d_R_allRefundable_25 : decode b_R_allRefundable 25 = .ok (.iload_n 1, 1) := by decide +kernel
theorem d_R_allRefundable_26 : decode b_R_allRefundable 26 = .ok (.aload 5, 2) := by decide +kernel
theorem d_R_allRefundable_28 : decode b_R_allRefundable 28 = .ok (.ifnonnull 7, 3) := by decide +kernel
theorem d_R_allRefundable_31 : decode b_R_allRefundable 31 = .ok (.iconst 0, 1) := by decide +kernel
theorem d_R_allRefundable_32 : decode b_R_allRefundable 32 = .ok (.goto 9, 3) := by decide +kernel
theorem d_R_allRefundable_35 : decode b_R_allRefundable 35 = .ok (.aload_n 0, 1) := by decide +kernel
theorem d_R_allRefundable_36 : decode b_R_allRefundable 36 = .ok (.aload 5, 2) := by decide +kernel
theorem d_R_allRefundable_38 : decode b_R_allRefundable 38 = .ok (.invokevirtual 99, 3) := by decide +kernel
theorem d_R_allRefundable_41 : decode b_R_allRefundable 41 = .ok (.iadd, 1) := by decide +kernel
theorem d_R_allRefundable_42 : decode b_R_allRefundable 42 = .ok (.istore_n 1, 1) := by decide +kernel
theorem d_R_allRefundable_43 : decode b_R_allRefundable 43 = .ok (.iinc 4 1, 3) := by decide +kernel
theorem d_R_allRefundable_46 : decode b_R_allRefundable 46 = .ok (.goto (-33), 3) := by decide +kernel
theorem d_R_allRefundable_49 : decode b_R_allRefundable 49 = .ok (.iload_n 1, 1) := by decide +kernel
theorem d_R_allRefundable_50 : decode b_R_allRefundable 50 = .ok (.ireturn, 1) := by decide +kernel
theorem d_R_cardsInForce_0 : decode b_R_cardsInForce 0 = .ok (.iconst 0, 1) := by decide +kernel
theorem d_R_cardsInForce_1 : decode b_R_cardsInForce 1 = .ok (.istore_n 1, 1) := by decide +kernel
theorem d_R_cardsInForce_2 : decode b_R_cardsInForce 2 = .ok (.aload_n 0, 1) := by decide +kernel
theorem d_R_cardsInForce_3 : decode b_R_cardsInForce 3 = .ok (.getfield 25, 3) := by decide +kernel
theorem d_R_cardsInForce_6 : decode b_R_cardsInForce 6 = .ok (.astore_n 2, 1) := by decide +kernel
theorem d_R_cardsInForce_7 : decode b_R_cardsInForce 7 = .ok (.aload_n 2, 1) := by decide +kernel
theorem d_R_cardsInForce_8 : decode b_R_cardsInForce 8 = .ok (.arraylength, 1) := by decide +kernel
theorem d_R_cardsInForce_9 : decode b_R_cardsInForce 9 = .ok (.istore_n 3, 1) := by decide +kernel
theorem d_R_cardsInForce_10 : decode b_R_cardsInForce 10 = .ok (.iconst 0, 1) := by decide +kernel
theorem d_R_cardsInForce_11 : decode b_R_cardsInForce 11 = .ok (.istore 4, 2) := by decide +kernel
theorem d_R_cardsInForce_13 : decode b_R_cardsInForce 13 = .ok (.iload 4, 2) := by decide +kernel
theorem d_R_cardsInForce_15 : decode b_R_cardsInForce 15 = .ok (.iload_n 3, 1) := by decide +kernel
theorem d_R_cardsInForce_16 : decode b_R_cardsInForce 16 = .ok (.if_icmp .ge 37, 3) := by decide +kernel
theorem d_R_cardsInForce_19 : decode b_R_cardsInForce 19 = .ok (.aload_n 2, 1) := by decide +kernel
theorem d_R_cardsInForce_20 : decode b_R_cardsInForce 20 = .ok (.iload 4, 2) := by decide +kernel
theorem d_R_cardsInForce_22 : decode b_R_cardsInForce 22 = .ok (.aaload, 1) := by decide +kernel
theorem d_R_cardsInForce_23 : decode b_R_cardsInForce 23 = .ok (.astore 5, 2) := by decide +kernel
theorem d_R_cardsInForce_25 : decode b_R_cardsInForce 25 = .ok (.iload_n 1, 1) := by decide +kernel
theorem d_R_cardsInForce_26 : decode b_R_cardsInForce 26 = .ok (.aload 5, 2) := by decide +kernel
theorem d_R_cardsInForce_28 : decode b_R_cardsInForce 28 = .ok (.ifnull 16, 3) := by decide +kernel
theorem d_R_cardsInForce_31 : decode b_R_cardsInForce 31 = .ok (.aload 5, 2) := by decide +kernel
theorem d_R_cardsInForce_33 : decode b_R_cardsInForce 33 = .ok (.getfield 150, 3) := by decide +kernel
theorem d_R_cardsInForce_36 : decode b_R_cardsInForce 36 = .ok (.iconst 2, 1) := by decide +kernel
theorem d_R_cardsInForce_37 : decode b_R_cardsInForce 37 = .ok (.if_icmp .eq 7, 3) := by decide +kernel
theorem d_R_cardsInForce_40 : decode b_R_cardsInForce 40 = .ok (.iconst 1, 1) := by decide +kernel
theorem d_R_cardsInForce_41 : decode b_R_cardsInForce 41 = .ok (.goto 4, 3) := by decide +kernel
theorem d_R_cardsInForce_44 : decode b_R_cardsInForce 44 = .ok (.iconst 0, 1) := by decide +kernel
theorem d_R_cardsInForce_45 : decode b_R_cardsInForce 45 = .ok (.iadd, 1) := by decide +kernel
theorem d_R_cardsInForce_46 : decode b_R_cardsInForce 46 = .ok (.istore_n 1, 1) := by decide +kernel
theorem d_R_cardsInForce_47 : decode b_R_cardsInForce 47 = .ok (.iinc 4 1, 3) := by decide +kernel
theorem d_R_cardsInForce_50 : decode b_R_cardsInForce 50 = .ok (.goto (-37), 3) := by decide +kernel
theorem d_R_cardsInForce_53 : decode b_R_cardsInForce 53 = .ok (.iload_n 1, 1) := by decide +kernel
theorem d_R_cardsInForce_54 : decode b_R_cardsInForce 54 = .ok (.ireturn, 1) := by decide +kernel
theorem d_R_countedSoFar_0 : decode b_R_countedSoFar 0 = .ok (.iconst 0, 1) := by decide +kernel
theorem d_R_countedSoFar_1 : decode b_R_countedSoFar 1 = .ok (.istore_n 1, 1) := by decide +kernel
theorem d_R_countedSoFar_2 : decode b_R_countedSoFar 2 = .ok (.iconst 0, 1) := by decide +kernel
theorem d_R_countedSoFar_3 : decode b_R_countedSoFar 3 = .ok (.istore_n 2, 1) := by decide +kernel
theorem d_R_countedSoFar_4 : decode b_R_countedSoFar 4 = .ok (.iload_n 2, 1) := by decide +kernel
theorem d_R_countedSoFar_5 : decode b_R_countedSoFar 5 = .ok (.bipush 31, 2) := by decide +kernel
theorem d_R_countedSoFar_7 : decode b_R_countedSoFar 7 = .ok (.if_icmp .ge 21, 3) := by decide +kernel
theorem d_R_countedSoFar_10 : decode b_R_countedSoFar 10 = .ok (.iload_n 1, 1) := by decide +kernel
theorem d_R_countedSoFar_11 : decode b_R_countedSoFar 11 = .ok (.iconst 0, 1) := by decide +kernel
theorem d_R_countedSoFar_12 : decode b_R_countedSoFar 12 = .ok (.aload_n 0, 1) := by decide +kernel
theorem d_R_countedSoFar_13 : decode b_R_countedSoFar 13 = .ok (.getfield 46, 3) := by decide +kernel
theorem d_R_countedSoFar_16 : decode b_R_countedSoFar 16 = .ok (.iload_n 2, 1) := by decide +kernel
theorem d_R_countedSoFar_17 : decode b_R_countedSoFar 17 = .ok (.invokestatic 132, 3) := by decide +kernel
theorem d_R_countedSoFar_20 : decode b_R_countedSoFar 20 = .ok (.iadd, 1) := by decide +kernel
theorem d_R_countedSoFar_21 : decode b_R_countedSoFar 21 = .ok (.istore_n 1, 1) := by decide +kernel
theorem d_R_countedSoFar_22 : decode b_R_countedSoFar 22 = .ok (.iinc 2 1, 3) := by decide +kernel
theorem d_R_countedSoFar_25 : decode b_R_countedSoFar 25 = .ok (.goto (-21), 3) := by decide +kernel
theorem d_R_countedSoFar_28 : decode b_R_countedSoFar 28 = .ok (.iload_n 1, 1) := by decide +kernel
theorem d_R_countedSoFar_29 : decode b_R_countedSoFar 29 = .ok (.ireturn, 1) := by decide +kernel
theorem d_H_init_0 : decode b_H_init 0 = .ok (.aload_n 0, 1) := by decide +kernel
theorem d_H_init_1 : decode b_H_init 1 = .ok (.invokespecial 3, 3) := by decide +kernel
theorem d_H_init_4 : decode b_H_init 4 = .ok (.aload_n 0, 1) := by decide +kernel
theorem d_H_init_5 : decode b_H_init 5 = .ok (.bipush 9, 2) := by decide +kernel
theorem d_H_init_7 : decode b_H_init 7 = .ok (.anewarray 9, 3) := by decide +kernel
theorem d_H_init_10 : decode b_H_init 10 = .ok (.putfield 11, 3) := by decide +kernel
theorem d_H_init_13 : decode b_H_init 13 = .ok (.aload_n 0, 1) := by decide +kernel
theorem d_H_init_14 : decode b_H_init 14 = .ok (.iconst 0, 1) := by decide +kernel
theorem d_H_init_15 : decode b_H_init 15 = .ok (.putfield 17, 3) := by decide +kernel
theorem d_H_init_18 : decode b_H_init 18 = .ok (.aload_n 0, 1) := by decide +kernel
theorem d_H_init_19 : decode b_H_init 19 = .ok (.iconst 0, 1) := by decide +kernel
theorem d_H_init_20 : decode b_H_init 20 = .ok (.putfield 21, 3) := by decide +kernel
theorem d_H_init_23 : decode b_H_init 23 = .ok (.iconst 0, 1) := by decide +kernel
theorem d_H_init_24 : decode b_H_init 24 = .ok (.istore_n 1, 1) := by decide +kernel
theorem d_H_init_25 : decode b_H_init 25 = .ok (.iload_n 1, 1) := by decide +kernel
theorem d_H_init_26 : decode b_H_init 26 = .ok (.aload_n 0, 1) := by decide +kernel
theorem d_H_init_27 : decode b_H_init 27 = .ok (.getfield 11, 3) := by decide +kernel
theorem d_H_init_30 : decode b_H_init 30 = .ok (.arraylength, 1) := by decide +kernel
theorem d_H_init_31 : decode b_H_init 31 = .ok (.if_icmp .ge 22, 3) := by decide +kernel
theorem d_H_init_34 : decode b_H_init 34 = .ok (.aload_n 0, 1) := by decide +kernel
theorem d_H_init_35 : decode b_H_init 35 = .ok (.getfield 11, 3) := by decide +kernel
theorem d_H_init_38 : decode b_H_init 38 = .ok (.iload_n 1, 1) := by decide +kernel
theorem d_H_init_39 : decode b_H_init 39 = .ok (.new 9, 3) := by decide +kernel
theorem d_H_init_42 : decode b_H_init 42 = .ok (.dup, 1) := by decide +kernel
theorem d_H_init_43 : decode b_H_init 43 = .ok (.invokespecial 24, 3) := by decide +kernel
theorem d_H_init_46 : decode b_H_init 46 = .ok (.aastore, 1) := by decide +kernel
theorem d_H_init_47 : decode b_H_init 47 = .ok (.iinc 1 1, 3) := by decide +kernel
theorem d_H_init_50 : decode b_H_init 50 = .ok (.goto (-25), 3) := by decide +kernel
theorem d_H_init_53 : decode b_H_init 53 = .ok (.return_, 1) := by decide +kernel
theorem d_H_forget_0 : decode b_H_forget 0 = .ok (.aload_n 0, 1) := by decide +kernel
theorem d_H_forget_1 : decode b_H_forget 1 = .ok (.iconst 0, 1) := by decide +kernel
theorem d_H_forget_2 : decode b_H_forget 2 = .ok (.putfield 21, 3) := by decide +kernel
theorem d_H_forget_5 : decode b_H_forget 5 = .ok (.return_, 1) := by decide +kernel
theorem d_H_record_0 : decode b_H_record 0 = .ok (.aload_n 0, 1) := by decide +kernel
theorem d_H_record_1 : decode b_H_record 1 = .ok (.aload_n 1, 1) := by decide +kernel
theorem d_H_record_2 : decode b_H_record 2 = .ok (.invokevirtual 25, 3) := by decide +kernel
theorem d_H_record_5 : decode b_H_record 5 = .ok (.aload_n 0, 1) := by decide +kernel
theorem d_H_record_6 : decode b_H_record 6 = .ok (.invokevirtual 29, 3) := by decide +kernel
theorem d_H_record_9 : decode b_H_record 9 = .ok (.return_, 1) := by decide +kernel
theorem d_H_keep_0 : decode b_H_keep 0 = .ok (.aload_n 0, 1) := by decide +kernel
theorem d_H_keep_1 : decode b_H_keep 1 = .ok (.invokevirtual 32, 3) := by decide +kernel
theorem d_H_keep_4 : decode b_H_keep 4 = .ok (.astore_n 2, 1) := by decide +kernel
theorem d_H_keep_5 : decode b_H_keep 5 = .ok (.aload_n 2, 1) := by decide +kernel
theorem d_H_keep_6 : decode b_H_keep 6 = .ok (.ifnull 8, 3) := by decide +kernel
theorem d_H_keep_9 : decode b_H_keep 9 = .ok (.aload_n 2, 1) := by decide +kernel
theorem d_H_keep_10 : decode b_H_keep 10 = .ok (.aload_n 1, 1) := by decide +kernel
theorem d_H_keep_11 : decode b_H_keep 11 = .ok (.invokevirtual 36, 3) := by decide +kernel
theorem d_H_keep_14 : decode b_H_keep 14 = .ok (.return_, 1) := by decide +kernel
theorem d_H_nextPlace_0 : decode b_H_nextPlace 0 = .ok (.aload_n 0, 1) := by decide +kernel
theorem d_H_nextPlace_1 : decode b_H_nextPlace 1 = .ok (.getfield 17, 3) := by decide +kernel
theorem d_H_nextPlace_4 : decode b_H_nextPlace 4 = .ok (.ifCond .lt 27, 3) := by decide +kernel
theorem d_H_nextPlace_7 : decode b_H_nextPlace 7 = .ok (.aload_n 0, 1) := by decide +kernel
theorem d_H_nextPlace_8 : decode b_H_nextPlace 8 = .ok (.getfield 17, 3) := by decide +kernel
theorem d_H_nextPlace_11 : decode b_H_nextPlace 11 = .ok (.aload_n 0, 1) := by decide +kernel
theorem d_H_nextPlace_12 : decode b_H_nextPlace 12 = .ok (.getfield 11, 3) := by decide +kernel
theorem d_H_nextPlace_15 : decode b_H_nextPlace 15 = .ok (.arraylength, 1) := by decide +kernel
theorem d_H_nextPlace_16 : decode b_H_nextPlace 16 = .ok (.if_icmp .ge 15, 3) := by decide +kernel
theorem d_H_nextPlace_19 : decode b_H_nextPlace 19 = .ok (.aload_n 0, 1) := by decide +kernel
theorem d_H_nextPlace_20 : decode b_H_nextPlace 20 = .ok (.getfield 11, 3) := by decide +kernel
theorem d_H_nextPlace_23 : decode b_H_nextPlace 23 = .ok (.aload_n 0, 1) := by decide +kernel
theorem d_H_nextPlace_24 : decode b_H_nextPlace 24 = .ok (.getfield 17, 3) := by decide +kernel
theorem d_H_nextPlace_27 : decode b_H_nextPlace 27 = .ok (.aaload, 1) := by decide +kernel
theorem d_H_nextPlace_28 : decode b_H_nextPlace 28 = .ok (.goto 4, 3) := by decide +kernel
theorem d_H_nextPlace_31 : decode b_H_nextPlace 31 = .ok (.aconst_null, 1) := by decide +kernel
theorem d_H_nextPlace_32 : decode b_H_nextPlace 32 = .ok (.areturn, 1) := by decide +kernel
theorem d_H_commit_0 : decode b_H_commit 0 = .ok (.aload_n 0, 1) := by decide +kernel
theorem d_H_commit_1 : decode b_H_commit 1 = .ok (.aload_n 0, 1) := by decide +kernel
theorem d_H_commit_2 : decode b_H_commit 2 = .ok (.getfield 17, 3) := by decide +kernel
theorem d_H_commit_5 : decode b_H_commit 5 = .ok (.iconst 1, 1) := by decide +kernel
theorem d_H_commit_6 : decode b_H_commit 6 = .ok (.iadd, 1) := by decide +kernel
theorem d_H_commit_7 : decode b_H_commit 7 = .ok (.aload_n 0, 1) := by decide +kernel
theorem d_H_commit_8 : decode b_H_commit 8 = .ok (.getfield 11, 3) := by decide +kernel
theorem d_H_commit_11 : decode b_H_commit 11 = .ok (.arraylength, 1) := by decide +kernel
theorem d_H_commit_12 : decode b_H_commit 12 = .ok (.if_icmp .ge 12, 3) := by decide +kernel
theorem d_H_commit_15 : decode b_H_commit 15 = .ok (.aload_n 0, 1) := by decide +kernel
theorem d_H_commit_16 : decode b_H_commit 16 = .ok (.getfield 17, 3) := by decide +kernel
theorem d_H_commit_19 : decode b_H_commit 19 = .ok (.iconst 1, 1) := by decide +kernel
theorem d_H_commit_20 : decode b_H_commit 20 = .ok (.iadd, 1) := by decide +kernel
theorem d_H_commit_21 : decode b_H_commit 21 = .ok (.goto 4, 3) := by decide +kernel
theorem d_H_commit_24 : decode b_H_commit 24 = .ok (.iconst 0, 1) := by decide +kernel
theorem d_H_commit_25 : decode b_H_commit 25 = .ok (.putfield 17, 3) := by decide +kernel
theorem d_H_commit_28 : decode b_H_commit 28 = .ok (.aload_n 0, 1) := by decide +kernel
theorem d_H_commit_29 : decode b_H_commit 29 = .ok (.aload_n 0, 1) := by decide +kernel
theorem d_H_commit_30 : decode b_H_commit 30 = .ok (.getfield 21, 3) := by decide +kernel
theorem d_H_commit_33 : decode b_H_commit 33 = .ok (.iconst 1, 1) := by decide +kernel
theorem d_H_commit_34 : decode b_H_commit 34 = .ok (.iadd, 1) := by decide +kernel
theorem d_H_commit_35 : decode b_H_commit 35 = .ok (.bipush 8, 2) := by decide +kernel
theorem d_H_commit_37 : decode b_H_commit 37 = .ok (.invokestatic 39, 3) := by decide +kernel
theorem d_H_commit_40 : decode b_H_commit 40 = .ok (.putfield 21, 3) := by decide +kernel
theorem d_H_commit_43 : decode b_H_commit 43 = .ok (.return_, 1) := by decide +kernel
theorem d_H_bringBack_0 : decode b_H_bringBack 0 = .ok (.aload_n 0, 1) := by decide +kernel
theorem d_H_bringBack_1 : decode b_H_bringBack 1 = .ok (.invokevirtual 32, 3) := by decide +kernel
theorem d_H_bringBack_4 : decode b_H_bringBack 4 = .ok (.astore_n 2, 1) := by decide +kernel
theorem d_H_bringBack_5 : decode b_H_bringBack 5 = .ok (.aload_n 2, 1) := by decide +kernel
theorem d_H_bringBack_6 : decode b_H_bringBack 6 = .ok (.ifnull 8, 3) := by decide +kernel
theorem d_H_bringBack_9 : decode b_H_bringBack 9 = .ok (.aload_n 1, 1) := by decide +kernel
theorem d_H_bringBack_10 : decode b_H_bringBack 10 = .ok (.aload_n 2, 1) := by decide +kernel
theorem d_H_bringBack_11 : decode b_H_bringBack 11 = .ok (.invokevirtual 36, 3) := by decide +kernel
theorem d_H_bringBack_14 : decode b_H_bringBack 14 = .ok (.return_, 1) := by decide +kernel
theorem d_H_stepBack_0 : decode b_H_stepBack 0 = .ok (.aload_n 0, 1) := by decide +kernel
theorem d_H_stepBack_1 : decode b_H_stepBack 1 = .ok (.aload_n 0, 1) := by decide +kernel
theorem d_H_stepBack_2 : decode b_H_stepBack 2 = .ok (.getfield 17, 3) := by decide +kernel
theorem d_H_stepBack_5 : decode b_H_stepBack 5 = .ok (.ifCond .le 12, 3) := by decide +kernel
theorem d_H_stepBack_8 : decode b_H_stepBack 8 = .ok (.aload_n 0, 1) := by decide +kernel
theorem d_H_stepBack_9 : decode b_H_stepBack 9 = .ok (.getfield 17, 3) := by decide +kernel
theorem d_H_stepBack_12 : decode b_H_stepBack 12 = .ok (.iconst 1, 1) := by decide +kernel
theorem d_H_stepBack_13 : decode b_H_stepBack 13 = .ok (.isub, 1) := by decide +kernel
theorem d_H_stepBack_14 : decode b_H_stepBack 14 = .ok (.goto 10, 3) := by decide +kernel
theorem d_H_stepBack_17 : decode b_H_stepBack 17 = .ok (.aload_n 0, 1) := by decide +kernel
theorem d_H_stepBack_18 : decode b_H_stepBack 18 = .ok (.getfield 11, 3) := by decide +kernel
theorem d_H_stepBack_21 : decode b_H_stepBack 21 = .ok (.arraylength, 1) := by decide +kernel
theorem d_H_stepBack_22 : decode b_H_stepBack 22 = .ok (.iconst 1, 1) := by decide +kernel
theorem d_H_stepBack_23 : decode b_H_stepBack 23 = .ok (.isub, 1) := by decide +kernel
theorem d_H_stepBack_24 : decode b_H_stepBack 24 = .ok (.putfield 17, 3) := by decide +kernel
theorem d_H_stepBack_27 : decode b_H_stepBack 27 = .ok (.aload_n 0, 1) := by decide +kernel
theorem d_H_stepBack_28 : decode b_H_stepBack 28 = .ok (.aload_n 0, 1) := by decide +kernel
theorem d_H_stepBack_29 : decode b_H_stepBack 29 = .ok (.getfield 21, 3) := by decide +kernel
theorem d_H_stepBack_32 : decode b_H_stepBack 32 = .ok (.iconst 1, 1) := by decide +kernel
theorem d_H_stepBack_33 : decode b_H_stepBack 33 = .ok (.isub, 1) := by decide +kernel
theorem d_H_stepBack_34 : decode b_H_stepBack 34 = .ok (.iconst 0, 1) := by decide +kernel
theorem d_H_stepBack_35 : decode b_H_stepBack 35 = .ok (.invokestatic 45, 3) := by decide +kernel
theorem d_H_stepBack_38 : decode b_H_stepBack 38 = .ok (.putfield 21, 3) := by decide +kernel
theorem d_H_stepBack_41 : decode b_H_stepBack 41 = .ok (.aload_n 0, 1) := by decide +kernel
theorem d_H_stepBack_42 : decode b_H_stepBack 42 = .ok (.aload_n 1, 1) := by decide +kernel
theorem d_H_stepBack_43 : decode b_H_stepBack 43 = .ok (.invokevirtual 48, 3) := by decide +kernel
theorem d_H_stepBack_46 : decode b_H_stepBack 46 = .ok (.return_, 1) := by decide +kernel
theorem d_T_init_0 : decode b_T_init 0 = .ok (.aload_n 0, 1) := by decide +kernel
theorem d_T_init_1 : decode b_T_init 1 = .ok (.invokespecial 3, 3) := by decide +kernel
theorem d_T_init_4 : decode b_T_init 4 = .ok (.aload_n 0, 1) := by decide +kernel
theorem d_T_init_5 : decode b_T_init 5 = .ok (.bipush 60, 2) := by decide +kernel
theorem d_T_init_7 : decode b_T_init 7 = .ok (.newarray .char, 2) := by decide +kernel
theorem d_T_init_9 : decode b_T_init 9 = .ok (.putfield 9, 3) := by decide +kernel
theorem d_T_init_12 : decode b_T_init 12 = .ok (.aload_n 0, 1) := by decide +kernel
theorem d_T_init_13 : decode b_T_init 13 = .ok (.iconst 0, 1) := by decide +kernel
theorem d_T_init_14 : decode b_T_init 14 = .ok (.putfield 15, 3) := by decide +kernel
theorem d_T_init_17 : decode b_T_init 17 = .ok (.aload_n 0, 1) := by decide +kernel
theorem d_T_init_18 : decode b_T_init 18 = .ok (.iconst 0, 1) := by decide +kernel
theorem d_T_init_19 : decode b_T_init 19 = .ok (.putfield 19, 3) := by decide +kernel
theorem d_T_init_22 : decode b_T_init 22 = .ok (.aload_n 0, 1) := by decide +kernel
theorem d_T_init_23 : decode b_T_init 23 = .ok (.iconst 0, 1) := by decide +kernel
theorem d_T_init_24 : decode b_T_init 24 = .ok (.putfield 22, 3) := by decide +kernel
theorem d_T_init_27 : decode b_T_init 27 = .ok (.aload_n 0, 1) := by decide +kernel
theorem d_T_init_28 : decode b_T_init 28 = .ok (.bipush 32, 2) := by decide +kernel
theorem d_T_init_30 : decode b_T_init 30 = .ok (.putfield 25, 3) := by decide +kernel
theorem d_T_init_33 : decode b_T_init 33 = .ok (.aload_n 0, 1) := by decide +kernel
theorem d_T_init_34 : decode b_T_init 34 = .ok (.iconst 0, 1) := by decide +kernel
theorem d_T_init_35 : decode b_T_init 35 = .ok (.putfield 29, 3) := by decide +kernel
theorem d_T_init_38 : decode b_T_init 38 = .ok (.aload_n 0, 1) := by decide +kernel
theorem d_T_init_39 : decode b_T_init 39 = .ok (.iconst 0, 1) := by decide +kernel
theorem d_T_init_40 : decode b_T_init 40 = .ok (.putfield 32, 3) := by decide +kernel
theorem d_T_init_43 : decode b_T_init 43 = .ok (.return_, 1) := by decide +kernel
theorem d_T_put_0 : decode b_T_put 0 = .ok (.iload_n 1, 1) := by decide +kernel
theorem d_T_put_1 : decode b_T_put 1 = .ok (.ifCond .eq 43, 3) := by decide +kernel
theorem d_T_put_4 : decode b_T_put 4 = .ok (.aload_n 0, 1) := by decide +kernel
theorem d_T_put_5 : decode b_T_put 5 = .ok (.getfield 15, 3) := by decide +kernel
theorem d_T_put_8 : decode b_T_put 8 = .ok (.ifCond .lt 36, 3) := by decide +kernel
theorem d_T_put_11 : decode b_T_put 11 = .ok (.aload_n 0, 1) := by decide +kernel
theorem d_T_put_12 : decode b_T_put 12 = .ok (.getfield 15, 3) := by decide +kernel
theorem d_T_put_15 : decode b_T_put 15 = .ok (.aload_n 0, 1) := by decide +kernel
theorem d_T_put_16 : decode b_T_put 16 = .ok (.getfield 9, 3) := by decide +kernel
theorem d_T_put_19 : decode b_T_put 19 = .ok (.arraylength, 1) := by decide +kernel
theorem d_T_put_20 : decode b_T_put 20 = .ok (.if_icmp .ge 24, 3) := by decide +kernel
theorem d_T_put_23 : decode b_T_put 23 = .ok (.aload_n 0, 1) := by decide +kernel
theorem d_T_put_24 : decode b_T_put 24 = .ok (.getfield 9, 3) := by decide +kernel
theorem d_T_put_27 : decode b_T_put 27 = .ok (.aload_n 0, 1) := by decide +kernel
theorem d_T_put_28 : decode b_T_put 28 = .ok (.getfield 15, 3) := by decide +kernel
theorem d_T_put_31 : decode b_T_put 31 = .ok (.iload_n 1, 1) := by decide +kernel
theorem d_T_put_32 : decode b_T_put 32 = .ok (.i2c, 1) := by decide +kernel
theorem d_T_put_33 : decode b_T_put 33 = .ok (.castore, 1) := by decide +kernel
theorem d_T_put_34 : decode b_T_put 34 = .ok (.aload_n 0, 1) := by decide +kernel
theorem d_T_put_35 : decode b_T_put 35 = .ok (.dup, 1) := by decide +kernel
theorem d_T_put_36 : decode b_T_put 36 = .ok (.getfield 15, 3) := by decide +kernel
theorem d_T_put_39 : decode b_T_put 39 = .ok (.iconst 1, 1) := by decide +kernel
theorem d_T_put_40 : decode b_T_put 40 = .ok (.iadd, 1) := by decide +kernel
theorem d_T_put_41 : decode b_T_put 41 = .ok (.putfield 15, 3) := by decide +kernel
theorem d_T_put_44 : decode b_T_put 44 = .ok (.return_, 1) := by decide +kernel
theorem d_T_findError_0 : decode b_T_findError 0 = .ok (.aload_n 0, 1) := by decide +kernel
theorem d_T_findError_1 : decode b_T_findError 1 = .ok (.invokevirtual 35, 3) := by decide +kernel
theorem d_T_findError_4 : decode b_T_findError 4 = .ok (.aload_n 0, 1) := by decide +kernel
theorem d_T_findError_5 : decode b_T_findError 5 = .ok (.iconst 0, 1) := by decide +kernel
theorem d_T_findError_6 : decode b_T_findError 6 = .ok (.putfield 22, 3) := by decide +kernel
theorem d_T_findError_9 : decode b_T_findError 9 = .ok (.iconst 0, 1) := by decide +kernel
theorem d_T_findError_10 : decode b_T_findError 10 = .ok (.istore_n 1, 1) := by decide +kernel
theorem d_T_findError_11 : decode b_T_findError 11 = .ok (.iload_n 1, 1) := by decide +kernel
theorem d_T_findError_12 : decode b_T_findError 12 = .ok (.bipush 60, 2) := by decide +kernel
theorem d_T_findError_14 : decode b_T_findError 14 = .ok (.if_icmp .ge 60, 3) := by decide +kernel
theorem d_T_findError_17 : decode b_T_findError 17 = .ok (.aload_n 0, 1) := by decide +kernel
theorem d_T_findError_18 : decode b_T_findError 18 = .ok (.invokevirtual 38, 3) := by decide +kernel
theorem d_T_findError_21 : decode b_T_findError 21 = .ok (.ifCond .ne 8, 3) := by decide +kernel
theorem d_T_findError_24 : decode b_T_findError 24 = .ok (.aload_n 0, 1) := by decide +kernel
theorem d_T_findError_25 : decode b_T_findError 25 = .ok (.getfield 19, 3) := by decide +kernel
theorem d_T_findError_28 : decode b_T_findError 28 = .ok (.ireturn, 1) := by decide +kernel
theorem d_T_findError_29 : decode b_T_findError 29 = .ok (.aload_n 0, 1) := by decide +kernel
theorem d_T_findError_30 : decode b_T_findError 30 = .ok (.dup, 1) := by decide +kernel
theorem d_T_findError_31 : decode b_T_findError 31 = .ok (.getfield 22, 3) := by decide +kernel
theorem d_T_findError_34 : decode b_T_findError 34 = .ok (.iconst 1, 1) := by decide +kernel
theorem d_T_findError_35 : decode b_T_findError 35 = .ok (.iadd, 1) := by decide +kernel
theorem d_T_findError_36 : decode b_T_findError 36 = .ok (.putfield 22, 3) := by decide +kernel
theorem d_T_findError_39 : decode b_T_findError 39 = .ok (.aload_n 0, 1) := by decide +kernel
theorem d_T_findError_40 : decode b_T_findError 40 = .ok (.bipush 59, 2) := by decide +kernel
theorem d_T_findError_42 : decode b_T_findError 42 = .ok (.invokevirtual 42, 3) := by decide +kernel
theorem d_T_findError_45 : decode b_T_findError 45 = .ok (.ifCond .ne 23, 3) := by decide +kernel
theorem d_T_findError_48 : decode b_T_findError 48 = .ok (.aload_n 0, 1) := by decide +kernel
theorem d_T_findError_49 : decode b_T_findError 49 = .ok (.getfield 19, 3) := by decide +kernel
theorem d_T_findError_52 : decode b_T_findError 52 = .ok (.aload_n 0, 1) := by decide +kernel
theorem d_T_findError_53 : decode b_T_findError 53 = .ok (.getfield 15, 3) := by decide +kernel
theorem d_T_findError_56 : decode b_T_findError 56 = .ok (.if_icmp .ge 10, 3) := by decide +kernel
theorem d_T_findError_59 : decode b_T_findError 59 = .ok (.aload_n 0, 1) := by decide +kernel
theorem d_T_findError_60 : decode b_T_findError 60 = .ok (.getfield 19, 3) := by decide +kernel
theorem d_T_findError_63 : decode b_T_findError 63 = .ok (.goto 4, 3) := by decide +kernel
theorem d_T_findError_66 : decode b_T_findError 66 = .ok (.iconst (-1), 1) := by decide +kernel
theorem d_T_findError_67 : decode b_T_findError 67 = .ok (.ireturn, 1) := by decide +kernel
theorem d_T_findError_68 : decode b_T_findError 68 = .ok (.iinc 1 1, 3) := by decide +kernel
theorem d_T_findError_71 : decode b_T_findError 71 = .ok (.goto (-60), 3) := by decide +kernel
theorem d_T_findError_74 : decode b_T_findError 74 = .ok (.aload_n 0, 1) := by decide +kernel
theorem d_T_findError_75 : decode b_T_findError 75 = .ok (.getfield 19, 3) := by decide +kernel
theorem d_T_findError_78 : decode b_T_findError 78 = .ok (.ireturn, 1) := by decide +kernel
theorem d_T_rewind_0 : decode b_T_rewind 0 = .ok (.aload_n 0, 1) := by decide +kernel
theorem d_T_rewind_1 : decode b_T_rewind 1 = .ok (.iconst 0, 1) := by decide +kernel
theorem d_T_rewind_2 : decode b_T_rewind 2 = .ok (.putfield 19, 3) := by decide +kernel
theorem d_T_rewind_5 : decode b_T_rewind 5 = .ok (.return_, 1) := by decide +kernel
theorem d_T_takeOrder_0 : decode b_T_takeOrder 0 = .ok (.aload_n 0, 1) := by decide +kernel
theorem d_T_takeOrder_1 : decode b_T_takeOrder 1 = .ok (.aload_n 0, 1) := by decide +kernel
theorem d_T_takeOrder_2 : decode b_T_takeOrder 2 = .ok (.invokevirtual 46, 3) := by decide +kernel
theorem d_T_takeOrder_5 : decode b_T_takeOrder 5 = .ok (.putfield 25, 3) := by decide +kernel
theorem d_T_takeOrder_8 : decode b_T_takeOrder 8 = .ok (.aload_n 0, 1) := by decide +kernel
theorem d_T_takeOrder_9 : decode b_T_takeOrder 9 = .ok (.getfield 25, 3) := by decide +kernel
theorem d_T_takeOrder_12 : decode b_T_takeOrder 12 = .ok (.tableswitch 134 98 119 #[119, 119, 134, 134, 134, 134, 134, 134, 134, 134, 134, 134, 134, 119, 134, 134, 119, 104, 134, 119, 134, 119], 104) := by decide +kernel
theorem d_T_takeOrder_116 : decode b_T_takeOrder 116 = .ok (.aload_n 0, 1) := by decide +kernel
theorem d_T_takeOrder_117 : decode b_T_takeOrder 117 = .ok (.dup, 1) := by decide +kernel
theorem d_T_takeOrder_118 : decode b_T_takeOrder 118 = .ok (.getfield 19, 3) := by decide +kernel
theorem d_T_takeOrder_121 : decode b_T_takeOrder 121 = .ok (.iconst 1, 1) := by decide +kernel
theorem d_T_takeOrder_122 : decode b_T_takeOrder 122 = .ok (.iadd, 1) := by decide +kernel
theorem d_T_takeOrder_123 : decode b_T_takeOrder 123 = .ok (.putfield 19, 3) := by decide +kernel
theorem d_T_takeOrder_126 : decode b_T_takeOrder 126 = .ok (.aload_n 0, 1) := by decide +kernel
theorem d_T_takeOrder_127 : decode b_T_takeOrder 127 = .ok (.invokevirtual 50, 3) := by decide +kernel
theorem d_T_takeOrder_130 : decode b_T_takeOrder 130 = .ok (.ireturn, 1) := by decide +kernel
theorem d_T_takeOrder_131 : decode b_T_takeOrder 131 = .ok (.aload_n 0, 1) := by decide +kernel
theorem d_T_takeOrder_132 : decode b_T_takeOrder 132 = .ok (.dup, 1) := by decide +kernel
theorem d_T_takeOrder_133 : decode b_T_takeOrder 133 = .ok (.getfield 19, 3) := by decide +kernel
theorem d_T_takeOrder_136 : decode b_T_takeOrder 136 = .ok (.iconst 1, 1) := by decide +kernel
theorem d_T_takeOrder_137 : decode b_T_takeOrder 137 = .ok (.iadd, 1) := by decide +kernel
theorem d_T_takeOrder_138 : decode b_T_takeOrder 138 = .ok (.putfield 19, 3) := by decide +kernel
theorem d_T_takeOrder_141 : decode b_T_takeOrder 141 = .ok (.aload_n 0, 1) := by decide +kernel
theorem d_T_takeOrder_142 : decode b_T_takeOrder 142 = .ok (.invokevirtual 53, 3) := by decide +kernel
theorem d_T_takeOrder_145 : decode b_T_takeOrder 145 = .ok (.ireturn, 1) := by decide +kernel
theorem d_T_takeOrder_146 : decode b_T_takeOrder 146 = .ok (.iconst 0, 1) := by decide +kernel
theorem d_T_takeOrder_147 : decode b_T_takeOrder 147 = .ok (.ireturn, 1) := by decide +kernel
theorem d_T_sign_0 : decode b_T_sign 0 = .ok (.aload_n 0, 1) := by decide +kernel
theorem d_T_sign_1 : decode b_T_sign 1 = .ok (.getfield 19, 3) := by decide +kernel
theorem d_T_sign_4 : decode b_T_sign 4 = .ok (.ifCond .lt 38, 3) := by decide +kernel
theorem d_T_sign_7 : decode b_T_sign 7 = .ok (.aload_n 0, 1) := by decide +kernel
theorem d_T_sign_8 : decode b_T_sign 8 = .ok (.getfield 19, 3) := by decide +kernel
theorem d_T_sign_11 : decode b_T_sign 11 = .ok (.aload_n 0, 1) := by decide +kernel
theorem d_T_sign_12 : decode b_T_sign 12 = .ok (.getfield 15, 3) := by decide +kernel
theorem d_T_sign_15 : decode b_T_sign 15 = .ok (.if_icmp .ge 27, 3) := by decide +kernel
theorem d_T_sign_18 : decode b_T_sign 18 = .ok (.aload_n 0, 1) := by decide +kernel
theorem d_T_sign_19 : decode b_T_sign 19 = .ok (.getfield 19, 3) := by decide +kernel
theorem d_T_sign_22 : decode b_T_sign 22 = .ok (.aload_n 0, 1) := by decide +kernel
theorem d_T_sign_23 : decode b_T_sign 23 = .ok (.getfield 9, 3) := by decide +kernel
theorem d_T_sign_26 : decode b_T_sign 26 = .ok (.arraylength, 1) := by decide +kernel
theorem d_T_sign_27 : decode b_T_sign 27 = .ok (.if_icmp .ge 15, 3) := by decide +kernel
theorem d_T_sign_30 : decode b_T_sign 30 = .ok (.aload_n 0, 1) := by decide +kernel
theorem d_T_sign_31 : decode b_T_sign 31 = .ok (.getfield 9, 3) := by decide +kernel
theorem d_T_sign_34 : decode b_T_sign 34 = .ok (.aload_n 0, 1) := by decide +kernel
theorem d_T_sign_35 : decode b_T_sign 35 = .ok (.getfield 19, 3) := by decide +kernel
theorem d_T_sign_38 : decode b_T_sign 38 = .ok (.caload, 1) := by decide +kernel
theorem d_T_sign_39 : decode b_T_sign 39 = .ok (.goto 4, 3) := by decide +kernel
theorem d_T_sign_42 : decode b_T_sign 42 = .ok (.iconst 0, 1) := by decide +kernel
theorem d_T_sign_43 : decode b_T_sign 43 = .ok (.ireturn, 1) := by decide +kernel
theorem d_T_takeSale_0 : decode b_T_takeSale 0 = .ok (.aload_n 0, 1) := by decide +kernel
theorem d_T_takeSale_1 : decode b_T_takeSale 1 = .ok (.iconst 0, 1) := by decide +kernel
theorem d_T_takeSale_2 : decode b_T_takeSale 2 = .ok (.putfield 29, 3) := by decide +kernel
theorem d_T_takeSale_5 : decode b_T_takeSale 5 = .ok (.aload_n 0, 1) := by decide +kernel
theorem d_T_takeSale_6 : decode b_T_takeSale 6 = .ok (.iconst 1, 1) := by decide +kernel
theorem d_T_takeSale_7 : decode b_T_takeSale 7 = .ok (.putfield 32, 3) := by decide +kernel
theorem d_T_takeSale_10 : decode b_T_takeSale 10 = .ok (.aload_n 0, 1) := by decide +kernel
theorem d_T_takeSale_11 : decode b_T_takeSale 11 = .ok (.invokevirtual 56, 3) := by decide +kernel
theorem d_T_takeSale_14 : decode b_T_takeSale 14 = .ok (.ifCond .ne 5, 3) := by decide +kernel
theorem d_T_takeSale_17 : decode b_T_takeSale 17 = .ok (.iconst 0, 1) := by decide +kernel
theorem d_T_takeSale_18 : decode b_T_takeSale 18 = .ok (.ireturn, 1) := by decide +kernel
theorem d_T_takeSale_19 : decode b_T_takeSale 19 = .ok (.aload_n 0, 1) := by decide +kernel
theorem d_T_takeSale_20 : decode b_T_takeSale 20 = .ok (.getfield 29, 3) := by decide +kernel
theorem d_T_takeSale_23 : decode b_T_takeSale 23 = .ok (.istore_n 1, 1) := by decide +kernel
theorem d_T_takeSale_24 : decode b_T_takeSale 24 = .ok (.aload_n 0, 1) := by decide +kernel
theorem d_T_takeSale_25 : decode b_T_takeSale 25 = .ok (.bipush 42, 2) := by decide +kernel
theorem d_T_takeSale_27 : decode b_T_takeSale 27 = .ok (.invokevirtual 42, 3) := by decide +kernel
theorem d_T_takeSale_30 : decode b_T_takeSale 30 = .ok (.ifCond .eq 30, 3) := by decide +kernel
theorem d_T_takeSale_33 : decode b_T_takeSale 33 = .ok (.aload_n 0, 1) := by decide +kernel
theorem d_T_takeSale_34 : decode b_T_takeSale 34 = .ok (.iconst 0, 1) := by decide +kernel
theorem d_T_takeSale_35 : decode b_T_takeSale 35 = .ok (.putfield 29, 3) := by decide +kernel
theorem d_T_takeSale_38 : decode b_T_takeSale 38 = .ok (.aload_n 0, 1) := by decide +kernel
theorem d_T_takeSale_39 : decode b_T_takeSale 39 = .ok (.invokevirtual 56, 3) := by decide +kernel
theorem d_T_takeSale_42 : decode b_T_takeSale 42 = .ok (.ifCond .ne 5, 3) := by decide +kernel
theorem d_T_takeSale_45 : decode b_T_takeSale 45 = .ok (.iconst 0, 1) := by decide +kernel
theorem d_T_takeSale_46 : decode b_T_takeSale 46 = .ok (.ireturn, 1) := by decide +kernel
theorem d_T_takeSale_47 : decode b_T_takeSale 47 = .ok (.aload_n 0, 1) := by decide +kernel
theorem d_T_takeSale_48 : decode b_T_takeSale 48 = .ok (.aload_n 0, 1) := by decide +kernel
theorem d_T_takeSale_49 : decode b_T_takeSale 49 = .ok (.getfield 29, 3) := by decide +kernel
theorem d_T_takeSale_52 : decode b_T_takeSale 52 = .ok (.putfield 32, 3) := by decide +kernel
theorem d_T_takeSale_55 : decode b_T_takeSale 55 = .ok (.aload_n 0, 1) := by decide +kernel
theorem d_T_takeSale_56 : decode b_T_takeSale 56 = .ok (.iload_n 1, 1) := by decide +kernel
theorem d_T_takeSale_57 : decode b_T_takeSale 57 = .ok (.putfield 29, 3) := by decide +kernel
theorem d_T_takeSale_60 : decode b_T_takeSale 60 = .ok (.iconst 1, 1) := by decide +kernel
theorem d_T_takeSale_61 : decode b_T_takeSale 61 = .ok (.ireturn, 1) := by decide +kernel
theorem d_T_takeDigit_0 : decode b_T_takeDigit 0 = .ok (.aload_n 0, 1) := by decide +kernel
theorem d_T_takeDigit_1 : decode b_T_takeDigit 1 = .ok (.invokevirtual 46, 3) := by decide +kernel
theorem d_T_takeDigit_4 : decode b_T_takeDigit 4 = .ok (.istore_n 1, 1) := by decide +kernel
theorem d_T_takeDigit_5 : decode b_T_takeDigit 5 = .ok (.iload_n 1, 1) := by decide +kernel
theorem d_T_takeDigit_6 : decode b_T_takeDigit 6 = .ok (.bipush 48, 2) := by decide +kernel
theorem d_T_takeDigit_8 : decode b_T_takeDigit 8 = .ok (.if_icmp .lt 9, 3) := by decide +kernel
theorem d_T_takeDigit_11 : decode b_T_takeDigit 11 = .ok (.iload_n 1, 1) := by decide +kernel
theorem d_T_takeDigit_12 : decode b_T_takeDigit 12 = .ok (.bipush 57, 2) := by decide +kernel
theorem d_T_takeDigit_14 : decode b_T_takeDigit 14 = .ok (.if_icmp .le 5, 3) := by decide +kernel
theorem d_T_takeDigit_17 : decode b_T_takeDigit 17 = .ok (.iconst 0, 1) := by decide +kernel
theorem d_T_takeDigit_18 : decode b_T_takeDigit 18 = .ok (.ireturn, 1) := by decide +kernel
theorem d_T_takeDigit_19 : decode b_T_takeDigit 19 = .ok (.aload_n 0, 1) := by decide +kernel
theorem d_T_takeDigit_20 : decode b_T_takeDigit 20 = .ok (.aload_n 0, 1) := by decide +kernel
theorem d_T_takeDigit_21 : decode b_T_takeDigit 21 = .ok (.getfield 29, 3) := by decide +kernel
theorem d_T_takeDigit_24 : decode b_T_takeDigit 24 = .ok (.bipush 10, 2) := by decide +kernel
theorem d_T_takeDigit_26 : decode b_T_takeDigit 26 = .ok (.imul, 1) := by decide +kernel
theorem d_T_takeDigit_27 : decode b_T_takeDigit 27 = .ok (.iload_n 1, 1) := by decide +kernel
theorem d_T_takeDigit_28 : decode b_T_takeDigit 28 = .ok (.iadd, 1) := by decide +kernel
theorem d_T_takeDigit_29 : decode b_T_takeDigit 29 = .ok (.bipush 48, 2) := by decide +kernel
theorem d_T_takeDigit_31 : decode b_T_takeDigit 31 = .ok (.isub, 1) := by decide +kernel
theorem d_T_takeDigit_32 : decode b_T_takeDigit 32 = .ok (.putfield 29, 3) := by decide +kernel
theorem d_T_takeDigit_35 : decode b_T_takeDigit 35 = .ok (.aload_n 0, 1) := by decide +kernel
theorem d_T_takeDigit_36 : decode b_T_takeDigit 36 = .ok (.dup, 1) := by decide +kernel
theorem d_T_takeDigit_37 : decode b_T_takeDigit 37 = .ok (.getfield 19, 3) := by decide +kernel
theorem d_T_takeDigit_40 : decode b_T_takeDigit 40 = .ok (.iconst 1, 1) := by decide +kernel
theorem d_T_takeDigit_41 : decode b_T_takeDigit 41 = .ok (.iadd, 1) := by decide +kernel
theorem d_T_takeDigit_42 : decode b_T_takeDigit 42 = .ok (.putfield 19, 3) := by decide +kernel
theorem d_T_takeDigit_45 : decode b_T_takeDigit 45 = .ok (.iconst 1, 1) := by decide +kernel
theorem d_T_takeDigit_46 : decode b_T_takeDigit 46 = .ok (.ireturn, 1) := by decide +kernel
theorem d_T_skip_0 : decode b_T_skip 0 = .ok (.aload_n 0, 1) := by decide +kernel
theorem d_T_skip_1 : decode b_T_skip 1 = .ok (.invokevirtual 46, 3) := by decide +kernel
theorem d_T_skip_4 : decode b_T_skip 4 = .ok (.iload_n 1, 1) := by decide +kernel
theorem d_T_skip_5 : decode b_T_skip 5 = .ok (.if_icmp .ne 7, 3) := by decide +kernel
theorem d_T_skip_8 : decode b_T_skip 8 = .ok (.iconst 1, 1) := by decide +kernel
theorem d_T_skip_9 : decode b_T_skip 9 = .ok (.goto 4, 3) := by decide +kernel
theorem d_T_skip_12 : decode b_T_skip 12 = .ok (.iconst 0, 1) := by decide +kernel
theorem d_T_skip_13 : decode b_T_skip 13 = .ok (.istore_n 2, 1) := by decide +kernel
theorem d_T_skip_14 : decode b_T_skip 14 = .ok (.aload_n 0, 1) := by decide +kernel
theorem d_T_skip_15 : decode b_T_skip 15 = .ok (.dup, 1) := by decide +kernel
theorem d_T_skip_16 : decode b_T_skip 16 = .ok (.getfield 19, 3) := by decide +kernel
theorem d_T_skip_19 : decode b_T_skip 19 = .ok (.iload_n 2, 1) := by decide +kernel
theorem d_T_skip_20 : decode b_T_skip 20 = .ok (.ifCond .eq 7, 3) := by decide +kernel
theorem d_T_skip_23 : decode b_T_skip 23 = .ok (.iconst 1, 1) := by decide +kernel
theorem d_T_skip_24 : decode b_T_skip 24 = .ok (.goto 4, 3) := by decide +kernel
theorem d_T_skip_27 : decode b_T_skip 27 = .ok (.iconst 0, 1) := by decide +kernel
theorem d_T_skip_28 : decode b_T_skip 28 = .ok (.iadd, 1) := by decide +kernel
theorem d_T_skip_29 : decode b_T_skip 29 = .ok (.putfield 19, 3) := by decide +kernel
theorem d_T_skip_32 : decode b_T_skip 32 = .ok (.iload_n 2, 1) := by decide +kernel
theorem d_T_skip_33 : decode b_T_skip 33 = .ok (.ireturn, 1) := by decide +kernel
theorem d_T_takeNumber_0 : decode b_T_takeNumber 0 = .ok (.aload_n 0, 1) := by decide +kernel
theorem d_T_takeNumber_1 : decode b_T_takeNumber 1 = .ok (.iconst 0, 1) := by decide +kernel
theorem d_T_takeNumber_2 : decode b_T_takeNumber 2 = .ok (.putfield 29, 3) := by decide +kernel
theorem d_T_takeNumber_5 : decode b_T_takeNumber 5 = .ok (.aload_n 0, 1) := by decide +kernel
theorem d_T_takeNumber_6 : decode b_T_takeNumber 6 = .ok (.invokevirtual 56, 3) := by decide +kernel
theorem d_T_takeNumber_9 : decode b_T_takeNumber 9 = .ok (.ifCond .ne 5, 3) := by decide +kernel
theorem d_T_takeNumber_12 : decode b_T_takeNumber 12 = .ok (.iconst 0, 1) := by decide +kernel
theorem d_T_takeNumber_13 : decode b_T_takeNumber 13 = .ok (.ireturn, 1) := by decide +kernel
theorem d_T_takeNumber_14 : decode b_T_takeNumber 14 = .ok (.iconst 1, 1) := by decide +kernel
theorem d_T_takeNumber_15 : decode b_T_takeNumber 15 = .ok (.istore_n 1, 1) := by decide +kernel
theorem d_T_takeNumber_16 : decode b_T_takeNumber 16 = .ok (.iload_n 1, 1) := by decide +kernel
theorem d_T_takeNumber_17 : decode b_T_takeNumber 17 = .ok (.iconst 4, 1) := by decide +kernel
theorem d_T_takeNumber_18 : decode b_T_takeNumber 18 = .ok (.if_icmp .ge 25, 3) := by decide +kernel
theorem d_T_takeNumber_21 : decode b_T_takeNumber 21 = .ok (.aload_n 0, 1) := by decide +kernel
theorem d_T_takeNumber_22 : decode b_T_takeNumber 22 = .ok (.getfield 29, 3) := by decide +kernel
theorem d_T_takeNumber_25 : decode b_T_takeNumber 25 = .ok (.ifCond .le 18, 3) := by decide +kernel
theorem d_T_takeNumber_28 : decode b_T_takeNumber 28 = .ok (.aload_n 0, 1) := by decide +kernel
theorem d_T_takeNumber_29 : decode b_T_takeNumber 29 = .ok (.invokevirtual 56, 3) := by decide +kernel
theorem d_T_takeNumber_32 : decode b_T_takeNumber 32 = .ok (.ifCond .ne 5, 3) := by decide +kernel
theorem d_T_takeNumber_35 : decode b_T_takeNumber 35 = .ok (.iconst 1, 1) := by decide +kernel
theorem d_T_takeNumber_36 : decode b_T_takeNumber 36 = .ok (.ireturn, 1) := by decide +kernel
theorem d_T_takeNumber_37 : decode b_T_takeNumber 37 = .ok (.iinc 1 1, 3) := by decide +kernel
theorem d_T_takeNumber_40 : decode b_T_takeNumber 40 = .ok (.goto (-24), 3) := by decide +kernel
theorem d_T_takeNumber_43 : decode b_T_takeNumber 43 = .ok (.iconst 1, 1) := by decide +kernel
theorem d_T_takeNumber_44 : decode b_T_takeNumber 44 = .ok (.ireturn, 1) := by decide +kernel
theorem d_T_empty_0 : decode b_T_empty 0 = .ok (.aload_n 0, 1) := by decide +kernel
theorem d_T_empty_1 : decode b_T_empty 1 = .ok (.iconst 0, 1) := by decide +kernel
theorem d_T_empty_2 : decode b_T_empty 2 = .ok (.putfield 15, 3) := by decide +kernel
theorem d_T_empty_5 : decode b_T_empty 5 = .ok (.return_, 1) := by decide +kernel
theorem d_S_init_0 : decode b_S_init 0 = .ok (.aload_n 0, 1) := by decide +kernel
theorem d_S_init_1 : decode b_S_init 1 = .ok (.invokespecial 3, 3) := by decide +kernel
theorem d_S_init_4 : decode b_S_init 4 = .ok (.aload_n 0, 1) := by decide +kernel
theorem d_S_init_5 : decode b_S_init 5 = .ok (.iconst 4, 1) := by decide +kernel
theorem d_S_init_6 : decode b_S_init 6 = .ok (.newarray .int, 2) := by decide +kernel
theorem d_S_init_8 : decode b_S_init 8 = .ok (.putfield 9, 3) := by decide +kernel
theorem d_S_init_11 : decode b_S_init 11 = .ok (.return_, 1) := by decide +kernel
theorem d_S_divide_0 : decode b_S_divide 0 = .ok (.aload_n 1, 1) := by decide +kernel
theorem d_S_divide_1 : decode b_S_divide 1 = .ok (.invokevirtual 15, 3) := by decide +kernel
theorem d_S_divide_4 : decode b_S_divide 4 = .ok (.aload_n 1, 1) := by decide +kernel
theorem d_S_divide_5 : decode b_S_divide 5 = .ok (.getfield 21, 3) := by decide +kernel
theorem d_S_divide_8 : decode b_S_divide 8 = .ok (.isub, 1) := by decide +kernel
theorem d_S_divide_9 : decode b_S_divide 9 = .ok (.istore_n 2, 1) := by decide +kernel
theorem d_S_divide_10 : decode b_S_divide 10 = .ok (.iload_n 2, 1) := by decide +kernel
theorem d_S_divide_11 : decode b_S_divide 11 = .ok (.istore_n 3, 1) := by decide +kernel
theorem d_S_divide_12 : decode b_S_divide 12 = .ok (.iconst 0, 1) := by decide +kernel
theorem d_S_divide_13 : decode b_S_divide 13 = .ok (.istore 4, 2) := by decide +kernel
theorem d_S_divide_15 : decode b_S_divide 15 = .ok (.iconst 0, 1) := by decide +kernel
theorem d_S_divide_16 : decode b_S_divide 16 = .ok (.istore 5, 2) := by decide +kernel
theorem d_S_divide_18 : decode b_S_divide 18 = .ok (.iconst 0, 1) := by decide +kernel
theorem d_S_divide_19 : decode b_S_divide 19 = .ok (.istore 6, 2) := by decide +kernel
theorem d_S_divide_21 : decode b_S_divide 21 = .ok (.iload 6, 2) := by decide +kernel
theorem d_S_divide_23 : decode b_S_divide 23 = .ok (.aload_n 0, 1) := by decide +kernel
theorem d_S_divide_24 : decode b_S_divide 24 = .ok (.getfield 9, 3) := by decide +kernel
theorem d_S_divide_27 : decode b_S_divide 27 = .ok (.arraylength, 1) := by decide +kernel
theorem d_S_divide_28 : decode b_S_divide 28 = .ok (.if_icmp .ge 59, 3) := by decide +kernel
theorem d_S_divide_31 : decode b_S_divide 31 = .ok (.aload_n 1, 1) := by decide +kernel
theorem d_S_divide_32 : decode b_S_divide 32 = .ok (.iload 6, 2) := by decide +kernel
theorem d_S_divide_34 : decode b_S_divide 34 = .ok (.invokevirtual 25, 3) := by decide +kernel
theorem d_S_divide_37 : decode b_S_divide 37 = .ok (.istore 7, 2) := by decide +kernel
theorem d_S_divide_39 : decode b_S_divide 39 = .ok (.iload 7, 2) := by decide +kernel
theorem d_S_divide_41 : decode b_S_divide 41 = .ok (.iload 5, 2) := by decide +kernel
theorem d_S_divide_43 : decode b_S_divide 43 = .ok (.if_icmp .le 11, 3) := by decide +kernel
theorem d_S_divide_46 : decode b_S_divide 46 = .ok (.iload 7, 2) := by decide +kernel
theorem d_S_divide_48 : decode b_S_divide 48 = .ok (.istore 5, 2) := by decide +kernel
theorem d_S_divide_50 : decode b_S_divide 50 = .ok (.iload 6, 2) := by decide +kernel
theorem d_S_divide_52 : decode b_S_divide 52 = .ok (.istore 4, 2) := by decide +kernel
theorem d_S_divide_54 : decode b_S_divide 54 = .ok (.aload_n 0, 1) := by decide +kernel
theorem d_S_divide_55 : decode b_S_divide 55 = .ok (.getfield 9, 3) := by decide +kernel
theorem d_S_divide_58 : decode b_S_divide 58 = .ok (.iload 6, 2) := by decide +kernel
theorem d_S_divide_60 : decode b_S_divide 60 = .ok (.iload_n 2, 1) := by decide +kernel
theorem d_S_divide_61 : decode b_S_divide 61 = .ok (.iload 7, 2) := by decide +kernel
theorem d_S_divide_63 : decode b_S_divide 63 = .ok (.aload_n 1, 1) := by decide +kernel
theorem d_S_divide_64 : decode b_S_divide 64 = .ok (.invokevirtual 29, 3) := by decide +kernel
theorem d_S_divide_67 : decode b_S_divide 67 = .ok (.invokestatic 32, 3) := by decide +kernel
theorem d_S_divide_70 : decode b_S_divide 70 = .ok (.iastore, 1) := by decide +kernel
theorem d_S_divide_71 : decode b_S_divide 71 = .ok (.iload_n 3, 1) := by decide +kernel
theorem d_S_divide_72 : decode b_S_divide 72 = .ok (.aload_n 0, 1) := by decide +kernel
theorem d_S_divide_73 : decode b_S_divide 73 = .ok (.getfield 9, 3) := by decide +kernel
theorem d_S_divide_76 : decode b_S_divide 76 = .ok (.iload 6, 2) := by decide +kernel
theorem d_S_divide_78 : decode b_S_divide 78 = .ok (.iaload, 1) := by decide +kernel
theorem d_S_divide_79 : decode b_S_divide 79 = .ok (.isub, 1) := by decide +kernel
theorem d_S_divide_80 : decode b_S_divide 80 = .ok (.istore_n 3, 1) := by decide +kernel
theorem d_S_divide_81 : decode b_S_divide 81 = .ok (.iinc 6 1, 3) := by decide +kernel
theorem d_S_divide_84 : decode b_S_divide 84 = .ok (.goto (-63), 3) := by decide +kernel
theorem d_S_divide_87 : decode b_S_divide 87 = .ok (.iload 5, 2) := by decide +kernel
theorem d_S_divide_89 : decode b_S_divide 89 = .ok (.ifCond .le 24, 3) := by decide +kernel
theorem d_S_divide_92 : decode b_S_divide 92 = .ok (.iload 4, 2) := by decide +kernel
theorem d_S_divide_94 : decode b_S_divide 94 = .ok (.aload_n 0, 1) := by decide +kernel
theorem d_S_divide_95 : decode b_S_divide 95 = .ok (.getfield 9, 3) := by decide +kernel
theorem d_S_divide_98 : decode b_S_divide 98 = .ok (.arraylength, 1) := by decide +kernel
theorem d_S_divide_99 : decode b_S_divide 99 = .ok (.if_icmp .ge 14, 3) := by decide +kernel
theorem d_S_divide_102 : decode b_S_divide 102 = .ok (.aload_n 0, 1) := by decide +kernel
theorem d_S_divide_103 : decode b_S_divide 103 = .ok (.getfield 9, 3) := by decide +kernel
theorem d_S_divide_106 : decode b_S_divide 106 = .ok (.iload 4, 2) := by decide +kernel
theorem d_S_divide_108 : decode b_S_divide 108 = .ok (.dup2, 1) := by decide +kernel
theorem d_S_divide_109 : decode b_S_divide 109 = .ok (.iaload, 1) := by decide +kernel
theorem d_S_divide_110 : decode b_S_divide 110 = .ok (.iload_n 3, 1) := by decide +kernel
theorem d_S_divide_111 : decode b_S_divide 111 = .ok (.iadd, 1) := by decide +kernel
theorem d_S_divide_112 : decode b_S_divide 112 = .ok (.iastore, 1) := by decide +kernel
theorem d_S_divide_113 : decode b_S_divide 113 = .ok (.return_, 1) := by decide +kernel
theorem d_S_partByRides_0 : decode b_S_partByRides 0 = .ok (.iload_n 2, 1) := by decide +kernel
theorem d_S_partByRides_1 : decode b_S_partByRides 1 = .ok (.ifCond .gt 7, 3) := by decide +kernel
theorem d_S_partByRides_4 : decode b_S_partByRides 4 = .ok (.iconst 0, 1) := by decide +kernel
theorem d_S_partByRides_5 : decode b_S_partByRides 5 = .ok (.goto 8, 3) := by decide +kernel
theorem d_S_partByRides_8 : decode b_S_partByRides 8 = .ok (.iload_n 0, 1) := by decide +kernel
theorem d_S_partByRides_9 : decode b_S_partByRides 9 = .ok (.iload_n 1, 1) := by decide +kernel
theorem d_S_partByRides_10 : decode b_S_partByRides 10 = .ok (.imul, 1) := by decide +kernel
theorem d_S_partByRides_11 : decode b_S_partByRides 11 = .ok (.iload_n 2, 1) := by decide +kernel
theorem d_S_partByRides_12 : decode b_S_partByRides 12 = .ok (.idiv, 1) := by decide +kernel
theorem d_S_partByRides_13 : decode b_S_partByRides 13 = .ok (.ireturn, 1) := by decide +kernel
theorem d_S_partOf_0 : decode b_S_partOf 0 = .ok (.iload_n 1, 1) := by decide +kernel
theorem d_S_partOf_1 : decode b_S_partOf 1 = .ok (.ifCond .lt 21, 3) := by decide +kernel
theorem d_S_partOf_4 : decode b_S_partOf 4 = .ok (.iload_n 1, 1) := by decide +kernel
theorem d_S_partOf_5 : decode b_S_partOf 5 = .ok (.aload_n 0, 1) := by decide +kernel
theorem d_S_partOf_6 : decode b_S_partOf 6 = .ok (.getfield 9, 3) := by decide +kernel
theorem d_S_partOf_9 : decode b_S_partOf 9 = .ok (.arraylength, 1) := by decide +kernel
theorem d_S_partOf_10 : decode b_S_partOf 10 = .ok (.if_icmp .ge 12, 3) := by decide +kernel
theorem d_S_partOf_13 : decode b_S_partOf 13 = .ok (.aload_n 0, 1) := by decide +kernel
theorem d_S_partOf_14 : decode b_S_partOf 14 = .ok (.getfield 9, 3) := by decide +kernel
theorem d_S_partOf_17 : decode b_S_partOf 17 = .ok (.iload_n 1, 1) := by decide +kernel
theorem d_S_partOf_18 : decode b_S_partOf 18 = .ok (.iaload, 1) := by decide +kernel
theorem d_S_partOf_19 : decode b_S_partOf 19 = .ok (.goto 4, 3) := by decide +kernel
theorem d_S_partOf_22 : decode b_S_partOf 22 = .ok (.iconst 0, 1) := by decide +kernel
theorem d_S_partOf_23 : decode b_S_partOf 23 = .ok (.ireturn, 1) := by decide +kernel
theorem d_G_wayTo_0 : decode b_G_wayTo 0 = .ok (.aload_n 0, 1) := by decide +kernel
theorem d_G_wayTo_1 : decode b_G_wayTo 1 = .ok (.getfield 18, 3) := by decide +kernel
theorem d_G_wayTo_4 : decode b_G_wayTo 4 = .ok (.aload_n 1, 1) := by decide +kernel
theorem d_G_wayTo_5 : decode b_G_wayTo 5 = .ok (.getfield 18, 3) := by decide +kernel
theorem d_G_wayTo_8 : decode b_G_wayTo 8 = .ok (.isub, 1) := by decide +kernel
theorem d_G_wayTo_9 : decode b_G_wayTo 9 = .ok (.invokestatic 21, 3) := by decide +kernel
theorem d_G_wayTo_12 : decode b_G_wayTo 12 = .ok (.istore_n 2, 1) := by decide +kernel
theorem d_G_wayTo_13 : decode b_G_wayTo 13 = .ok (.aload_n 0, 1) := by decide +kernel
theorem d_G_wayTo_14 : decode b_G_wayTo 14 = .ok (.getfield 15, 3) := by decide +kernel
theorem d_G_wayTo_17 : decode b_G_wayTo 17 = .ok (.aload_n 1, 1) := by decide +kernel
theorem d_G_wayTo_18 : decode b_G_wayTo 18 = .ok (.getfield 15, 3) := by decide +kernel
theorem d_G_wayTo_21 : decode b_G_wayTo 21 = .ok (.if_icmp .ne 7, 3) := by decide +kernel
theorem d_G_wayTo_24 : decode b_G_wayTo 24 = .ok (.iload_n 2, 1) := by decide +kernel
theorem d_G_wayTo_25 : decode b_G_wayTo 25 = .ok (.goto 7, 3) := by decide +kernel
theorem d_G_wayTo_28 : decode b_G_wayTo 28 = .ok (.iload_n 2, 1) := by decide +kernel
theorem d_G_wayTo_29 : decode b_G_wayTo 29 = .ok (.bipush 10, 2) := by decide +kernel
theorem d_G_wayTo_31 : decode b_G_wayTo 31 = .ok (.iadd, 1) := by decide +kernel
theorem d_G_wayTo_32 : decode b_G_wayTo 32 = .ok (.ireturn, 1) := by decide +kernel
theorem d_G_init_0 : decode b_G_init 0 = .ok (.aload_n 0, 1) := by decide +kernel
theorem d_G_init_1 : decode b_G_init 1 = .ok (.invokespecial 3, 3) := by decide +kernel
theorem d_G_init_4 : decode b_G_init 4 = .ok (.aload_n 0, 1) := by decide +kernel
theorem d_G_init_5 : decode b_G_init 5 = .ok (.iload_n 1, 1) := by decide +kernel
theorem d_G_init_6 : decode b_G_init 6 = .ok (.putfield 9, 3) := by decide +kernel
theorem d_G_init_9 : decode b_G_init 9 = .ok (.aload_n 0, 1) := by decide +kernel
theorem d_G_init_10 : decode b_G_init 10 = .ok (.iload_n 2, 1) := by decide +kernel
theorem d_G_init_11 : decode b_G_init 11 = .ok (.putfield 15, 3) := by decide +kernel
theorem d_G_init_14 : decode b_G_init 14 = .ok (.aload_n 0, 1) := by decide +kernel
theorem d_G_init_15 : decode b_G_init 15 = .ok (.iload_n 3, 1) := by decide +kernel
theorem d_G_init_16 : decode b_G_init 16 = .ok (.putfield 18, 3) := by decide +kernel
theorem d_G_init_19 : decode b_G_init 19 = .ok (.return_, 1) := by decide +kernel
theorem d_P_init_0 : decode b_P_init 0 = .ok (.aload_n 0, 1) := by decide +kernel
theorem d_P_init_1 : decode b_P_init 1 = .ok (.invokespecial 3, 3) := by decide +kernel
theorem d_P_init_4 : decode b_P_init 4 = .ok (.aload_n 0, 1) := by decide +kernel
theorem d_P_init_5 : decode b_P_init 5 = .ok (.iload_n 1, 1) := by decide +kernel
theorem d_P_init_6 : decode b_P_init 6 = .ok (.putfield 9, 3) := by decide +kernel
theorem d_P_init_9 : decode b_P_init 9 = .ok (.aload_n 0, 1) := by decide +kernel
theorem d_P_init_10 : decode b_P_init 10 = .ok (.iload_n 2, 1) := by decide +kernel
theorem d_P_init_11 : decode b_P_init 11 = .ok (.putfield 15, 3) := by decide +kernel
theorem d_P_init_14 : decode b_P_init 14 = .ok (.aload_n 0, 1) := by decide +kernel
theorem d_P_init_15 : decode b_P_init 15 = .ok (.iload_n 3, 1) := by decide +kernel
theorem d_P_init_16 : decode b_P_init 16 = .ok (.putfield 18, 3) := by decide +kernel
theorem d_P_init_19 : decode b_P_init 19 = .ok (.aload_n 0, 1) := by decide +kernel
theorem d_P_init_20 : decode b_P_init 20 = .ok (.iload 4, 2) := by decide +kernel
theorem d_P_init_22 : decode b_P_init 22 = .ok (.putfield 21, 3) := by decide +kernel
theorem d_P_init_25 : decode b_P_init 25 = .ok (.aload_n 0, 1) := by decide +kernel
theorem d_P_init_26 : decode b_P_init 26 = .ok (.iload 5, 2) := by decide +kernel
theorem d_P_init_28 : decode b_P_init 28 = .ok (.putfield 24, 3) := by decide +kernel
theorem d_P_init_31 : decode b_P_init 31 = .ok (.aload_n 0, 1) := by decide +kernel
theorem d_P_init_32 : decode b_P_init 32 = .ok (.iload 6, 2) := by decide +kernel
theorem d_P_init_34 : decode b_P_init 34 = .ok (.putfield 27, 3) := by decide +kernel
theorem d_P_init_37 : decode b_P_init 37 = .ok (.aload_n 0, 1) := by decide +kernel
theorem d_P_init_38 : decode b_P_init 38 = .ok (.iload 7, 2) := by decide +kernel
theorem d_P_init_40 : decode b_P_init 40 = .ok (.putfield 30, 3) := by decide +kernel
theorem d_P_init_43 : decode b_P_init 43 = .ok (.return_, 1) := by decide +kernel
theorem d_P_isFor_0 : decode b_P_isFor 0 = .ok (.aload_n 0, 1) := by decide +kernel
theorem d_P_isFor_1 : decode b_P_isFor 1 = .ok (.getfield 27, 3) := by decide +kernel
theorem d_P_isFor_4 : decode b_P_isFor 4 = .ok (.iload_n 1, 1) := by decide +kernel
theorem d_P_isFor_5 : decode b_P_isFor 5 = .ok (.ishr, 1) := by decide +kernel
theorem d_P_isFor_6 : decode b_P_isFor 6 = .ok (.iconst 1, 1) := by decide +kernel
theorem d_P_isFor_7 : decode b_P_isFor 7 = .ok (.iand, 1) := by decide +kernel
theorem d_P_isFor_8 : decode b_P_isFor 8 = .ok (.iconst 1, 1) := by decide +kernel
theorem d_P_isFor_9 : decode b_P_isFor 9 = .ok (.if_icmp .ne 7, 3) := by decide +kernel
theorem d_P_isFor_12 : decode b_P_isFor 12 = .ok (.iconst 1, 1) := by decide +kernel
theorem d_P_isFor_13 : decode b_P_isFor 13 = .ok (.goto 4, 3) := by decide +kernel
theorem d_P_isFor_16 : decode b_P_isFor 16 = .ok (.iconst 0, 1) := by decide +kernel
theorem d_P_isFor_17 : decode b_P_isFor 17 = .ok (.ireturn, 1) := by decide +kernel
theorem d_P_isForHour_0 : decode b_P_isForHour 0 = .ok (.iload_n 1, 1) := by decide +kernel
theorem d_P_isForHour_1 : decode b_P_isForHour 1 = .ok (.aload_n 0, 1) := by decide +kernel
theorem d_P_isForHour_2 : decode b_P_isForHour 2 = .ok (.getfield 21, 3) := by decide +kernel
theorem d_P_isForHour_5 : decode b_P_isForHour 5 = .ok (.aload_n 0, 1) := by decide +kernel
theorem d_P_isForHour_6 : decode b_P_isForHour 6 = .ok (.getfield 24, 3) := by decide +kernel
theorem d_P_isForHour_9 : decode b_P_isForHour 9 = .ok (.invokestatic 33, 3) := by decide +kernel
theorem d_P_isForHour_12 : decode b_P_isForHour 12 = .ok (.ireturn, 1) := by decide +kernel
theorem d_P_refundPerDay_0 : decode b_P_refundPerDay 0 = .ok (.aload_n 0, 1) := by decide +kernel
theorem d_P_refundPerDay_1 : decode b_P_refundPerDay 1 = .ok (.getfield 15, 3) := by decide +kernel
theorem d_P_refundPerDay_4 : decode b_P_refundPerDay 4 = .ok (.iconst 2, 1) := by decide +kernel
theorem d_P_refundPerDay_5 : decode b_P_refundPerDay 5 = .ok (.if_icmp .eq 10, 3) := by decide +kernel
theorem d_P_refundPerDay_8 : decode b_P_refundPerDay 8 = .ok (.aload_n 0, 1) := by decide +kernel
theorem d_P_refundPerDay_9 : decode b_P_refundPerDay 9 = .ok (.getfield 18, 3) := by decide +kernel
theorem d_P_refundPerDay_12 : decode b_P_refundPerDay 12 = .ok (.ifCond .gt 7, 3) := by decide +kernel
theorem d_P_refundPerDay_15 : decode b_P_refundPerDay 15 = .ok (.iconst 0, 1) := by decide +kernel
theorem d_P_refundPerDay_16 : decode b_P_refundPerDay 16 = .ok (.goto 12, 3) := by decide +kernel
theorem d_P_refundPerDay_19 : decode b_P_refundPerDay 19 = .ok (.aload_n 0, 1) := by decide +kernel
theorem d_P_refundPerDay_20 : decode b_P_refundPerDay 20 = .ok (.getfield 30, 3) := by decide +kernel
theorem d_P_refundPerDay_23 : decode b_P_refundPerDay 23 = .ok (.aload_n 0, 1) := by decide +kernel
theorem d_P_refundPerDay_24 : decode b_P_refundPerDay 24 = .ok (.getfield 18, 3) := by decide +kernel
theorem d_P_refundPerDay_27 : decode b_P_refundPerDay 27 = .ok (.idiv, 1) := by decide +kernel
theorem d_P_refundPerDay_28 : decode b_P_refundPerDay 28 = .ok (.ireturn, 1) := by decide +kernel
theorem d_I_init_0 : decode b_I_init 0 = .ok (.aload_n 0, 1) := by decide +kernel
theorem d_I_init_1 : decode b_I_init 1 = .ok (.invokespecial 3, 3) := by decide +kernel
theorem d_I_init_4 : decode b_I_init 4 = .ok (.iconst 1, 1) := by decide +kernel
theorem d_I_init_5 : decode b_I_init 5 = .ok (.iload_n 3, 1) := by decide +kernel
theorem d_I_init_6 : decode b_I_init 6 = .ok (.sipush 1440, 3) := by decide +kernel
theorem d_I_init_9 : decode b_I_init 9 = .ok (.idiv, 1) := by decide +kernel
theorem d_I_init_10 : decode b_I_init 10 = .ok (.ishl, 1) := by decide +kernel
theorem d_I_init_11 : decode b_I_init 11 = .ok (.istore 4, 2) := by decide +kernel
theorem d_I_init_13 : decode b_I_init 13 = .ok (.aload_n 0, 1) := by decide +kernel
theorem d_I_init_14 : decode b_I_init 14 = .ok (.aload_n 1, 1) := by decide +kernel
theorem d_I_init_15 : decode b_I_init 15 = .ok (.putfield 9, 3) := by decide +kernel
theorem d_I_init_18 : decode b_I_init 18 = .ok (.aload_n 0, 1) := by decide +kernel
theorem d_I_init_19 : decode b_I_init 19 = .ok (.aload_n 2, 1) := by decide +kernel
theorem d_I_init_20 : decode b_I_init 20 = .ok (.putfield 15, 3) := by decide +kernel
theorem d_I_init_23 : decode b_I_init 23 = .ok (.aload_n 0, 1) := by decide +kernel
theorem d_I_init_24 : decode b_I_init 24 = .ok (.iload_n 3, 1) := by decide +kernel
theorem d_I_init_25 : decode b_I_init 25 = .ok (.putfield 19, 3) := by decide +kernel
theorem d_I_init_28 : decode b_I_init 28 = .ok (.aload_n 0, 1) := by decide +kernel
theorem d_I_init_29 : decode b_I_init 29 = .ok (.aload_n 1, 1) := by decide +kernel
theorem d_I_init_30 : decode b_I_init 30 = .ok (.ifnonnull 7, 3) := by decide +kernel
theorem d_I_init_33 : decode b_I_init 33 = .ok (.iconst 1, 1) := by decide +kernel
theorem d_I_init_34 : decode b_I_init 34 = .ok (.goto 9, 3) := by decide +kernel
theorem d_I_init_37 : decode b_I_init 37 = .ok (.aload_n 1, 1) := by decide +kernel
theorem d_I_init_38 : decode b_I_init 38 = .ok (.getfield 23, 3) := by decide +kernel
theorem d_I_init_41 : decode b_I_init 41 = .ok (.iconst 1, 1) := by decide +kernel
theorem d_I_init_42 : decode b_I_init 42 = .ok (.iadd, 1) := by decide +kernel
theorem d_I_init_43 : decode b_I_init 43 = .ok (.putfield 23, 3) := by decide +kernel
theorem d_I_init_46 : decode b_I_init 46 = .ok (.aload_n 0, 1) := by decide +kernel
theorem d_I_init_47 : decode b_I_init 47 = .ok (.aload_n 1, 1) := by decide +kernel
theorem d_I_init_48 : decode b_I_init 48 = .ok (.ifnonnull 8, 3) := by decide +kernel
theorem d_I_init_51 : decode b_I_init 51 = .ok (.iload 4, 2) := by decide +kernel
theorem d_I_init_53 : decode b_I_init 53 = .ok (.goto 10, 3) := by decide +kernel
theorem d_I_init_56 : decode b_I_init 56 = .ok (.aload_n 1, 1) := by decide +kernel
theorem d_I_init_57 : decode b_I_init 57 = .ok (.getfield 26, 3) := by decide +kernel
theorem d_I_init_60 : decode b_I_init 60 = .ok (.iload 4, 2) := by decide +kernel
theorem d_I_init_62 : decode b_I_init 62 = .ok (.ior, 1) := by decide +kernel
theorem d_I_init_63 : decode b_I_init 63 = .ok (.putfield 26, 3) := by decide +kernel
theorem d_I_init_66 : decode b_I_init 66 = .ok (.return_, 1) := by decide +kernel
theorem d_C_price_0 : decode b_C_price 0 = .ok (.aload_n 0, 1) := by decide +kernel
theorem d_C_price_1 : decode b_C_price 1 = .ok (.getfield 19, 3) := by decide +kernel
theorem d_C_price_4 : decode b_C_price 4 = .ok (.iconst 2, 1) := by decide +kernel
theorem d_C_price_5 : decode b_C_price 5 = .ok (.if_icmp .ne 7, 3) := by decide +kernel
theorem d_C_price_8 : decode b_C_price 8 = .ok (.iconst 0, 1) := by decide +kernel
theorem d_C_price_9 : decode b_C_price 9 = .ok (.goto 10, 3) := by decide +kernel
theorem d_C_price_12 : decode b_C_price 12 = .ok (.aload_n 0, 1) := by decide +kernel
theorem d_C_price_13 : decode b_C_price 13 = .ok (.getfield 15, 3) := by decide +kernel
theorem d_C_price_16 : decode b_C_price 16 = .ok (.getfield 35, 3) := by decide +kernel
theorem d_C_price_19 : decode b_C_price 19 = .ok (.ireturn, 1) := by decide +kernel
theorem d_C_ridesAt_0 : decode b_C_ridesAt 0 = .ok (.iconst 0, 1) := by decide +kernel
theorem d_C_ridesAt_1 : decode b_C_ridesAt 1 = .ok (.istore_n 2, 1) := by decide +kernel
theorem d_C_ridesAt_2 : decode b_C_ridesAt 2 = .ok (.aload_n 0, 1) := by decide +kernel
theorem d_C_ridesAt_3 : decode b_C_ridesAt 3 = .ok (.getfield 28, 3) := by decide +kernel
theorem d_C_ridesAt_6 : decode b_C_ridesAt 6 = .ok (.astore_n 3, 1) := by decide +kernel
theorem d_C_ridesAt_7 : decode b_C_ridesAt 7 = .ok (.aload_n 3, 1) := by decide +kernel
theorem d_C_ridesAt_8 : decode b_C_ridesAt 8 = .ok (.ifnull 30, 3) := by decide +kernel
theorem d_C_ridesAt_11 : decode b_C_ridesAt 11 = .ok (.iload_n 2, 1) := by decide +kernel
theorem d_C_ridesAt_12 : decode b_C_ridesAt 12 = .ok (.aload_n 3, 1) := by decide +kernel
theorem d_C_ridesAt_13 : decode b_C_ridesAt 13 = .ok (.getfield 57, 3) := by decide +kernel
theorem d_C_ridesAt_16 : decode b_C_ridesAt 16 = .ok (.getfield 64, 3) := by decide +kernel
theorem d_C_ridesAt_19 : decode b_C_ridesAt 19 = .ok (.iload_n 1, 1) := by decide +kernel
theorem d_C_ridesAt_20 : decode b_C_ridesAt 20 = .ok (.if_icmp .ne 7, 3) := by decide +kernel
theorem d_C_ridesAt_23 : decode b_C_ridesAt 23 = .ok (.iconst 1, 1) := by decide +kernel
theorem d_C_ridesAt_24 : decode b_C_ridesAt 24 = .ok (.goto 4, 3) := by decide +kernel
theorem d_C_ridesAt_27 : decode b_C_ridesAt 27 = .ok (.iconst 0, 1) := by decide +kernel
theorem d_C_ridesAt_28 : decode b_C_ridesAt 28 = .ok (.iadd, 1) := by decide +kernel
theorem d_C_ridesAt_29 : decode b_C_ridesAt 29 = .ok (.istore_n 2, 1) := by decide +kernel
theorem d_C_ridesAt_30 : decode b_C_ridesAt 30 = .ok (.aload_n 3, 1) := by decide +kernel
theorem d_C_ridesAt_31 : decode b_C_ridesAt 31 = .ok (.getfield 54, 3) := by decide +kernel
theorem d_C_ridesAt_34 : decode b_C_ridesAt 34 = .ok (.astore_n 3, 1) := by decide +kernel
theorem d_C_ridesAt_35 : decode b_C_ridesAt 35 = .ok (.goto (-28), 3) := by decide +kernel
theorem d_C_ridesAt_38 : decode b_C_ridesAt 38 = .ok (.iload_n 2, 1) := by decide +kernel
theorem d_C_ridesAt_39 : decode b_C_ridesAt 39 = .ok (.ireturn, 1) := by decide +kernel
theorem d_C_rideCount_0 : decode b_C_rideCount 0 = .ok (.aload_n 0, 1) := by decide +kernel
theorem d_C_rideCount_1 : decode b_C_rideCount 1 = .ok (.getfield 28, 3) := by decide +kernel
theorem d_C_rideCount_4 : decode b_C_rideCount 4 = .ok (.ifnonnull 7, 3) := by decide +kernel
theorem d_C_rideCount_7 : decode b_C_rideCount 7 = .ok (.iconst 0, 1) := by decide +kernel
theorem d_C_rideCount_8 : decode b_C_rideCount 8 = .ok (.goto 10, 3) := by decide +kernel
theorem d_C_rideCount_11 : decode b_C_rideCount 11 = .ok (.aload_n 0, 1) := by decide +kernel
theorem d_C_rideCount_12 : decode b_C_rideCount 12 = .ok (.getfield 28, 3) := by decide +kernel
theorem d_C_rideCount_15 : decode b_C_rideCount 15 = .ok (.getfield 40, 3) := by decide +kernel
theorem d_C_rideCount_18 : decode b_C_rideCount 18 = .ok (.ireturn, 1) := by decide +kernel
theorem d_C_ridesThrough_0 : decode b_C_ridesThrough 0 = .ok (.iconst 0, 1) := by decide +kernel
theorem d_C_ridesThrough_1 : decode b_C_ridesThrough 1 = .ok (.istore_n 2, 1) := by decide +kernel
theorem d_C_ridesThrough_2 : decode b_C_ridesThrough 2 = .ok (.aload_n 0, 1) := by decide +kernel
theorem d_C_ridesThrough_3 : decode b_C_ridesThrough 3 = .ok (.getfield 28, 3) := by decide +kernel
theorem d_C_ridesThrough_6 : decode b_C_ridesThrough 6 = .ok (.astore_n 3, 1) := by decide +kernel
theorem d_C_ridesThrough_7 : decode b_C_ridesThrough 7 = .ok (.aload_n 3, 1) := by decide +kernel
theorem d_C_ridesThrough_8 : decode b_C_ridesThrough 8 = .ok (.ifnull 33, 3) := by decide +kernel
theorem d_C_ridesThrough_11 : decode b_C_ridesThrough 11 = .ok (.iload_n 2, 1) := by decide +kernel
theorem d_C_ridesThrough_12 : decode b_C_ridesThrough 12 = .ok (.aload_n 3, 1) := by decide +kernel
theorem d_C_ridesThrough_13 : decode b_C_ridesThrough 13 = .ok (.getfield 57, 3) := by decide +kernel
theorem d_C_ridesThrough_16 : decode b_C_ridesThrough 16 = .ok (.getfield 61, 3) := by decide +kernel
theorem d_C_ridesThrough_19 : decode b_C_ridesThrough 19 = .ok (.aload_n 1, 1) := by decide +kernel
theorem d_C_ridesThrough_20 : decode b_C_ridesThrough 20 = .ok (.getfield 61, 3) := by decide +kernel
theorem d_C_ridesThrough_23 : decode b_C_ridesThrough 23 = .ok (.if_icmp .ne 7, 3) := by decide +kernel
theorem d_C_ridesThrough_26 : decode b_C_ridesThrough 26 = .ok (.iconst 1, 1) := by decide +kernel
theorem d_C_ridesThrough_27 : decode b_C_ridesThrough 27 = .ok (.goto 4, 3) := by decide +kernel
theorem d_C_ridesThrough_30 : decode b_C_ridesThrough 30 = .ok (.iconst 0, 1) := by decide +kernel
theorem d_C_ridesThrough_31 : decode b_C_ridesThrough 31 = .ok (.iadd, 1) := by decide +kernel
theorem d_C_ridesThrough_32 : decode b_C_ridesThrough 32 = .ok (.istore_n 2, 1) := by decide +kernel
theorem d_C_ridesThrough_33 : decode b_C_ridesThrough 33 = .ok (.aload_n 3, 1) := by decide +kernel
theorem d_C_ridesThrough_34 : decode b_C_ridesThrough 34 = .ok (.getfield 54, 3) := by decide +kernel
theorem d_C_ridesThrough_37 : decode b_C_ridesThrough 37 = .ok (.astore_n 3, 1) := by decide +kernel
theorem d_C_ridesThrough_38 : decode b_C_ridesThrough 38 = .ok (.goto (-31), 3) := by decide +kernel
theorem d_C_ridesThrough_41 : decode b_C_ridesThrough 41 = .ok (.iload_n 2, 1) := by decide +kernel
theorem d_C_ridesThrough_42 : decode b_C_ridesThrough 42 = .ok (.ireturn, 1) := by decide +kernel
theorem d_C_keepsWays_0 : decode b_C_keepsWays 0 = .ok (.aload_n 0, 1) := by decide +kernel
theorem d_C_keepsWays_1 : decode b_C_keepsWays 1 = .ok (.getfield 28, 3) := by decide +kernel
theorem d_C_keepsWays_4 : decode b_C_keepsWays 4 = .ok (.astore_n 1, 1) := by decide +kernel
theorem d_C_keepsWays_5 : decode b_C_keepsWays 5 = .ok (.aload_n 1, 1) := by decide +kernel
theorem d_C_keepsWays_6 : decode b_C_keepsWays 6 = .ok (.ifnull 45, 3) := by decide +kernel
theorem d_C_keepsWays_9 : decode b_C_keepsWays 9 = .ok (.aload_n 1, 1) := by decide +kernel
theorem d_C_keepsWays_10 : decode b_C_keepsWays 10 = .ok (.getfield 54, 3) := by decide +kernel
theorem d_C_keepsWays_13 : decode b_C_keepsWays 13 = .ok (.astore_n 2, 1) := by decide +kernel
theorem d_C_keepsWays_14 : decode b_C_keepsWays 14 = .ok (.aload_n 2, 1) := by decide +kernel
theorem d_C_keepsWays_15 : decode b_C_keepsWays 15 = .ok (.ifnull 28, 3) := by decide +kernel
theorem d_C_keepsWays_18 : decode b_C_keepsWays 18 = .ok (.aload_n 1, 1) := by decide +kernel
theorem d_C_keepsWays_19 : decode b_C_keepsWays 19 = .ok (.getfield 67, 3) := by decide +kernel
theorem d_C_keepsWays_22 : decode b_C_keepsWays 22 = .ok (.aload_n 2, 1) := by decide +kernel
theorem d_C_keepsWays_23 : decode b_C_keepsWays 23 = .ok (.getfield 67, 3) := by decide +kernel
theorem d_C_keepsWays_26 : decode b_C_keepsWays 26 = .ok (.isub, 1) := by decide +kernel
theorem d_C_keepsWays_27 : decode b_C_keepsWays 27 = .ok (.aload_n 2, 1) := by decide +kernel
theorem d_C_keepsWays_28 : decode b_C_keepsWays 28 = .ok (.getfield 57, 3) := by decide +kernel
theorem d_C_keepsWays_31 : decode b_C_keepsWays 31 = .ok (.aload_n 1, 1) := by decide +kernel
theorem d_C_keepsWays_32 : decode b_C_keepsWays 32 = .ok (.getfield 57, 3) := by decide +kernel
theorem d_C_keepsWays_35 : decode b_C_keepsWays 35 = .ok (.invokevirtual 70, 3) := by decide +kernel
theorem d_C_keepsWays_38 : decode b_C_keepsWays 38 = .ok (.if_icmp .ge 5, 3) := by decide +kernel
theorem d_C_keepsWays_41 : decode b_C_keepsWays 41 = .ok (.iconst 0, 1) := by decide +kernel
theorem d_C_keepsWays_42 : decode b_C_keepsWays 42 = .ok (.ireturn, 1) := by decide +kernel
theorem d_C_keepsWays_43 : decode b_C_keepsWays 43 = .ok (.aload_n 1, 1) := by decide +kernel
theorem d_C_keepsWays_44 : decode b_C_keepsWays 44 = .ok (.getfield 54, 3) := by decide +kernel
theorem d_C_keepsWays_47 : decode b_C_keepsWays 47 = .ok (.astore_n 1, 1) := by decide +kernel
theorem d_C_keepsWays_48 : decode b_C_keepsWays 48 = .ok (.goto (-43), 3) := by decide +kernel
theorem d_C_keepsWays_51 : decode b_C_keepsWays 51 = .ok (.iconst 1, 1) := by decide +kernel
theorem d_C_keepsWays_52 : decode b_C_keepsWays 52 = .ok (.ireturn, 1) := by decide +kernel
theorem d_C_init_0 : decode b_C_init 0 = .ok (.aload_n 0, 1) := by decide +kernel
theorem d_C_init_1 : decode b_C_init 1 = .ok (.invokespecial 3, 3) := by decide +kernel
theorem d_C_init_4 : decode b_C_init 4 = .ok (.aload_n 0, 1) := by decide +kernel
theorem d_C_init_5 : decode b_C_init 5 = .ok (.iload_n 1, 1) := by decide +kernel
theorem d_C_init_6 : decode b_C_init 6 = .ok (.putfield 9, 3) := by decide +kernel
theorem d_C_init_9 : decode b_C_init 9 = .ok (.aload_n 0, 1) := by decide +kernel
theorem d_C_init_10 : decode b_C_init 10 = .ok (.aload_n 2, 1) := by decide +kernel
theorem d_C_init_11 : decode b_C_init 11 = .ok (.putfield 15, 3) := by decide +kernel
theorem d_C_init_14 : decode b_C_init 14 = .ok (.aload_n 0, 1) := by decide +kernel
theorem d_C_init_15 : decode b_C_init 15 = .ok (.iload_n 3, 1) := by decide +kernel
theorem d_C_init_16 : decode b_C_init 16 = .ok (.putfield 19, 3) := by decide +kernel
theorem d_C_init_19 : decode b_C_init 19 = .ok (.aload_n 0, 1) := by decide +kernel
theorem d_C_init_20 : decode b_C_init 20 = .ok (.iload 4, 2) := by decide +kernel
theorem d_C_init_22 : decode b_C_init 22 = .ok (.putfield 22, 3) := by decide +kernel
theorem d_C_init_25 : decode b_C_init 25 = .ok (.aload_n 0, 1) := by decide +kernel
theorem d_C_init_26 : decode b_C_init 26 = .ok (.iload 5, 2) := by decide +kernel
theorem d_C_init_28 : decode b_C_init 28 = .ok (.putfield 25, 3) := by decide +kernel
theorem d_C_init_31 : decode b_C_init 31 = .ok (.aload_n 0, 1) := by decide +kernel
theorem d_C_init_32 : decode b_C_init 32 = .ok (.aload 6, 2) := by decide +kernel
theorem d_C_init_34 : decode b_C_init 34 = .ok (.putfield 28, 3) := by decide +kernel
theorem d_C_init_37 : decode b_C_init 37 = .ok (.return_, 1) := by decide +kernel
theorem d_C_isValidForRideOn_0 : decode b_C_isValidForRideOn 0 = .ok (.aload_n 0, 1) := by decide +kernel
theorem d_C_isValidForRideOn_1 : decode b_C_isValidForRideOn 1 = .ok (.getfield 15, 3) := by decide +kernel
theorem d_C_isValidForRideOn_4 : decode b_C_isValidForRideOn 4 = .ok (.getfield 74, 3) := by decide +kernel
theorem d_C_isValidForRideOn_7 : decode b_C_isValidForRideOn 7 = .ok (.lookupswitch 73 #[(0, 25), (1, 46)], 25) := by decide +kernel
theorem d_C_isValidForRideOn_32 : decode b_C_isValidForRideOn 32 = .ok (.aload_n 0, 1) := by decide +kernel
theorem d_C_isValidForRideOn_33 : decode b_C_isValidForRideOn 33 = .ok (.iload_n 1, 1) := by decide +kernel
theorem d_C_isValidForRideOn_34 : decode b_C_isValidForRideOn 34 = .ok (.invokevirtual 77, 3) := by decide +kernel
theorem d_C_isValidForRideOn_37 : decode b_C_isValidForRideOn 37 = .ok (.aload_n 0, 1) := by decide +kernel
theorem d_C_isValidForRideOn_38 : decode b_C_isValidForRideOn 38 = .ok (.getfield 15, 3) := by decide +kernel
theorem d_C_isValidForRideOn_41 : decode b_C_isValidForRideOn 41 = .ok (.getfield 80, 3) := by decide +kernel
theorem d_C_isValidForRideOn_44 : decode b_C_isValidForRideOn 44 = .ok (.if_icmp .ge 7, 3) := by decide +kernel
theorem d_C_isValidForRideOn_47 : decode b_C_isValidForRideOn 47 = .ok (.iconst 1, 1) := by decide +kernel
theorem d_C_isValidForRideOn_48 : decode b_C_isValidForRideOn 48 = .ok (.goto 4, 3) := by decide +kernel
theorem d_C_isValidForRideOn_51 : decode b_C_isValidForRideOn 51 = .ok (.iconst 0, 1) := by decide +kernel
theorem d_C_isValidForRideOn_52 : decode b_C_isValidForRideOn 52 = .ok (.ireturn, 1) := by decide +kernel
theorem d_C_isValidForRideOn_53 : decode b_C_isValidForRideOn 53 = .ok (.aload_n 0, 1) := by decide +kernel
theorem d_C_isValidForRideOn_54 : decode b_C_isValidForRideOn 54 = .ok (.invokevirtual 83, 3) := by decide +kernel
theorem d_C_isValidForRideOn_57 : decode b_C_isValidForRideOn 57 = .ok (.iconst 1, 1) := by decide +kernel
theorem d_C_isValidForRideOn_58 : decode b_C_isValidForRideOn 58 = .ok (.iload_n 1, 1) := by decide +kernel
theorem d_C_isValidForRideOn_59 : decode b_C_isValidForRideOn 59 = .ok (.ishl, 1) := by decide +kernel
theorem d_C_isValidForRideOn_60 : decode b_C_isValidForRideOn 60 = .ok (.ior, 1) := by decide +kernel
theorem d_C_isValidForRideOn_61 : decode b_C_isValidForRideOn 61 = .ok (.invokestatic 87, 3) := by decide +kernel
theorem d_C_isValidForRideOn_64 : decode b_C_isValidForRideOn 64 = .ok (.aload_n 0, 1) := by decide +kernel
theorem d_C_isValidForRideOn_65 : decode b_C_isValidForRideOn 65 = .ok (.getfield 15, 3) := by decide +kernel
theorem d_C_isValidForRideOn_68 : decode b_C_isValidForRideOn 68 = .ok (.getfield 80, 3) := by decide +kernel
theorem d_C_isValidForRideOn_71 : decode b_C_isValidForRideOn 71 = .ok (.if_icmp .gt 7, 3) := by decide +kernel
theorem d_C_isValidForRideOn_74 : decode b_C_isValidForRideOn 74 = .ok (.iconst 1, 1) := by decide +kernel
theorem d_C_isValidForRideOn_75 : decode b_C_isValidForRideOn 75 = .ok (.goto 4, 3) := by decide +kernel
theorem d_C_isValidForRideOn_78 : decode b_C_isValidForRideOn 78 = .ok (.iconst 0, 1) := by decide +kernel
theorem d_C_isValidForRideOn_79 : decode b_C_isValidForRideOn 79 = .ok (.ireturn, 1) := by decide +kernel
theorem d_C_isValidForRideOn_80 : decode b_C_isValidForRideOn 80 = .ok (.aload_n 0, 1) := by decide +kernel
theorem d_C_isValidForRideOn_81 : decode b_C_isValidForRideOn 81 = .ok (.invokevirtual 90, 3) := by decide +kernel
theorem d_C_isValidForRideOn_84 : decode b_C_isValidForRideOn 84 = .ok (.aload_n 0, 1) := by decide +kernel
theorem d_C_isValidForRideOn_85 : decode b_C_isValidForRideOn 85 = .ok (.getfield 15, 3) := by decide +kernel
theorem d_C_isValidForRideOn_88 : decode b_C_isValidForRideOn 88 = .ok (.getfield 80, 3) := by decide +kernel
theorem d_C_isValidForRideOn_91 : decode b_C_isValidForRideOn 91 = .ok (.bipush 10, 2) := by decide +kernel
theorem d_C_isValidForRideOn_93 : decode b_C_isValidForRideOn 93 = .ok (.imul, 1) := by decide +kernel
theorem d_C_isValidForRideOn_94 : decode b_C_isValidForRideOn 94 = .ok (.if_icmp .ge 7, 3) := by decide +kernel
theorem d_C_isValidForRideOn_97 : decode b_C_isValidForRideOn 97 = .ok (.iconst 1, 1) := by decide +kernel
theorem d_C_isValidForRideOn_98 : decode b_C_isValidForRideOn 98 = .ok (.goto 4, 3) := by decide +kernel
theorem d_C_isValidForRideOn_101 : decode b_C_isValidForRideOn 101 = .ok (.iconst 0, 1) := by decide +kernel
theorem d_C_isValidForRideOn_102 : decode b_C_isValidForRideOn 102 = .ok (.ireturn, 1) := by decide +kernel
theorem d_C_daysSinceFirst_0 : decode b_C_daysSinceFirst 0 = .ok (.aload_n 0, 1) := by decide +kernel
theorem d_C_daysSinceFirst_1 : decode b_C_daysSinceFirst 1 = .ok (.getfield 28, 3) := by decide +kernel
theorem d_C_daysSinceFirst_4 : decode b_C_daysSinceFirst 4 = .ok (.ifnonnull 7, 3) := by decide +kernel
theorem d_C_daysSinceFirst_7 : decode b_C_daysSinceFirst 7 = .ok (.iconst 0, 1) := by decide +kernel
theorem d_C_daysSinceFirst_8 : decode b_C_daysSinceFirst 8 = .ok (.goto 15, 3) := by decide +kernel
theorem d_C_daysSinceFirst_11 : decode b_C_daysSinceFirst 11 = .ok (.iload_n 1, 1) := by decide +kernel
theorem d_C_daysSinceFirst_12 : decode b_C_daysSinceFirst 12 = .ok (.aload_n 0, 1) := by decide +kernel
theorem d_C_daysSinceFirst_13 : decode b_C_daysSinceFirst 13 = .ok (.getfield 28, 3) := by decide +kernel
theorem d_C_daysSinceFirst_16 : decode b_C_daysSinceFirst 16 = .ok (.getfield 45, 3) := by decide +kernel
theorem d_C_daysSinceFirst_19 : decode b_C_daysSinceFirst 19 = .ok (.invokestatic 48, 3) := by decide +kernel
theorem d_C_daysSinceFirst_22 : decode b_C_daysSinceFirst 22 = .ok (.isub, 1) := by decide +kernel
theorem d_C_daysSinceFirst_23 : decode b_C_daysSinceFirst 23 = .ok (.ireturn, 1) := by decide +kernel
theorem d_C_dayMask_0 : decode b_C_dayMask 0 = .ok (.aload_n 0, 1) := by decide +kernel
theorem d_C_dayMask_1 : decode b_C_dayMask 1 = .ok (.getfield 28, 3) := by decide +kernel
theorem d_C_dayMask_4 : decode b_C_dayMask 4 = .ok (.ifnonnull 7, 3) := by decide +kernel
theorem d_C_dayMask_7 : decode b_C_dayMask 7 = .ok (.iconst 0, 1) := by decide +kernel
theorem d_C_dayMask_8 : decode b_C_dayMask 8 = .ok (.goto 10, 3) := by decide +kernel
theorem d_C_dayMask_11 : decode b_C_dayMask 11 = .ok (.aload_n 0, 1) := by decide +kernel
theorem d_C_dayMask_12 : decode b_C_dayMask 12 = .ok (.getfield 28, 3) := by decide +kernel
theorem d_C_dayMask_15 : decode b_C_dayMask 15 = .ok (.getfield 45, 3) := by decide +kernel
theorem d_C_dayMask_18 : decode b_C_dayMask 18 = .ok (.ireturn, 1) := by decide +kernel
theorem d_C_withRide_0 : decode b_C_withRide 0 = .ok (.new 10, 3) := by decide +kernel
theorem d_C_withRide_3 : decode b_C_withRide 3 = .ok (.dup, 1) := by decide +kernel
theorem d_C_withRide_4 : decode b_C_withRide 4 = .ok (.aload_n 0, 1) := by decide +kernel
theorem d_C_withRide_5 : decode b_C_withRide 5 = .ok (.getfield 9, 3) := by decide +kernel
theorem d_C_withRide_8 : decode b_C_withRide 8 = .ok (.aload_n 0, 1) := by decide +kernel
theorem d_C_withRide_9 : decode b_C_withRide 9 = .ok (.getfield 15, 3) := by decide +kernel
theorem d_C_withRide_12 : decode b_C_withRide 12 = .ok (.aload_n 0, 1) := by decide +kernel
theorem d_C_withRide_13 : decode b_C_withRide 13 = .ok (.getfield 19, 3) := by decide +kernel
theorem d_C_withRide_16 : decode b_C_withRide 16 = .ok (.aload_n 0, 1) := by decide +kernel
theorem d_C_withRide_17 : decode b_C_withRide 17 = .ok (.getfield 22, 3) := by decide +kernel
theorem d_C_withRide_20 : decode b_C_withRide 20 = .ok (.aload_n 0, 1) := by decide +kernel
theorem d_C_withRide_21 : decode b_C_withRide 21 = .ok (.getfield 25, 3) := by decide +kernel
theorem d_C_withRide_24 : decode b_C_withRide 24 = .ok (.aload_n 1, 1) := by decide +kernel
theorem d_C_withRide_25 : decode b_C_withRide 25 = .ok (.invokespecial 32, 3) := by decide +kernel
theorem d_C_withRide_28 : decode b_C_withRide 28 = .ok (.areturn, 1) := by decide +kernel
theorem d_C_isSettled_0 : decode b_C_isSettled 0 = .ok (.aload_n 0, 1) := by decide +kernel
theorem d_C_isSettled_1 : decode b_C_isSettled 1 = .ok (.getfield 19, 3) := by decide +kernel
theorem d_C_isSettled_4 : decode b_C_isSettled 4 = .ok (.iconst 2, 1) := by decide +kernel
theorem d_C_isSettled_5 : decode b_C_isSettled 5 = .ok (.if_icmp .eq 11, 3) := by decide +kernel
theorem d_C_isSettled_8 : decode b_C_isSettled 8 = .ok (.aload_n 0, 1) := by decide +kernel
theorem d_C_isSettled_9 : decode b_C_isSettled 9 = .ok (.getfield 19, 3) := by decide +kernel
theorem d_C_isSettled_12 : decode b_C_isSettled 12 = .ok (.iconst 3, 1) := by decide +kernel
theorem d_C_isSettled_13 : decode b_C_isSettled 13 = .ok (.if_icmp .ne 7, 3) := by decide +kernel
theorem d_C_isSettled_16 : decode b_C_isSettled 16 = .ok (.iconst 1, 1) := by decide +kernel
theorem d_C_isSettled_17 : decode b_C_isSettled 17 = .ok (.goto 4, 3) := by decide +kernel
theorem d_C_isSettled_20 : decode b_C_isSettled 20 = .ok (.iconst 0, 1) := by decide +kernel
theorem d_C_isSettled_21 : decode b_C_isSettled 21 = .ok (.ireturn, 1) := by decide +kernel
theorem d_C_withBlock_0 : decode b_C_withBlock 0 = .ok (.new 10, 3) := by decide +kernel
theorem d_C_withBlock_3 : decode b_C_withBlock 3 = .ok (.dup, 1) := by decide +kernel
theorem d_C_withBlock_4 : decode b_C_withBlock 4 = .ok (.aload_n 0, 1) := by decide +kernel
theorem d_C_withBlock_5 : decode b_C_withBlock 5 = .ok (.getfield 9, 3) := by decide +kernel
theorem d_C_withBlock_8 : decode b_C_withBlock 8 = .ok (.aload_n 0, 1) := by decide +kernel
theorem d_C_withBlock_9 : decode b_C_withBlock 9 = .ok (.getfield 15, 3) := by decide +kernel
theorem d_C_withBlock_12 : decode b_C_withBlock 12 = .ok (.iload_n 1, 1) := by decide +kernel
theorem d_C_withBlock_13 : decode b_C_withBlock 13 = .ok (.ifCond .eq 7, 3) := by decide +kernel
theorem d_C_withBlock_16 : decode b_C_withBlock 16 = .ok (.iconst 1, 1) := by decide +kernel
theorem d_C_withBlock_17 : decode b_C_withBlock 17 = .ok (.goto 4, 3) := by decide +kernel
theorem d_C_withBlock_20 : decode b_C_withBlock 20 = .ok (.iconst 0, 1) := by decide +kernel
theorem d_C_withBlock_21 : decode b_C_withBlock 21 = .ok (.aload_n 0, 1) := by decide +kernel
theorem d_C_withBlock_22 : decode b_C_withBlock 22 = .ok (.getfield 22, 3) := by decide +kernel
theorem d_C_withBlock_25 : decode b_C_withBlock 25 = .ok (.aload_n 0, 1) := by decide +kernel
theorem d_C_withBlock_26 : decode b_C_withBlock 26 = .ok (.getfield 25, 3) := by decide +kernel
theorem d_C_withBlock_29 : decode b_C_withBlock 29 = .ok (.aload_n 0, 1) := by decide +kernel
theorem d_C_withBlock_30 : decode b_C_withBlock 30 = .ok (.getfield 28, 3) := by decide +kernel
theorem d_C_withBlock_33 : decode b_C_withBlock 33 = .ok (.invokespecial 32, 3) := by decide +kernel
theorem d_C_withBlock_36 : decode b_C_withBlock 36 = .ok (.areturn, 1) := by decide +kernel
theorem d_C_replacedBy_0 : decode b_C_replacedBy 0 = .ok (.new 10, 3) := by decide +kernel
theorem d_C_replacedBy_3 : decode b_C_replacedBy 3 = .ok (.dup, 1) := by decide +kernel
theorem d_C_replacedBy_4 : decode b_C_replacedBy 4 = .ok (.aload_n 0, 1) := by decide +kernel
theorem d_C_replacedBy_5 : decode b_C_replacedBy 5 = .ok (.getfield 9, 3) := by decide +kernel
theorem d_C_replacedBy_8 : decode b_C_replacedBy 8 = .ok (.aload_n 0, 1) := by decide +kernel
theorem d_C_replacedBy_9 : decode b_C_replacedBy 9 = .ok (.getfield 15, 3) := by decide +kernel
theorem d_C_replacedBy_12 : decode b_C_replacedBy 12 = .ok (.iconst 2, 1) := by decide +kernel
theorem d_C_replacedBy_13 : decode b_C_replacedBy 13 = .ok (.iload_n 1, 1) := by decide +kernel
theorem d_C_replacedBy_14 : decode b_C_replacedBy 14 = .ok (.aload_n 0, 1) := by decide +kernel
theorem d_C_replacedBy_15 : decode b_C_replacedBy 15 = .ok (.getfield 25, 3) := by decide +kernel
theorem d_C_replacedBy_18 : decode b_C_replacedBy 18 = .ok (.aconst_null, 1) := by decide +kernel
theorem d_C_replacedBy_19 : decode b_C_replacedBy 19 = .ok (.invokespecial 32, 3) := by decide +kernel
theorem d_C_replacedBy_22 : decode b_C_replacedBy 22 = .ok (.areturn, 1) := by decide +kernel
theorem d_C_leftOn_0 : decode b_C_leftOn 0 = .ok (.aload_n 0, 1) := by decide +kernel
theorem d_C_leftOn_1 : decode b_C_leftOn 1 = .ok (.getfield 15, 3) := by decide +kernel
theorem d_C_leftOn_4 : decode b_C_leftOn 4 = .ok (.getfield 74, 3) := by decide +kernel
theorem d_C_leftOn_7 : decode b_C_leftOn 7 = .ok (.lookupswitch 59 #[(0, 25), (1, 43)], 25) := by decide +kernel
theorem d_C_leftOn_32 : decode b_C_leftOn 32 = .ok (.iconst 0, 1) := by decide +kernel
theorem d_C_leftOn_33 : decode b_C_leftOn 33 = .ok (.aload_n 0, 1) := by decide +kernel
theorem d_C_leftOn_34 : decode b_C_leftOn 34 = .ok (.getfield 15, 3) := by decide +kernel
theorem d_C_leftOn_37 : decode b_C_leftOn 37 = .ok (.getfield 80, 3) := by decide +kernel
theorem d_C_leftOn_40 : decode b_C_leftOn 40 = .ok (.aload_n 0, 1) := by decide +kernel
theorem d_C_leftOn_41 : decode b_C_leftOn 41 = .ok (.iload_n 1, 1) := by decide +kernel
theorem d_C_leftOn_42 : decode b_C_leftOn 42 = .ok (.invokevirtual 77, 3) := by decide +kernel
theorem d_C_leftOn_45 : decode b_C_leftOn 45 = .ok (.isub, 1) := by decide +kernel
theorem d_C_leftOn_46 : decode b_C_leftOn 46 = .ok (.invokestatic 93, 3) := by decide +kernel
theorem d_C_leftOn_49 : decode b_C_leftOn 49 = .ok (.ireturn, 1) := by decide +kernel
theorem d_C_leftOn_50 : decode b_C_leftOn 50 = .ok (.aload_n 0, 1) := by decide +kernel
theorem d_C_leftOn_51 : decode b_C_leftOn 51 = .ok (.getfield 15, 3) := by decide +kernel
theorem d_C_leftOn_54 : decode b_C_leftOn 54 = .ok (.getfield 80, 3) := by decide +kernel
theorem d_C_leftOn_57 : decode b_C_leftOn 57 = .ok (.aload_n 0, 1) := by decide +kernel
theorem d_C_leftOn_58 : decode b_C_leftOn 58 = .ok (.invokevirtual 83, 3) := by decide +kernel
theorem d_C_leftOn_61 : decode b_C_leftOn 61 = .ok (.invokestatic 87, 3) := by decide +kernel
theorem d_C_leftOn_64 : decode b_C_leftOn 64 = .ok (.isub, 1) := by decide +kernel
theorem d_C_leftOn_65 : decode b_C_leftOn 65 = .ok (.ireturn, 1) := by decide +kernel
theorem d_C_leftOn_66 : decode b_C_leftOn 66 = .ok (.aload_n 0, 1) := by decide +kernel
theorem d_C_leftOn_67 : decode b_C_leftOn 67 = .ok (.getfield 15, 3) := by decide +kernel
theorem d_C_leftOn_70 : decode b_C_leftOn 70 = .ok (.getfield 80, 3) := by decide +kernel
theorem d_C_leftOn_73 : decode b_C_leftOn 73 = .ok (.bipush 10, 2) := by decide +kernel
theorem d_C_leftOn_75 : decode b_C_leftOn 75 = .ok (.imul, 1) := by decide +kernel
theorem d_C_leftOn_76 : decode b_C_leftOn 76 = .ok (.aload_n 0, 1) := by decide +kernel
theorem d_C_leftOn_77 : decode b_C_leftOn 77 = .ok (.invokevirtual 90, 3) := by decide +kernel
theorem d_C_leftOn_80 : decode b_C_leftOn 80 = .ok (.isub, 1) := by decide +kernel
theorem d_C_leftOn_81 : decode b_C_leftOn 81 = .ok (.ireturn, 1) := by decide +kernel
theorem d_C_rideAt_0 : decode b_C_rideAt 0 = .ok (.aload_n 0, 1) := by decide +kernel
theorem d_C_rideAt_1 : decode b_C_rideAt 1 = .ok (.getfield 28, 3) := by decide +kernel
theorem d_C_rideAt_4 : decode b_C_rideAt 4 = .ok (.astore_n 2, 1) := by decide +kernel
theorem d_C_rideAt_5 : decode b_C_rideAt 5 = .ok (.aload_n 2, 1) := by decide +kernel
theorem d_C_rideAt_6 : decode b_C_rideAt 6 = .ok (.ifnull 23, 3) := by decide +kernel
theorem d_C_rideAt_9 : decode b_C_rideAt 9 = .ok (.aload_n 2, 1) := by decide +kernel
theorem d_C_rideAt_10 : decode b_C_rideAt 10 = .ok (.getfield 40, 3) := by decide +kernel
theorem d_C_rideAt_13 : decode b_C_rideAt 13 = .ok (.iconst 1, 1) := by decide +kernel
theorem d_C_rideAt_14 : decode b_C_rideAt 14 = .ok (.isub, 1) := by decide +kernel
theorem d_C_rideAt_15 : decode b_C_rideAt 15 = .ok (.iload_n 1, 1) := by decide +kernel
theorem d_C_rideAt_16 : decode b_C_rideAt 16 = .ok (.if_icmp .ne 5, 3) := by decide +kernel
theorem d_C_rideAt_19 : decode b_C_rideAt 19 = .ok (.aload_n 2, 1) := by decide +kernel
theorem d_C_rideAt_20 : decode b_C_rideAt 20 = .ok (.areturn, 1) := by decide +kernel
theorem d_C_rideAt_21 : decode b_C_rideAt 21 = .ok (.aload_n 2, 1) := by decide +kernel
theorem d_C_rideAt_22 : decode b_C_rideAt 22 = .ok (.getfield 54, 3) := by decide +kernel
theorem d_C_rideAt_25 : decode b_C_rideAt 25 = .ok (.astore_n 2, 1) := by decide +kernel
theorem d_C_rideAt_26 : decode b_C_rideAt 26 = .ok (.goto (-21), 3) := by decide +kernel
theorem d_C_rideAt_29 : decode b_C_rideAt 29 = .ok (.aconst_null, 1) := by decide +kernel
theorem d_C_rideAt_30 : decode b_C_rideAt 30 = .ok (.areturn, 1) := by decide +kernel
theorem d_C_paidBack_0 : decode b_C_paidBack 0 = .ok (.new 10, 3) := by decide +kernel
theorem d_C_paidBack_3 : decode b_C_paidBack 3 = .ok (.dup, 1) := by decide +kernel
theorem d_C_paidBack_4 : decode b_C_paidBack 4 = .ok (.aload_n 0, 1) := by decide +kernel
theorem d_C_paidBack_5 : decode b_C_paidBack 5 = .ok (.getfield 9, 3) := by decide +kernel
theorem d_C_paidBack_8 : decode b_C_paidBack 8 = .ok (.aload_n 0, 1) := by decide +kernel
theorem d_C_paidBack_9 : decode b_C_paidBack 9 = .ok (.getfield 15, 3) := by decide +kernel
theorem d_C_paidBack_12 : decode b_C_paidBack 12 = .ok (.iconst 3, 1) := by decide +kernel
theorem d_C_paidBack_13 : decode b_C_paidBack 13 = .ok (.aload_n 0, 1) := by decide +kernel
theorem d_C_paidBack_14 : decode b_C_paidBack 14 = .ok (.getfield 22, 3) := by decide +kernel
theorem d_C_paidBack_17 : decode b_C_paidBack 17 = .ok (.iload_n 1, 1) := by decide +kernel
theorem d_C_paidBack_18 : decode b_C_paidBack 18 = .ok (.aload_n 0, 1) := by decide +kernel
theorem d_C_paidBack_19 : decode b_C_paidBack 19 = .ok (.getfield 28, 3) := by decide +kernel
theorem d_C_paidBack_22 : decode b_C_paidBack 22 = .ok (.invokespecial 32, 3) := by decide +kernel
theorem d_C_paidBack_25 : decode b_C_paidBack 25 = .ok (.areturn, 1) := by decide +kernel
theorem d_J_numberOfTrailingZeros_0 : decode b_J_numberOfTrailingZeros 0 = .ok (.iload_n 0, 1) := by decide +kernel
theorem d_J_numberOfTrailingZeros_1 : decode b_J_numberOfTrailingZeros 1 = .ok (.iconst (-1), 1) := by decide +kernel
theorem d_J_numberOfTrailingZeros_2 : decode b_J_numberOfTrailingZeros 2 = .ok (.ixor, 1) := by decide +kernel
theorem d_J_numberOfTrailingZeros_3 : decode b_J_numberOfTrailingZeros 3 = .ok (.iload_n 0, 1) := by decide +kernel
theorem d_J_numberOfTrailingZeros_4 : decode b_J_numberOfTrailingZeros 4 = .ok (.iconst 1, 1) := by decide +kernel
theorem d_J_numberOfTrailingZeros_5 : decode b_J_numberOfTrailingZeros 5 = .ok (.isub, 1) := by decide +kernel
theorem d_J_numberOfTrailingZeros_6 : decode b_J_numberOfTrailingZeros 6 = .ok (.iand, 1) := by decide +kernel
theorem d_J_numberOfTrailingZeros_7 : decode b_J_numberOfTrailingZeros 7 = .ok (.istore_n 0, 1) := by decide +kernel
theorem d_J_numberOfTrailingZeros_8 : decode b_J_numberOfTrailingZeros 8 = .ok (.iload_n 0, 1) := by decide +kernel
theorem d_J_numberOfTrailingZeros_9 : decode b_J_numberOfTrailingZeros 9 = .ok (.ifCond .gt 8, 3) := by decide +kernel
theorem d_J_numberOfTrailingZeros_12 : decode b_J_numberOfTrailingZeros 12 = .ok (.iload_n 0, 1) := by decide +kernel
theorem d_J_numberOfTrailingZeros_13 : decode b_J_numberOfTrailingZeros 13 = .ok (.bipush 32, 2) := by decide +kernel
theorem d_J_numberOfTrailingZeros_15 : decode b_J_numberOfTrailingZeros 15 = .ok (.iand, 1) := by decide +kernel
theorem d_J_numberOfTrailingZeros_16 : decode b_J_numberOfTrailingZeros 16 = .ok (.ireturn, 1) := by decide +kernel
theorem d_J_numberOfTrailingZeros_17 : decode b_J_numberOfTrailingZeros 17 = .ok (.iconst 1, 1) := by decide +kernel
theorem d_J_numberOfTrailingZeros_18 : decode b_J_numberOfTrailingZeros 18 = .ok (.istore_n 1, 1) := by decide +kernel
theorem d_J_numberOfTrailingZeros_19 : decode b_J_numberOfTrailingZeros 19 = .ok (.iload_n 0, 1) := by decide +kernel
theorem d_J_numberOfTrailingZeros_20 : decode b_J_numberOfTrailingZeros 20 = .ok (.ldc_w 264, 3) := by decide +kernel
theorem d_J_numberOfTrailingZeros_23 : decode b_J_numberOfTrailingZeros 23 = .ok (.if_icmp .le 11, 3) := by decide +kernel
theorem d_J_numberOfTrailingZeros_26 : decode b_J_numberOfTrailingZeros 26 = .ok (.iinc 1 16, 3) := by decide +kernel
theorem d_J_numberOfTrailingZeros_29 : decode b_J_numberOfTrailingZeros 29 = .ok (.iload_n 0, 1) := by decide +kernel
theorem d_J_numberOfTrailingZeros_30 : decode b_J_numberOfTrailingZeros 30 = .ok (.bipush 16, 2) := by decide +kernel
theorem d_J_numberOfTrailingZeros_32 : decode b_J_numberOfTrailingZeros 32 = .ok (.iushr, 1) := by decide +kernel
theorem d_J_numberOfTrailingZeros_33 : decode b_J_numberOfTrailingZeros 33 = .ok (.istore_n 0, 1) := by decide +kernel
theorem d_J_numberOfTrailingZeros_34 : decode b_J_numberOfTrailingZeros 34 = .ok (.iload_n 0, 1) := by decide +kernel
theorem d_J_numberOfTrailingZeros_35 : decode b_J_numberOfTrailingZeros 35 = .ok (.sipush 256, 3) := by decide +kernel
theorem d_J_numberOfTrailingZeros_38 : decode b_J_numberOfTrailingZeros 38 = .ok (.if_icmp .le 11, 3) := by decide +kernel
theorem d_J_numberOfTrailingZeros_41 : decode b_J_numberOfTrailingZeros 41 = .ok (.iinc 1 8, 3) := by decide +kernel
theorem d_J_numberOfTrailingZeros_44 : decode b_J_numberOfTrailingZeros 44 = .ok (.iload_n 0, 1) := by decide +kernel
theorem d_J_numberOfTrailingZeros_45 : decode b_J_numberOfTrailingZeros 45 = .ok (.bipush 8, 2) := by decide +kernel
theorem d_J_numberOfTrailingZeros_47 : decode b_J_numberOfTrailingZeros 47 = .ok (.iushr, 1) := by decide +kernel
theorem d_J_numberOfTrailingZeros_48 : decode b_J_numberOfTrailingZeros 48 = .ok (.istore_n 0, 1) := by decide +kernel
theorem d_J_numberOfTrailingZeros_49 : decode b_J_numberOfTrailingZeros 49 = .ok (.iload_n 0, 1) := by decide +kernel
theorem d_J_numberOfTrailingZeros_50 : decode b_J_numberOfTrailingZeros 50 = .ok (.bipush 16, 2) := by decide +kernel
theorem d_J_numberOfTrailingZeros_52 : decode b_J_numberOfTrailingZeros 52 = .ok (.if_icmp .le 10, 3) := by decide +kernel
theorem d_J_numberOfTrailingZeros_55 : decode b_J_numberOfTrailingZeros 55 = .ok (.iinc 1 4, 3) := by decide +kernel
theorem d_J_numberOfTrailingZeros_58 : decode b_J_numberOfTrailingZeros 58 = .ok (.iload_n 0, 1) := by decide +kernel
theorem d_J_numberOfTrailingZeros_59 : decode b_J_numberOfTrailingZeros 59 = .ok (.iconst 4, 1) := by decide +kernel
theorem d_J_numberOfTrailingZeros_60 : decode b_J_numberOfTrailingZeros 60 = .ok (.iushr, 1) := by decide +kernel
theorem d_J_numberOfTrailingZeros_61 : decode b_J_numberOfTrailingZeros 61 = .ok (.istore_n 0, 1) := by decide +kernel
theorem d_J_numberOfTrailingZeros_62 : decode b_J_numberOfTrailingZeros 62 = .ok (.iload_n 0, 1) := by decide +kernel
theorem d_J_numberOfTrailingZeros_63 : decode b_J_numberOfTrailingZeros 63 = .ok (.iconst 4, 1) := by decide +kernel
theorem d_J_numberOfTrailingZeros_64 : decode b_J_numberOfTrailingZeros 64 = .ok (.if_icmp .le 10, 3) := by decide +kernel
theorem d_J_numberOfTrailingZeros_67 : decode b_J_numberOfTrailingZeros 67 = .ok (.iinc 1 2, 3) := by decide +kernel
theorem d_J_numberOfTrailingZeros_70 : decode b_J_numberOfTrailingZeros 70 = .ok (.iload_n 0, 1) := by decide +kernel
theorem d_J_numberOfTrailingZeros_71 : decode b_J_numberOfTrailingZeros 71 = .ok (.iconst 2, 1) := by decide +kernel
theorem d_J_numberOfTrailingZeros_72 : decode b_J_numberOfTrailingZeros 72 = .ok (.iushr, 1) := by decide +kernel
theorem d_J_numberOfTrailingZeros_73 : decode b_J_numberOfTrailingZeros 73 = .ok (.istore_n 0, 1) := by decide +kernel
theorem d_J_numberOfTrailingZeros_74 : decode b_J_numberOfTrailingZeros 74 = .ok (.iload_n 1, 1) := by decide +kernel
theorem d_J_numberOfTrailingZeros_75 : decode b_J_numberOfTrailingZeros 75 = .ok (.iload_n 0, 1) := by decide +kernel
theorem d_J_numberOfTrailingZeros_76 : decode b_J_numberOfTrailingZeros 76 = .ok (.iconst 1, 1) := by decide +kernel
theorem d_J_numberOfTrailingZeros_77 : decode b_J_numberOfTrailingZeros 77 = .ok (.iushr, 1) := by decide +kernel
theorem d_J_numberOfTrailingZeros_78 : decode b_J_numberOfTrailingZeros 78 = .ok (.iadd, 1) := by decide +kernel
theorem d_J_numberOfTrailingZeros_79 : decode b_J_numberOfTrailingZeros 79 = .ok (.ireturn, 1) := by decide +kernel
theorem d_J_bitCount_0 : decode b_J_bitCount 0 = .ok (.iload_n 0, 1) := by decide +kernel
theorem d_J_bitCount_1 : decode b_J_bitCount 1 = .ok (.iload_n 0, 1) := by decide +kernel
theorem d_J_bitCount_2 : decode b_J_bitCount 2 = .ok (.iconst 1, 1) := by decide +kernel
theorem d_J_bitCount_3 : decode b_J_bitCount 3 = .ok (.iushr, 1) := by decide +kernel
theorem d_J_bitCount_4 : decode b_J_bitCount 4 = .ok (.ldc_w 265, 3) := by decide +kernel
theorem d_J_bitCount_7 : decode b_J_bitCount 7 = .ok (.iand, 1) := by decide +kernel
theorem d_J_bitCount_8 : decode b_J_bitCount 8 = .ok (.isub, 1) := by decide +kernel
theorem d_J_bitCount_9 : decode b_J_bitCount 9 = .ok (.istore_n 0, 1) := by decide +kernel
theorem d_J_bitCount_10 : decode b_J_bitCount 10 = .ok (.iload_n 0, 1) := by decide +kernel
theorem d_J_bitCount_11 : decode b_J_bitCount 11 = .ok (.ldc_w 266, 3) := by decide +kernel
theorem d_J_bitCount_14 : decode b_J_bitCount 14 = .ok (.iand, 1) := by decide +kernel
theorem d_J_bitCount_15 : decode b_J_bitCount 15 = .ok (.iload_n 0, 1) := by decide +kernel
theorem d_J_bitCount_16 : decode b_J_bitCount 16 = .ok (.iconst 2, 1) := by decide +kernel
theorem d_J_bitCount_17 : decode b_J_bitCount 17 = .ok (.iushr, 1) := by decide +kernel
theorem d_J_bitCount_18 : decode b_J_bitCount 18 = .ok (.ldc_w 266, 3) := by decide +kernel
theorem d_J_bitCount_21 : decode b_J_bitCount 21 = .ok (.iand, 1) := by decide +kernel
theorem d_J_bitCount_22 : decode b_J_bitCount 22 = .ok (.iadd, 1) := by decide +kernel
theorem d_J_bitCount_23 : decode b_J_bitCount 23 = .ok (.istore_n 0, 1) := by decide +kernel
theorem d_J_bitCount_24 : decode b_J_bitCount 24 = .ok (.iload_n 0, 1) := by decide +kernel
theorem d_J_bitCount_25 : decode b_J_bitCount 25 = .ok (.iload_n 0, 1) := by decide +kernel
theorem d_J_bitCount_26 : decode b_J_bitCount 26 = .ok (.iconst 4, 1) := by decide +kernel
theorem d_J_bitCount_27 : decode b_J_bitCount 27 = .ok (.iushr, 1) := by decide +kernel
theorem d_J_bitCount_28 : decode b_J_bitCount 28 = .ok (.iadd, 1) := by decide +kernel
theorem d_J_bitCount_29 : decode b_J_bitCount 29 = .ok (.ldc_w 267, 3) := by decide +kernel
theorem d_J_bitCount_32 : decode b_J_bitCount 32 = .ok (.iand, 1) := by decide +kernel
theorem d_J_bitCount_33 : decode b_J_bitCount 33 = .ok (.istore_n 0, 1) := by decide +kernel
theorem d_J_bitCount_34 : decode b_J_bitCount 34 = .ok (.iload_n 0, 1) := by decide +kernel
theorem d_J_bitCount_35 : decode b_J_bitCount 35 = .ok (.iload_n 0, 1) := by decide +kernel
theorem d_J_bitCount_36 : decode b_J_bitCount 36 = .ok (.bipush 8, 2) := by decide +kernel
theorem d_J_bitCount_38 : decode b_J_bitCount 38 = .ok (.iushr, 1) := by decide +kernel
theorem d_J_bitCount_39 : decode b_J_bitCount 39 = .ok (.iadd, 1) := by decide +kernel
theorem d_J_bitCount_40 : decode b_J_bitCount 40 = .ok (.istore_n 0, 1) := by decide +kernel
theorem d_J_bitCount_41 : decode b_J_bitCount 41 = .ok (.iload_n 0, 1) := by decide +kernel
theorem d_J_bitCount_42 : decode b_J_bitCount 42 = .ok (.iload_n 0, 1) := by decide +kernel
theorem d_J_bitCount_43 : decode b_J_bitCount 43 = .ok (.bipush 16, 2) := by decide +kernel
theorem d_J_bitCount_45 : decode b_J_bitCount 45 = .ok (.iushr, 1) := by decide +kernel
theorem d_J_bitCount_46 : decode b_J_bitCount 46 = .ok (.iadd, 1) := by decide +kernel
theorem d_J_bitCount_47 : decode b_J_bitCount 47 = .ok (.istore_n 0, 1) := by decide +kernel
theorem d_J_bitCount_48 : decode b_J_bitCount 48 = .ok (.iload_n 0, 1) := by decide +kernel
theorem d_J_bitCount_49 : decode b_J_bitCount 49 = .ok (.bipush 63, 2) := by decide +kernel
theorem d_J_bitCount_51 : decode b_J_bitCount 51 = .ok (.iand, 1) := by decide +kernel
theorem d_J_bitCount_52 : decode b_J_bitCount 52 = .ok (.ireturn, 1) := by decide +kernel
theorem d_A_fill_0 : decode b_A_fill 0 = .ok (.iconst 0, 1) := by decide +kernel
theorem d_A_fill_1 : decode b_A_fill 1 = .ok (.istore_n 2, 1) := by decide +kernel
theorem d_A_fill_2 : decode b_A_fill 2 = .ok (.aload_n 0, 1) := by decide +kernel
theorem d_A_fill_3 : decode b_A_fill 3 = .ok (.arraylength, 1) := by decide +kernel
theorem d_A_fill_4 : decode b_A_fill 4 = .ok (.istore_n 3, 1) := by decide +kernel
theorem d_A_fill_5 : decode b_A_fill 5 = .ok (.iload_n 2, 1) := by decide +kernel
theorem d_A_fill_6 : decode b_A_fill 6 = .ok (.iload_n 3, 1) := by decide +kernel
theorem d_A_fill_7 : decode b_A_fill 7 = .ok (.if_icmp .ge 13, 3) := by decide +kernel
theorem d_A_fill_10 : decode b_A_fill 10 = .ok (.aload_n 0, 1) := by decide +kernel
theorem d_A_fill_11 : decode b_A_fill 11 = .ok (.iload_n 2, 1) := by decide +kernel
theorem d_A_fill_12 : decode b_A_fill 12 = .ok (.iload_n 1, 1) := by decide +kernel
theorem d_A_fill_13 : decode b_A_fill 13 = .ok (.iastore, 1) := by decide +kernel
theorem d_A_fill_14 : decode b_A_fill 14 = .ok (.iinc 2 1, 3) := by decide +kernel
theorem d_A_fill_17 : decode b_A_fill 17 = .ok (.goto (-12), 3) := by decide +kernel
theorem d_A_fill_20 : decode b_A_fill 20 = .ok (.return_, 1) := by decide +kernel
