/-! ===== the instructions of the reference ===== -/
theorem d_M_init_0 : decode b_M_init 0 = .ok (.aload_n 0, 1) := by decide +kernel
theorem d_M_init_1 : decode b_M_init 1 = .ok (.invokespecial 1, 3) := by decide +kernel
theorem d_M_init_4 : decode b_M_init 4 = .ok (.aload_n 0, 1) := by decide +kernel
theorem d_M_init_5 : decode b_M_init 5 = .ok (.sipush 3561, 3) := by decide +kernel
theorem d_M_init_8 : decode b_M_init 8 = .ok (.newarray .int, 2) := by decide +kernel
theorem d_M_init_10 : decode b_M_init 10 = .ok (.putfield 9, 3) := by decide +kernel
theorem d_M_init_13 : decode b_M_init 13 = .ok (.aload_n 0, 1) := by decide +kernel
theorem d_M_init_14 : decode b_M_init 14 = .ok (.sipush 28488, 3) := by decide +kernel
theorem d_M_init_17 : decode b_M_init 17 = .ok (.newarray .int, 2) := by decide +kernel
theorem d_M_init_19 : decode b_M_init 19 = .ok (.putfield 13, 3) := by decide +kernel
theorem d_M_init_22 : decode b_M_init 22 = .ok (.aload_n 0, 1) := by decide +kernel
theorem d_M_init_23 : decode b_M_init 23 = .ok (.sipush 3561, 3) := by decide +kernel
theorem d_M_init_26 : decode b_M_init 26 = .ok (.newarray .int, 2) := by decide +kernel
theorem d_M_init_28 : decode b_M_init 28 = .ok (.putfield 16, 3) := by decide +kernel
theorem d_M_init_31 : decode b_M_init 31 = .ok (.aload_n 0, 1) := by decide +kernel
theorem d_M_init_32 : decode b_M_init 32 = .ok (.sipush 3561, 3) := by decide +kernel
theorem d_M_init_35 : decode b_M_init 35 = .ok (.newarray .int, 2) := by decide +kernel
theorem d_M_init_37 : decode b_M_init 37 = .ok (.putfield 19, 3) := by decide +kernel
theorem d_M_init_40 : decode b_M_init 40 = .ok (.aload_n 0, 1) := by decide +kernel
theorem d_M_init_41 : decode b_M_init 41 = .ok (.iconst (-1), 1) := by decide +kernel
theorem d_M_init_42 : decode b_M_init 42 = .ok (.putfield 22, 3) := by decide +kernel
theorem d_M_init_45 : decode b_M_init 45 = .ok (.aload_n 0, 1) := by decide +kernel
theorem d_M_init_46 : decode b_M_init 46 = .ok (.iconst (-1), 1) := by decide +kernel
theorem d_M_init_47 : decode b_M_init 47 = .ok (.putfield 26, 3) := by decide +kernel
theorem d_M_init_50 : decode b_M_init 50 = .ok (.aload_n 0, 1) := by decide +kernel
theorem d_M_init_51 : decode b_M_init 51 = .ok (.bipush 60, 2) := by decide +kernel
theorem d_M_init_53 : decode b_M_init 53 = .ok (.newarray .char, 2) := by decide +kernel
theorem d_M_init_55 : decode b_M_init 55 = .ok (.putfield 29, 3) := by decide +kernel
theorem d_M_init_58 : decode b_M_init 58 = .ok (.aload_n 0, 1) := by decide +kernel
theorem d_M_init_59 : decode b_M_init 59 = .ok (.getfield 9, 3) := by decide +kernel
theorem d_M_init_62 : decode b_M_init 62 = .ok (.iconst 0, 1) := by decide +kernel
theorem d_M_init_63 : decode b_M_init 63 = .ok (.sipush 480, 3) := by decide +kernel
theorem d_M_init_66 : decode b_M_init 66 = .ok (.iastore, 1) := by decide +kernel
theorem d_M_init_67 : decode b_M_init 67 = .ok (.return_, 1) := by decide +kernel
theorem d_M_thrown_0 : decode b_M_thrown 0 = .ok (.aload_n 0, 1) := by decide +kernel
theorem d_M_thrown_1 : decode b_M_thrown 1 = .ok (.getfield 33, 3) := by decide +kernel
theorem d_M_thrown_4 : decode b_M_thrown 4 = .ok (.ireturn, 1) := by decide +kernel
theorem d_M_clear_0 : decode b_M_clear 0 = .ok (.aload_n 0, 1) := by decide +kernel
theorem d_M_clear_1 : decode b_M_clear 1 = .ok (.iconst 0, 1) := by decide +kernel
theorem d_M_clear_2 : decode b_M_clear 2 = .ok (.putfield 33, 3) := by decide +kernel
theorem d_M_clear_5 : decode b_M_clear 5 = .ok (.aload_n 0, 1) := by decide +kernel
theorem d_M_clear_6 : decode b_M_clear 6 = .ok (.getfield 9, 3) := by decide +kernel
theorem d_M_clear_9 : decode b_M_clear 9 = .ok (.iconst 3, 1) := by decide +kernel
theorem d_M_clear_10 : decode b_M_clear 10 = .ok (.iaload, 1) := by decide +kernel
theorem d_M_clear_11 : decode b_M_clear 11 = .ok (.istore_n 1, 1) := by decide +kernel
theorem d_M_clear_12 : decode b_M_clear 12 = .ok (.iconst 0, 1) := by decide +kernel
theorem d_M_clear_13 : decode b_M_clear 13 = .ok (.istore_n 2, 1) := by decide +kernel
theorem d_M_clear_14 : decode b_M_clear 14 = .ok (.iload_n 2, 1) := by decide +kernel
theorem d_M_clear_15 : decode b_M_clear 15 = .ok (.sipush 3561, 3) := by decide +kernel
theorem d_M_clear_18 : decode b_M_clear 18 = .ok (.if_icmp .ge 16, 3) := by decide +kernel
theorem d_M_clear_21 : decode b_M_clear 21 = .ok (.aload_n 0, 1) := by decide +kernel
theorem d_M_clear_22 : decode b_M_clear 22 = .ok (.getfield 9, 3) := by decide +kernel
theorem d_M_clear_25 : decode b_M_clear 25 = .ok (.iload_n 2, 1) := by decide +kernel
theorem d_M_clear_26 : decode b_M_clear 26 = .ok (.iconst 0, 1) := by decide +kernel
theorem d_M_clear_27 : decode b_M_clear 27 = .ok (.iastore, 1) := by decide +kernel
theorem d_M_clear_28 : decode b_M_clear 28 = .ok (.iinc 2 1, 3) := by decide +kernel
theorem d_M_clear_31 : decode b_M_clear 31 = .ok (.goto (-17), 3) := by decide +kernel
theorem d_M_clear_34 : decode b_M_clear 34 = .ok (.aload_n 0, 1) := by decide +kernel
theorem d_M_clear_35 : decode b_M_clear 35 = .ok (.getfield 9, 3) := by decide +kernel
theorem d_M_clear_38 : decode b_M_clear 38 = .ok (.iconst 0, 1) := by decide +kernel
theorem d_M_clear_39 : decode b_M_clear 39 = .ok (.sipush 480, 3) := by decide +kernel
theorem d_M_clear_42 : decode b_M_clear 42 = .ok (.iastore, 1) := by decide +kernel
theorem d_M_clear_43 : decode b_M_clear 43 = .ok (.aload_n 0, 1) := by decide +kernel
theorem d_M_clear_44 : decode b_M_clear 44 = .ok (.iconst 0, 1) := by decide +kernel
theorem d_M_clear_45 : decode b_M_clear 45 = .ok (.putfield 36, 3) := by decide +kernel
theorem d_M_clear_48 : decode b_M_clear 48 = .ok (.aload_n 0, 1) := by decide +kernel
theorem d_M_clear_49 : decode b_M_clear 49 = .ok (.iconst 0, 1) := by decide +kernel
theorem d_M_clear_50 : decode b_M_clear 50 = .ok (.putfield 49, 3) := by decide +kernel
theorem d_M_clear_53 : decode b_M_clear 53 = .ok (.iload_n 1, 1) := by decide +kernel
theorem d_M_clear_54 : decode b_M_clear 54 = .ok (.ireturn, 1) := by decide +kernel
theorem d_M_addGate_0 : decode b_M_addGate 0 = .ok (.aload_n 0, 1) := by decide +kernel
theorem d_M_addGate_1 : decode b_M_addGate 1 = .ok (.iconst 0, 1) := by decide +kernel
theorem d_M_addGate_2 : decode b_M_addGate 2 = .ok (.putfield 33, 3) := by decide +kernel
theorem d_M_addGate_5 : decode b_M_addGate 5 = .ok (.iload_n 1, 1) := by decide +kernel
theorem d_M_addGate_6 : decode b_M_addGate 6 = .ok (.iconst 0, 1) := by decide +kernel
theorem d_M_addGate_7 : decode b_M_addGate 7 = .ok (.iconst 3, 1) := by decide +kernel
theorem d_M_addGate_8 : decode b_M_addGate 8 = .ok (.invokestatic 45, 3) := by decide +kernel
theorem d_M_addGate_11 : decode b_M_addGate 11 = .ok (.ifCond .eq 13, 3) := by decide +kernel
theorem d_M_addGate_14 : decode b_M_addGate 14 = .ok (.iload_n 2, 1) := by decide +kernel
theorem d_M_addGate_15 : decode b_M_addGate 15 = .ok (.iconst 0, 1) := by decide +kernel
theorem d_M_addGate_16 : decode b_M_addGate 16 = .ok (.bipush 99, 2) := by decide +kernel
theorem d_M_addGate_18 : decode b_M_addGate 18 = .ok (.invokestatic 45, 3) := by decide +kernel
theorem d_M_addGate_21 : decode b_M_addGate 21 = .ok (.ifCond .ne 9, 3) := by decide +kernel
theorem d_M_addGate_24 : decode b_M_addGate 24 = .ok (.aload_n 0, 1) := by decide +kernel
theorem d_M_addGate_25 : decode b_M_addGate 25 = .ok (.iconst 1, 1) := by decide +kernel
theorem d_M_addGate_26 : decode b_M_addGate 26 = .ok (.invokevirtual 52, 3) := by decide +kernel
theorem d_M_addGate_29 : decode b_M_addGate 29 = .ok (.ireturn, 1) := by decide +kernel
theorem d_M_addGate_30 : decode b_M_addGate 30 = .ok (.aload_n 0, 1) := by decide +kernel
theorem d_M_addGate_31 : decode b_M_addGate 31 = .ok (.getfield 9, 3) := by decide +kernel
theorem d_M_addGate_34 : decode b_M_addGate 34 = .ok (.iconst 1, 1) := by decide +kernel
theorem d_M_addGate_35 : decode b_M_addGate 35 = .ok (.iaload, 1) := by decide +kernel
theorem d_M_addGate_36 : decode b_M_addGate 36 = .ok (.bipush 12, 2) := by decide +kernel
theorem d_M_addGate_38 : decode b_M_addGate 38 = .ok (.if_icmp .ne 9, 3) := by decide +kernel
theorem d_M_addGate_41 : decode b_M_addGate 41 = .ok (.aload_n 0, 1) := by decide +kernel
theorem d_M_addGate_42 : decode b_M_addGate 42 = .ok (.iconst 2, 1) := by decide +kernel
theorem d_M_addGate_43 : decode b_M_addGate 43 = .ok (.invokevirtual 52, 3) := by decide +kernel
theorem d_M_addGate_46 : decode b_M_addGate 46 = .ok (.ireturn, 1) := by decide +kernel
theorem d_M_addGate_47 : decode b_M_addGate 47 = .ok (.aload_n 0, 1) := by decide +kernel
theorem d_M_addGate_48 : decode b_M_addGate 48 = .ok (.invokevirtual 56, 3) := by decide +kernel
theorem d_M_addGate_51 : decode b_M_addGate 51 = .ok (.iconst 5, 1) := by decide +kernel
theorem d_M_addGate_52 : decode b_M_addGate 52 = .ok (.bipush 34, 2) := by decide +kernel
theorem d_M_addGate_54 : decode b_M_addGate 54 = .ok (.aload_n 0, 1) := by decide +kernel
theorem d_M_addGate_55 : decode b_M_addGate 55 = .ok (.getfield 9, 3) := by decide +kernel
theorem d_M_addGate_58 : decode b_M_addGate 58 = .ok (.iconst 1, 1) := by decide +kernel
theorem d_M_addGate_59 : decode b_M_addGate 59 = .ok (.iaload, 1) := by decide +kernel
theorem d_M_addGate_60 : decode b_M_addGate 60 = .ok (.imul, 1) := by decide +kernel
theorem d_M_addGate_61 : decode b_M_addGate 61 = .ok (.iadd, 1) := by decide +kernel
theorem d_M_addGate_62 : decode b_M_addGate 62 = .ok (.istore_n 3, 1) := by decide +kernel
theorem d_M_addGate_63 : decode b_M_addGate 63 = .ok (.aload_n 0, 1) := by decide +kernel
theorem d_M_addGate_64 : decode b_M_addGate 64 = .ok (.getfield 9, 3) := by decide +kernel
theorem d_M_addGate_67 : decode b_M_addGate 67 = .ok (.iload_n 3, 1) := by decide +kernel
theorem d_M_addGate_68 : decode b_M_addGate 68 = .ok (.iload_n 1, 1) := by decide +kernel
theorem d_M_addGate_69 : decode b_M_addGate 69 = .ok (.iastore, 1) := by decide +kernel
theorem d_M_addGate_70 : decode b_M_addGate 70 = .ok (.aload_n 0, 1) := by decide +kernel
theorem d_M_addGate_71 : decode b_M_addGate 71 = .ok (.getfield 9, 3) := by decide +kernel
theorem d_M_addGate_74 : decode b_M_addGate 74 = .ok (.iload_n 3, 1) := by decide +kernel
theorem d_M_addGate_75 : decode b_M_addGate 75 = .ok (.iconst 1, 1) := by decide +kernel
theorem d_M_addGate_76 : decode b_M_addGate 76 = .ok (.iadd, 1) := by decide +kernel
theorem d_M_addGate_77 : decode b_M_addGate 77 = .ok (.iload_n 2, 1) := by decide +kernel
theorem d_M_addGate_78 : decode b_M_addGate 78 = .ok (.iastore, 1) := by decide +kernel
theorem d_M_addGate_79 : decode b_M_addGate 79 = .ok (.aload_n 0, 1) := by decide +kernel
theorem d_M_addGate_80 : decode b_M_addGate 80 = .ok (.getfield 9, 3) := by decide +kernel
theorem d_M_addGate_83 : decode b_M_addGate 83 = .ok (.iconst 1, 1) := by decide +kernel
theorem d_M_addGate_84 : decode b_M_addGate 84 = .ok (.dup2, 1) := by decide +kernel
theorem d_M_addGate_85 : decode b_M_addGate 85 = .ok (.iaload, 1) := by decide +kernel
theorem d_M_addGate_86 : decode b_M_addGate 86 = .ok (.iconst 1, 1) := by decide +kernel
theorem d_M_addGate_87 : decode b_M_addGate 87 = .ok (.iadd, 1) := by decide +kernel
theorem d_M_addGate_88 : decode b_M_addGate 88 = .ok (.iastore, 1) := by decide +kernel
theorem d_M_addGate_89 : decode b_M_addGate 89 = .ok (.aload_n 0, 1) := by decide +kernel
theorem d_M_addGate_90 : decode b_M_addGate 90 = .ok (.getfield 9, 3) := by decide +kernel
theorem d_M_addGate_93 : decode b_M_addGate 93 = .ok (.iconst 1, 1) := by decide +kernel
theorem d_M_addGate_94 : decode b_M_addGate 94 = .ok (.iaload, 1) := by decide +kernel
theorem d_M_addGate_95 : decode b_M_addGate 95 = .ok (.iconst 1, 1) := by decide +kernel
theorem d_M_addGate_96 : decode b_M_addGate 96 = .ok (.isub, 1) := by decide +kernel
theorem d_M_addGate_97 : decode b_M_addGate 97 = .ok (.ireturn, 1) := by decide +kernel
theorem d_M_isIn_0 : decode b_M_isIn 0 = .ok (.iload_n 0, 1) := by decide +kernel
theorem d_M_isIn_1 : decode b_M_isIn 1 = .ok (.iload_n 1, 1) := by decide +kernel
theorem d_M_isIn_2 : decode b_M_isIn 2 = .ok (.if_icmp .lt 12, 3) := by decide +kernel
theorem d_M_isIn_5 : decode b_M_isIn 5 = .ok (.iload_n 0, 1) := by decide +kernel
theorem d_M_isIn_6 : decode b_M_isIn 6 = .ok (.iload_n 2, 1) := by decide +kernel
theorem d_M_isIn_7 : decode b_M_isIn 7 = .ok (.if_icmp .gt 7, 3) := by decide +kernel
theorem d_M_isIn_10 : decode b_M_isIn 10 = .ok (.iconst 1, 1) := by decide +kernel
theorem d_M_isIn_11 : decode b_M_isIn 11 = .ok (.goto 4, 3) := by decide +kernel
theorem d_M_isIn_14 : decode b_M_isIn 14 = .ok (.iconst 0, 1) := by decide +kernel
theorem d_M_isIn_15 : decode b_M_isIn 15 = .ok (.ireturn, 1) := by decide +kernel
theorem d_M_fail_0 : decode b_M_fail 0 = .ok (.aload_n 0, 1) := by decide +kernel
theorem d_M_fail_1 : decode b_M_fail 1 = .ok (.iload_n 1, 1) := by decide +kernel
theorem d_M_fail_2 : decode b_M_fail 2 = .ok (.putfield 33, 3) := by decide +kernel
theorem d_M_fail_5 : decode b_M_fail 5 = .ok (.iconst 0, 1) := by decide +kernel
theorem d_M_fail_6 : decode b_M_fail 6 = .ok (.ireturn, 1) := by decide +kernel
theorem d_M_changes_0 : decode b_M_changes 0 = .ok (.aload_n 0, 1) := by decide +kernel
theorem d_M_changes_1 : decode b_M_changes 1 = .ok (.invokevirtual 39, 3) := by decide +kernel
theorem d_M_changes_4 : decode b_M_changes 4 = .ok (.aload_n 0, 1) := by decide +kernel
theorem d_M_changes_5 : decode b_M_changes 5 = .ok (.invokevirtual 42, 3) := by decide +kernel
theorem d_M_changes_8 : decode b_M_changes 8 = .ok (.return_, 1) := by decide +kernel
theorem d_M_keepTried_0 : decode b_M_keepTried 0 = .ok (.iconst 0, 1) := by decide +kernel
theorem d_M_keepTried_1 : decode b_M_keepTried 1 = .ok (.istore_n 1, 1) := by decide +kernel
theorem d_M_keepTried_2 : decode b_M_keepTried 2 = .ok (.iload_n 1, 1) := by decide +kernel
theorem d_M_keepTried_3 : decode b_M_keepTried 3 = .ok (.sipush 3561, 3) := by decide +kernel
theorem d_M_keepTried_6 : decode b_M_keepTried 6 = .ok (.if_icmp .ge 21, 3) := by decide +kernel
theorem d_M_keepTried_9 : decode b_M_keepTried 9 = .ok (.aload_n 0, 1) := by decide +kernel
theorem d_M_keepTried_10 : decode b_M_keepTried 10 = .ok (.getfield 19, 3) := by decide +kernel
theorem d_M_keepTried_13 : decode b_M_keepTried 13 = .ok (.iload_n 1, 1) := by decide +kernel
theorem d_M_keepTried_14 : decode b_M_keepTried 14 = .ok (.aload_n 0, 1) := by decide +kernel
theorem d_M_keepTried_15 : decode b_M_keepTried 15 = .ok (.getfield 9, 3) := by decide +kernel
theorem d_M_keepTried_18 : decode b_M_keepTried 18 = .ok (.iload_n 1, 1) := by decide +kernel
theorem d_M_keepTried_19 : decode b_M_keepTried 19 = .ok (.iaload, 1) := by decide +kernel
theorem d_M_keepTried_20 : decode b_M_keepTried 20 = .ok (.iastore, 1) := by decide +kernel
theorem d_M_keepTried_21 : decode b_M_keepTried 21 = .ok (.iinc 1 1, 3) := by decide +kernel
theorem d_M_keepTried_24 : decode b_M_keepTried 24 = .ok (.goto (-22), 3) := by decide +kernel
theorem d_M_keepTried_27 : decode b_M_keepTried 27 = .ok (.return_, 1) := by decide +kernel
theorem d_M_remember_0 : decode b_M_remember 0 = .ok (.aload_n 0, 1) := by decide +kernel
theorem d_M_remember_1 : decode b_M_remember 1 = .ok (.getfield 36, 3) := by decide +kernel
theorem d_M_remember_4 : decode b_M_remember 4 = .ok (.bipush 8, 2) := by decide +kernel
theorem d_M_remember_6 : decode b_M_remember 6 = .ok (.if_icmp .ne 49, 3) := by decide +kernel
theorem d_M_remember_9 : decode b_M_remember 9 = .ok (.aload_n 0, 1) := by decide +kernel
theorem d_M_remember_10 : decode b_M_remember 10 = .ok (.dup, 1) := by decide +kernel
theorem d_M_remember_11 : decode b_M_remember 11 = .ok (.getfield 36, 3) := by decide +kernel
theorem d_M_remember_14 : decode b_M_remember 14 = .ok (.iconst 1, 1) := by decide +kernel
theorem d_M_remember_15 : decode b_M_remember 15 = .ok (.isub, 1) := by decide +kernel
theorem d_M_remember_16 : decode b_M_remember 16 = .ok (.putfield 36, 3) := by decide +kernel
theorem d_M_remember_19 : decode b_M_remember 19 = .ok (.iconst 0, 1) := by decide +kernel
theorem d_M_remember_20 : decode b_M_remember 20 = .ok (.istore_n 1, 1) := by decide +kernel
theorem d_M_remember_21 : decode b_M_remember 21 = .ok (.iload_n 1, 1) := by decide +kernel
theorem d_M_remember_22 : decode b_M_remember 22 = .ok (.sipush 3561, 3) := by decide +kernel
theorem d_M_remember_25 : decode b_M_remember 25 = .ok (.aload_n 0, 1) := by decide +kernel
theorem d_M_remember_26 : decode b_M_remember 26 = .ok (.getfield 36, 3) := by decide +kernel
theorem d_M_remember_29 : decode b_M_remember 29 = .ok (.imul, 1) := by decide +kernel
theorem d_M_remember_30 : decode b_M_remember 30 = .ok (.if_icmp .ge 25, 3) := by decide +kernel
theorem d_M_remember_33 : decode b_M_remember 33 = .ok (.aload_n 0, 1) := by decide +kernel
theorem d_M_remember_34 : decode b_M_remember 34 = .ok (.getfield 13, 3) := by decide +kernel
theorem d_M_remember_37 : decode b_M_remember 37 = .ok (.iload_n 1, 1) := by decide +kernel
theorem d_M_remember_38 : decode b_M_remember 38 = .ok (.aload_n 0, 1) := by decide +kernel
theorem d_M_remember_39 : decode b_M_remember 39 = .ok (.getfield 13, 3) := by decide +kernel
theorem d_M_remember_42 : decode b_M_remember 42 = .ok (.iload_n 1, 1) := by decide +kernel
theorem d_M_remember_43 : decode b_M_remember 43 = .ok (.sipush 3561, 3) := by decide +kernel
theorem d_M_remember_46 : decode b_M_remember 46 = .ok (.iadd, 1) := by decide +kernel
theorem d_M_remember_47 : decode b_M_remember 47 = .ok (.iaload, 1) := by decide +kernel
theorem d_M_remember_48 : decode b_M_remember 48 = .ok (.iastore, 1) := by decide +kernel
theorem d_M_remember_49 : decode b_M_remember 49 = .ok (.iinc 1 1, 3) := by decide +kernel
theorem d_M_remember_52 : decode b_M_remember 52 = .ok (.goto (-31), 3) := by decide +kernel
theorem d_M_remember_55 : decode b_M_remember 55 = .ok (.iconst 0, 1) := by decide +kernel
theorem d_M_remember_56 : decode b_M_remember 56 = .ok (.istore_n 1, 1) := by decide +kernel
theorem d_M_remember_57 : decode b_M_remember 57 = .ok (.iload_n 1, 1) := by decide +kernel
theorem d_M_remember_58 : decode b_M_remember 58 = .ok (.sipush 3561, 3) := by decide +kernel
theorem d_M_remember_61 : decode b_M_remember 61 = .ok (.if_icmp .ge 30, 3) := by decide +kernel
theorem d_M_remember_64 : decode b_M_remember 64 = .ok (.aload_n 0, 1) := by decide +kernel
theorem d_M_remember_65 : decode b_M_remember 65 = .ok (.getfield 13, 3) := by decide +kernel
theorem d_M_remember_68 : decode b_M_remember 68 = .ok (.sipush 3561, 3) := by decide +kernel
theorem d_M_remember_71 : decode b_M_remember 71 = .ok (.aload_n 0, 1) := by decide +kernel
theorem d_M_remember_72 : decode b_M_remember 72 = .ok (.getfield 36, 3) := by decide +kernel
theorem d_M_remember_75 : decode b_M_remember 75 = .ok (.imul, 1) := by decide +kernel
theorem d_M_remember_76 : decode b_M_remember 76 = .ok (.iload_n 1, 1) := by decide +kernel
theorem d_M_remember_77 : decode b_M_remember 77 = .ok (.iadd, 1) := by decide +kernel
theorem d_M_remember_78 : decode b_M_remember 78 = .ok (.aload_n 0, 1) := by decide +kernel
theorem d_M_remember_79 : decode b_M_remember 79 = .ok (.getfield 19, 3) := by decide +kernel
theorem d_M_remember_82 : decode b_M_remember 82 = .ok (.iload_n 1, 1) := by decide +kernel
theorem d_M_remember_83 : decode b_M_remember 83 = .ok (.iaload, 1) := by decide +kernel
theorem d_M_remember_84 : decode b_M_remember 84 = .ok (.iastore, 1) := by decide +kernel
theorem d_M_remember_85 : decode b_M_remember 85 = .ok (.iinc 1 1, 3) := by decide +kernel
theorem d_M_remember_88 : decode b_M_remember 88 = .ok (.goto (-31), 3) := by decide +kernel
theorem d_M_remember_91 : decode b_M_remember 91 = .ok (.aload_n 0, 1) := by decide +kernel
theorem d_M_remember_92 : decode b_M_remember 92 = .ok (.dup, 1) := by decide +kernel
theorem d_M_remember_93 : decode b_M_remember 93 = .ok (.getfield 36, 3) := by decide +kernel
theorem d_M_remember_96 : decode b_M_remember 96 = .ok (.iconst 1, 1) := by decide +kernel
theorem d_M_remember_97 : decode b_M_remember 97 = .ok (.iadd, 1) := by decide +kernel
theorem d_M_remember_98 : decode b_M_remember 98 = .ok (.putfield 36, 3) := by decide +kernel
theorem d_M_remember_101 : decode b_M_remember 101 = .ok (.return_, 1) := by decide +kernel
theorem d_M_addProduct_0 : decode b_M_addProduct 0 = .ok (.aload_n 0, 1) := by decide +kernel
theorem d_M_addProduct_1 : decode b_M_addProduct 1 = .ok (.iconst 0, 1) := by decide +kernel
theorem d_M_addProduct_2 : decode b_M_addProduct 2 = .ok (.putfield 33, 3) := by decide +kernel
theorem d_M_addProduct_5 : decode b_M_addProduct 5 = .ok (.iload_n 1, 1) := by decide +kernel
theorem d_M_addProduct_6 : decode b_M_addProduct 6 = .ok (.iconst 0, 1) := by decide +kernel
theorem d_M_addProduct_7 : decode b_M_addProduct 7 = .ok (.iconst 2, 1) := by decide +kernel
theorem d_M_addProduct_8 : decode b_M_addProduct 8 = .ok (.invokestatic 45, 3) := by decide +kernel
theorem d_M_addProduct_11 : decode b_M_addProduct 11 = .ok (.ifCond .eq 44, 3) := by decide +kernel
theorem d_M_addProduct_14 : decode b_M_addProduct 14 = .ok (.iload_n 2, 1) := by decide +kernel
theorem d_M_addProduct_15 : decode b_M_addProduct 15 = .ok (.iconst 1, 1) := by decide +kernel
theorem d_M_addProduct_16 : decode b_M_addProduct 16 = .ok (.bipush 9, 2) := by decide +kernel
theorem d_M_addProduct_18 : decode b_M_addProduct 18 = .ok (.invokestatic 45, 3) := by decide +kernel
theorem d_M_addProduct_21 : decode b_M_addProduct 21 = .ok (.ifCond .eq 34, 3) := by decide +kernel
theorem d_M_addProduct_24 : decode b_M_addProduct 24 = .ok (.iload_n 3, 1) := by decide +kernel
theorem d_M_addProduct_25 : decode b_M_addProduct 25 = .ok (.iconst 0, 1) := by decide +kernel
theorem d_M_addProduct_26 : decode b_M_addProduct 26 = .ok (.bipush 23, 2) := by decide +kernel
theorem d_M_addProduct_28 : decode b_M_addProduct 28 = .ok (.invokestatic 45, 3) := by decide +kernel
theorem d_M_addProduct_31 : decode b_M_addProduct 31 = .ok (.ifCond .eq 24, 3) := by decide +kernel
theorem d_M_addProduct_34 : decode b_M_addProduct 34 = .ok (.iload 4, 2) := by decide +kernel
theorem d_M_addProduct_36 : decode b_M_addProduct 36 = .ok (.iconst 0, 1) := by decide +kernel
theorem d_M_addProduct_37 : decode b_M_addProduct 37 = .ok (.bipush 23, 2) := by decide +kernel
theorem d_M_addProduct_39 : decode b_M_addProduct 39 = .ok (.invokestatic 45, 3) := by decide +kernel
theorem d_M_addProduct_42 : decode b_M_addProduct 42 = .ok (.ifCond .eq 13, 3) := by decide +kernel
theorem d_M_addProduct_45 : decode b_M_addProduct 45 = .ok (.iload_n 3, 1) := by decide +kernel
theorem d_M_addProduct_46 : decode b_M_addProduct 46 = .ok (.iload 4, 2) := by decide +kernel
theorem d_M_addProduct_48 : decode b_M_addProduct 48 = .ok (.if_icmp .gt 7, 3) := by decide +kernel
theorem d_M_addProduct_51 : decode b_M_addProduct 51 = .ok (.iconst 1, 1) := by decide +kernel
theorem d_M_addProduct_52 : decode b_M_addProduct 52 = .ok (.goto 4, 3) := by decide +kernel
theorem d_M_addProduct_55 : decode b_M_addProduct 55 = .ok (.iconst 0, 1) := by decide +kernel
theorem d_M_addProduct_56 : decode b_M_addProduct 56 = .ok (.istore 7, 2) := by decide +kernel
theorem d_M_addProduct_58 : decode b_M_addProduct 58 = .ok (.iload 7, 2) := by decide +kernel
theorem d_M_addProduct_60 : decode b_M_addProduct 60 = .ok (.ifCond .eq 26, 3) := by decide +kernel
theorem d_M_addProduct_63 : decode b_M_addProduct 63 = .ok (.iload 5, 2) := by decide +kernel
theorem d_M_addProduct_65 : decode b_M_addProduct 65 = .ok (.iconst 1, 1) := by decide +kernel
theorem d_M_addProduct_66 : decode b_M_addProduct 66 = .ok (.bipush 15, 2) := by decide +kernel
theorem d_M_addProduct_68 : decode b_M_addProduct 68 = .ok (.invokestatic 45, 3) := by decide +kernel
theorem d_M_addProduct_71 : decode b_M_addProduct 71 = .ok (.ifCond .eq 15, 3) := by decide +kernel
theorem d_M_addProduct_74 : decode b_M_addProduct 74 = .ok (.iload 6, 2) := by decide +kernel
theorem d_M_addProduct_76 : decode b_M_addProduct 76 = .ok (.iconst 1, 1) := by decide +kernel
theorem d_M_addProduct_77 : decode b_M_addProduct 77 = .ok (.sipush 9999, 3) := by decide +kernel
theorem d_M_addProduct_80 : decode b_M_addProduct 80 = .ok (.invokestatic 45, 3) := by decide +kernel
theorem d_M_addProduct_83 : decode b_M_addProduct 83 = .ok (.ifCond .ne 9, 3) := by decide +kernel
theorem d_M_addProduct_86 : decode b_M_addProduct 86 = .ok (.aload_n 0, 1) := by decide +kernel
theorem d_M_addProduct_87 : decode b_M_addProduct 87 = .ok (.iconst 1, 1) := by decide +kernel
theorem d_M_addProduct_88 : decode b_M_addProduct 88 = .ok (.invokevirtual 52, 3) := by decide +kernel
theorem d_M_addProduct_91 : decode b_M_addProduct 91 = .ok (.ireturn, 1) := by decide +kernel
theorem d_M_addProduct_92 : decode b_M_addProduct 92 = .ok (.aload_n 0, 1) := by decide +kernel
theorem d_M_addProduct_93 : decode b_M_addProduct 93 = .ok (.getfield 9, 3) := by decide +kernel
theorem d_M_addProduct_96 : decode b_M_addProduct 96 = .ok (.iconst 2, 1) := by decide +kernel
theorem d_M_addProduct_97 : decode b_M_addProduct 97 = .ok (.iaload, 1) := by decide +kernel
theorem d_M_addProduct_98 : decode b_M_addProduct 98 = .ok (.bipush 8, 2) := by decide +kernel
theorem d_M_addProduct_100 : decode b_M_addProduct 100 = .ok (.if_icmp .ne 9, 3) := by decide +kernel
theorem d_M_addProduct_103 : decode b_M_addProduct 103 = .ok (.aload_n 0, 1) := by decide +kernel
theorem d_M_addProduct_104 : decode b_M_addProduct 104 = .ok (.iconst 2, 1) := by decide +kernel
theorem d_M_addProduct_105 : decode b_M_addProduct 105 = .ok (.invokevirtual 52, 3) := by decide +kernel
theorem d_M_addProduct_108 : decode b_M_addProduct 108 = .ok (.ireturn, 1) := by decide +kernel
theorem d_M_addProduct_109 : decode b_M_addProduct 109 = .ok (.aload_n 0, 1) := by decide +kernel
theorem d_M_addProduct_110 : decode b_M_addProduct 110 = .ok (.invokevirtual 56, 3) := by decide +kernel
theorem d_M_addProduct_113 : decode b_M_addProduct 113 = .ok (.sipush 413, 3) := by decide +kernel
theorem d_M_addProduct_116 : decode b_M_addProduct 116 = .ok (.bipush 6, 2) := by decide +kernel
theorem d_M_addProduct_118 : decode b_M_addProduct 118 = .ok (.aload_n 0, 1) := by decide +kernel
theorem d_M_addProduct_119 : decode b_M_addProduct 119 = .ok (.getfield 9, 3) := by decide +kernel
theorem d_M_addProduct_122 : decode b_M_addProduct 122 = .ok (.iconst 2, 1) := by decide +kernel
theorem d_M_addProduct_123 : decode b_M_addProduct 123 = .ok (.iaload, 1) := by decide +kernel
theorem d_M_addProduct_124 : decode b_M_addProduct 124 = .ok (.imul, 1) := by decide +kernel
theorem d_M_addProduct_125 : decode b_M_addProduct 125 = .ok (.iadd, 1) := by decide +kernel
theorem d_M_addProduct_126 : decode b_M_addProduct 126 = .ok (.istore 8, 2) := by decide +kernel
theorem d_M_addProduct_128 : decode b_M_addProduct 128 = .ok (.aload_n 0, 1) := by decide +kernel
theorem d_M_addProduct_129 : decode b_M_addProduct 129 = .ok (.getfield 9, 3) := by decide +kernel
theorem d_M_addProduct_132 : decode b_M_addProduct 132 = .ok (.iload 8, 2) := by decide +kernel
theorem d_M_addProduct_134 : decode b_M_addProduct 134 = .ok (.iload_n 1, 1) := by decide +kernel
theorem d_M_addProduct_135 : decode b_M_addProduct 135 = .ok (.iastore, 1) := by decide +kernel
theorem d_M_addProduct_136 : decode b_M_addProduct 136 = .ok (.aload_n 0, 1) := by decide +kernel
theorem d_M_addProduct_137 : decode b_M_addProduct 137 = .ok (.getfield 9, 3) := by decide +kernel
theorem d_M_addProduct_140 : decode b_M_addProduct 140 = .ok (.iload 8, 2) := by decide +kernel
theorem d_M_addProduct_142 : decode b_M_addProduct 142 = .ok (.iconst 1, 1) := by decide +kernel
theorem d_M_addProduct_143 : decode b_M_addProduct 143 = .ok (.iadd, 1) := by decide +kernel
theorem d_M_addProduct_144 : decode b_M_addProduct 144 = .ok (.iload_n 2, 1) := by decide +kernel
theorem d_M_addProduct_145 : decode b_M_addProduct 145 = .ok (.iastore, 1) := by decide +kernel
theorem d_M_addProduct_146 : decode b_M_addProduct 146 = .ok (.aload_n 0, 1) := by decide +kernel
theorem d_M_addProduct_147 : decode b_M_addProduct 147 = .ok (.getfield 9, 3) := by decide +kernel
theorem d_M_addProduct_150 : decode b_M_addProduct 150 = .ok (.iload 8, 2) := by decide +kernel
theorem d_M_addProduct_152 : decode b_M_addProduct 152 = .ok (.iconst 2, 1) := by decide +kernel
theorem d_M_addProduct_153 : decode b_M_addProduct 153 = .ok (.iadd, 1) := by decide +kernel
theorem d_M_addProduct_154 : decode b_M_addProduct 154 = .ok (.iload_n 3, 1) := by decide +kernel
theorem d_M_addProduct_155 : decode b_M_addProduct 155 = .ok (.iastore, 1) := by decide +kernel
theorem d_M_addProduct_156 : decode b_M_addProduct 156 = .ok (.aload_n 0, 1) := by decide +kernel
theorem d_M_addProduct_157 : decode b_M_addProduct 157 = .ok (.getfield 9, 3) := by decide +kernel
theorem d_M_addProduct_160 : decode b_M_addProduct 160 = .ok (.iload 8, 2) := by decide +kernel
theorem d_M_addProduct_162 : decode b_M_addProduct 162 = .ok (.iconst 3, 1) := by decide +kernel
theorem d_M_addProduct_163 : decode b_M_addProduct 163 = .ok (.iadd, 1) := by decide +kernel
theorem d_M_addProduct_164 : decode b_M_addProduct 164 = .ok (.iload 4, 2) := by decide +kernel
theorem d_M_addProduct_166 : decode b_M_addProduct 166 = .ok (.iastore, 1) := by decide +kernel
theorem d_M_addProduct_167 : decode b_M_addProduct 167 = .ok (.aload_n 0, 1) := by decide +kernel
theorem d_M_addProduct_168 : decode b_M_addProduct 168 = .ok (.getfield 9, 3) := by decide +kernel
theorem d_M_addProduct_171 : decode b_M_addProduct 171 = .ok (.iload 8, 2) := by decide +kernel
theorem d_M_addProduct_173 : decode b_M_addProduct 173 = .ok (.iconst 4, 1) := by decide +kernel
theorem d_M_addProduct_174 : decode b_M_addProduct 174 = .ok (.iadd, 1) := by decide +kernel
theorem d_M_addProduct_175 : decode b_M_addProduct 175 = .ok (.iload 5, 2) := by decide +kernel
theorem d_M_addProduct_177 : decode b_M_addProduct 177 = .ok (.iastore, 1) := by decide +kernel
theorem d_M_addProduct_178 : decode b_M_addProduct 178 = .ok (.aload_n 0, 1) := by decide +kernel
theorem d_M_addProduct_179 : decode b_M_addProduct 179 = .ok (.getfield 9, 3) := by decide +kernel
theorem d_M_addProduct_182 : decode b_M_addProduct 182 = .ok (.iload 8, 2) := by decide +kernel
theorem d_M_addProduct_184 : decode b_M_addProduct 184 = .ok (.iconst 5, 1) := by decide +kernel
theorem d_M_addProduct_185 : decode b_M_addProduct 185 = .ok (.iadd, 1) := by decide +kernel
theorem d_M_addProduct_186 : decode b_M_addProduct 186 = .ok (.iload 6, 2) := by decide +kernel
theorem d_M_addProduct_188 : decode b_M_addProduct 188 = .ok (.iastore, 1) := by decide +kernel
theorem d_M_addProduct_189 : decode b_M_addProduct 189 = .ok (.aload_n 0, 1) := by decide +kernel
theorem d_M_addProduct_190 : decode b_M_addProduct 190 = .ok (.getfield 9, 3) := by decide +kernel
theorem d_M_addProduct_193 : decode b_M_addProduct 193 = .ok (.iconst 2, 1) := by decide +kernel
theorem d_M_addProduct_194 : decode b_M_addProduct 194 = .ok (.dup2, 1) := by decide +kernel
theorem d_M_addProduct_195 : decode b_M_addProduct 195 = .ok (.iaload, 1) := by decide +kernel
theorem d_M_addProduct_196 : decode b_M_addProduct 196 = .ok (.iconst 1, 1) := by decide +kernel
theorem d_M_addProduct_197 : decode b_M_addProduct 197 = .ok (.iadd, 1) := by decide +kernel
theorem d_M_addProduct_198 : decode b_M_addProduct 198 = .ok (.iastore, 1) := by decide +kernel
theorem d_M_addProduct_199 : decode b_M_addProduct 199 = .ok (.aload_n 0, 1) := by decide +kernel
theorem d_M_addProduct_200 : decode b_M_addProduct 200 = .ok (.getfield 9, 3) := by decide +kernel
theorem d_M_addProduct_203 : decode b_M_addProduct 203 = .ok (.iconst 2, 1) := by decide +kernel
theorem d_M_addProduct_204 : decode b_M_addProduct 204 = .ok (.iaload, 1) := by decide +kernel
theorem d_M_addProduct_205 : decode b_M_addProduct 205 = .ok (.iconst 1, 1) := by decide +kernel
theorem d_M_addProduct_206 : decode b_M_addProduct 206 = .ok (.isub, 1) := by decide +kernel
theorem d_M_addProduct_207 : decode b_M_addProduct 207 = .ok (.ireturn, 1) := by decide +kernel
theorem d_M_gate_0 : decode b_M_gate 0 = .ok (.aload_n 0, 1) := by decide +kernel
theorem d_M_gate_1 : decode b_M_gate 1 = .ok (.iconst 0, 1) := by decide +kernel
theorem d_M_gate_2 : decode b_M_gate 2 = .ok (.putfield 33, 3) := by decide +kernel
theorem d_M_gate_5 : decode b_M_gate 5 = .ok (.aload_n 0, 1) := by decide +kernel
theorem d_M_gate_6 : decode b_M_gate 6 = .ok (.iload_n 1, 1) := by decide +kernel
theorem d_M_gate_7 : decode b_M_gate 7 = .ok (.invokevirtual 69, 3) := by decide +kernel
theorem d_M_gate_10 : decode b_M_gate 10 = .ok (.ifCond .ne 9, 3) := by decide +kernel
theorem d_M_gate_13 : decode b_M_gate 13 = .ok (.aload_n 0, 1) := by decide +kernel
theorem d_M_gate_14 : decode b_M_gate 14 = .ok (.iconst 1, 1) := by decide +kernel
theorem d_M_gate_15 : decode b_M_gate 15 = .ok (.invokevirtual 52, 3) := by decide +kernel
theorem d_M_gate_18 : decode b_M_gate 18 = .ok (.ireturn, 1) := by decide +kernel
theorem d_M_gate_19 : decode b_M_gate 19 = .ok (.iload_n 2, 1) := by decide +kernel
theorem d_M_gate_20 : decode b_M_gate 20 = .ok (.tableswitch 69 0 5 #[40, 40, 40, 47, 53, 63], 40) := by decide +kernel
theorem d_M_gate_60 : decode b_M_gate 60 = .ok (.aload_n 0, 1) := by decide +kernel
theorem d_M_gate_61 : decode b_M_gate 61 = .ok (.iload_n 1, 1) := by decide +kernel
theorem d_M_gate_62 : decode b_M_gate 62 = .ok (.iload_n 2, 1) := by decide +kernel
theorem d_M_gate_63 : decode b_M_gate 63 = .ok (.invokevirtual 63, 3) := by decide +kernel
theorem d_M_gate_66 : decode b_M_gate 66 = .ok (.ireturn, 1) := by decide +kernel
theorem d_M_gate_67 : decode b_M_gate 67 = .ok (.aload_n 0, 1) := by decide +kernel
theorem d_M_gate_68 : decode b_M_gate 68 = .ok (.iload_n 1, 1) := by decide +kernel
theorem d_M_gate_69 : decode b_M_gate 69 = .ok (.invokevirtual 73, 3) := by decide +kernel
theorem d_M_gate_72 : decode b_M_gate 72 = .ok (.ireturn, 1) := by decide +kernel
theorem d_M_gate_73 : decode b_M_gate 73 = .ok (.aload_n 0, 1) := by decide +kernel
theorem d_M_gate_74 : decode b_M_gate 74 = .ok (.iload_n 1, 1) := by decide +kernel
theorem d_M_gate_75 : decode b_M_gate 75 = .ok (.aload_n 0, 1) := by decide +kernel
theorem d_M_gate_76 : decode b_M_gate 76 = .ok (.invokevirtual 76, 3) := by decide +kernel
theorem d_M_gate_79 : decode b_M_gate 79 = .ok (.invokevirtual 66, 3) := by decide +kernel
theorem d_M_gate_82 : decode b_M_gate 82 = .ok (.ireturn, 1) := by decide +kernel
theorem d_M_gate_83 : decode b_M_gate 83 = .ok (.aload_n 0, 1) := by decide +kernel
theorem d_M_gate_84 : decode b_M_gate 84 = .ok (.iload_n 1, 1) := by decide +kernel
theorem d_M_gate_85 : decode b_M_gate 85 = .ok (.invokevirtual 80, 3) := by decide +kernel
theorem d_M_gate_88 : decode b_M_gate 88 = .ok (.ireturn, 1) := by decide +kernel
theorem d_M_gate_89 : decode b_M_gate 89 = .ok (.aload_n 0, 1) := by decide +kernel
theorem d_M_gate_90 : decode b_M_gate 90 = .ok (.iconst 2, 1) := by decide +kernel
theorem d_M_gate_91 : decode b_M_gate 91 = .ok (.invokevirtual 52, 3) := by decide +kernel
theorem d_M_gate_94 : decode b_M_gate 94 = .ok (.ireturn, 1) := by decide +kernel
theorem d_M_isGate_0 : decode b_M_isGate 0 = .ok (.iload_n 1, 1) := by decide +kernel
theorem d_M_isGate_1 : decode b_M_isGate 1 = .ok (.iconst 0, 1) := by decide +kernel
theorem d_M_isGate_2 : decode b_M_isGate 2 = .ok (.aload_n 0, 1) := by decide +kernel
theorem d_M_isGate_3 : decode b_M_isGate 3 = .ok (.getfield 9, 3) := by decide +kernel
theorem d_M_isGate_6 : decode b_M_isGate 6 = .ok (.iconst 1, 1) := by decide +kernel
theorem d_M_isGate_7 : decode b_M_isGate 7 = .ok (.iaload, 1) := by decide +kernel
theorem d_M_isGate_8 : decode b_M_isGate 8 = .ok (.iconst 1, 1) := by decide +kernel
theorem d_M_isGate_9 : decode b_M_isGate 9 = .ok (.isub, 1) := by decide +kernel
theorem d_M_isGate_10 : decode b_M_isGate 10 = .ok (.invokestatic 45, 3) := by decide +kernel
theorem d_M_isGate_13 : decode b_M_isGate 13 = .ok (.ireturn, 1) := by decide +kernel
theorem d_M_g_0 : decode b_M_g 0 = .ok (.aload_n 0, 1) := by decide +kernel
theorem d_M_g_1 : decode b_M_g 1 = .ok (.getfield 9, 3) := by decide +kernel
theorem d_M_g_4 : decode b_M_g 4 = .ok (.iconst 5, 1) := by decide +kernel
theorem d_M_g_5 : decode b_M_g 5 = .ok (.bipush 34, 2) := by decide +kernel
theorem d_M_g_7 : decode b_M_g 7 = .ok (.iload_n 1, 1) := by decide +kernel
theorem d_M_g_8 : decode b_M_g 8 = .ok (.imul, 1) := by decide +kernel
theorem d_M_g_9 : decode b_M_g 9 = .ok (.iadd, 1) := by decide +kernel
theorem d_M_g_10 : decode b_M_g 10 = .ok (.iload_n 2, 1) := by decide +kernel
theorem d_M_g_11 : decode b_M_g 11 = .ok (.iadd, 1) := by decide +kernel
theorem d_M_g_12 : decode b_M_g 12 = .ok (.iaload, 1) := by decide +kernel
theorem d_M_g_13 : decode b_M_g 13 = .ok (.ireturn, 1) := by decide +kernel
theorem d_M_ridesAt_0 : decode b_M_ridesAt 0 = .ok (.iconst 0, 1) := by decide +kernel
theorem d_M_ridesAt_1 : decode b_M_ridesAt 1 = .ok (.istore_n 2, 1) := by decide +kernel
theorem d_M_ridesAt_2 : decode b_M_ridesAt 2 = .ok (.iconst 0, 1) := by decide +kernel
theorem d_M_ridesAt_3 : decode b_M_ridesAt 3 = .ok (.istore_n 3, 1) := by decide +kernel
theorem d_M_ridesAt_4 : decode b_M_ridesAt 4 = .ok (.iload_n 3, 1) := by decide +kernel
theorem d_M_ridesAt_5 : decode b_M_ridesAt 5 = .ok (.aload_n 0, 1) := by decide +kernel
theorem d_M_ridesAt_6 : decode b_M_ridesAt 6 = .ok (.getfield 9, 3) := by decide +kernel
theorem d_M_ridesAt_9 : decode b_M_ridesAt 9 = .ok (.iconst 4, 1) := by decide +kernel
theorem d_M_ridesAt_10 : decode b_M_ridesAt 10 = .ok (.iaload, 1) := by decide +kernel
theorem d_M_ridesAt_11 : decode b_M_ridesAt 11 = .ok (.if_icmp .ge 27, 3) := by decide +kernel
theorem d_M_ridesAt_14 : decode b_M_ridesAt 14 = .ok (.iload_n 2, 1) := by decide +kernel
theorem d_M_ridesAt_15 : decode b_M_ridesAt 15 = .ok (.aload_n 0, 1) := by decide +kernel
theorem d_M_ridesAt_16 : decode b_M_ridesAt 16 = .ok (.iload_n 3, 1) := by decide +kernel
theorem d_M_ridesAt_17 : decode b_M_ridesAt 17 = .ok (.iconst 1, 1) := by decide +kernel
theorem d_M_ridesAt_18 : decode b_M_ridesAt 18 = .ok (.invokevirtual 59, 3) := by decide +kernel
theorem d_M_ridesAt_21 : decode b_M_ridesAt 21 = .ok (.iload_n 1, 1) := by decide +kernel
theorem d_M_ridesAt_22 : decode b_M_ridesAt 22 = .ok (.if_icmp .ne 7, 3) := by decide +kernel
theorem d_M_ridesAt_25 : decode b_M_ridesAt 25 = .ok (.iconst 1, 1) := by decide +kernel
theorem d_M_ridesAt_26 : decode b_M_ridesAt 26 = .ok (.goto 4, 3) := by decide +kernel
theorem d_M_ridesAt_29 : decode b_M_ridesAt 29 = .ok (.iconst 0, 1) := by decide +kernel
theorem d_M_ridesAt_30 : decode b_M_ridesAt 30 = .ok (.iadd, 1) := by decide +kernel
theorem d_M_ridesAt_31 : decode b_M_ridesAt 31 = .ok (.istore_n 2, 1) := by decide +kernel
theorem d_M_ridesAt_32 : decode b_M_ridesAt 32 = .ok (.iinc 3 1, 3) := by decide +kernel
theorem d_M_ridesAt_35 : decode b_M_ridesAt 35 = .ok (.goto (-31), 3) := by decide +kernel
theorem d_M_ridesAt_38 : decode b_M_ridesAt 38 = .ok (.iload_n 2, 1) := by decide +kernel
theorem d_M_ridesAt_39 : decode b_M_ridesAt 39 = .ok (.ireturn, 1) := by decide +kernel
theorem d_M_rideOf_0 : decode b_M_rideOf 0 = .ok (.aload_n 0, 1) := by decide +kernel
theorem d_M_rideOf_1 : decode b_M_rideOf 1 = .ok (.getfield 9, 3) := by decide +kernel
theorem d_M_rideOf_4 : decode b_M_rideOf 4 = .ok (.sipush 561, 3) := by decide +kernel
theorem d_M_rideOf_7 : decode b_M_rideOf 7 = .ok (.iconst 3, 1) := by decide +kernel
theorem d_M_rideOf_8 : decode b_M_rideOf 8 = .ok (.iload_n 1, 1) := by decide +kernel
theorem d_M_rideOf_9 : decode b_M_rideOf 9 = .ok (.imul, 1) := by decide +kernel
theorem d_M_rideOf_10 : decode b_M_rideOf 10 = .ok (.iadd, 1) := by decide +kernel
theorem d_M_rideOf_11 : decode b_M_rideOf 11 = .ok (.iload_n 2, 1) := by decide +kernel
theorem d_M_rideOf_12 : decode b_M_rideOf 12 = .ok (.iadd, 1) := by decide +kernel
theorem d_M_rideOf_13 : decode b_M_rideOf 13 = .ok (.iaload, 1) := by decide +kernel
theorem d_M_rideOf_14 : decode b_M_rideOf 14 = .ok (.ireturn, 1) := by decide +kernel
theorem d_M_today_0 : decode b_M_today 0 = .ok (.aload_n 0, 1) := by decide +kernel
theorem d_M_today_1 : decode b_M_today 1 = .ok (.getfield 9, 3) := by decide +kernel
theorem d_M_today_4 : decode b_M_today 4 = .ok (.iconst 0, 1) := by decide +kernel
theorem d_M_today_5 : decode b_M_today 5 = .ok (.iaload, 1) := by decide +kernel
theorem d_M_today_6 : decode b_M_today 6 = .ok (.sipush 1440, 3) := by decide +kernel
theorem d_M_today_9 : decode b_M_today 9 = .ok (.idiv, 1) := by decide +kernel
theorem d_M_today_10 : decode b_M_today 10 = .ok (.ireturn, 1) := by decide +kernel
theorem d_M_closedOn_0 : decode b_M_closedOn 0 = .ok (.aload_n 0, 1) := by decide +kernel
theorem d_M_closedOn_1 : decode b_M_closedOn 1 = .ok (.iload_n 1, 1) := by decide +kernel
theorem d_M_closedOn_2 : decode b_M_closedOn 2 = .ok (.iconst 3, 1) := by decide +kernel
theorem d_M_closedOn_3 : decode b_M_closedOn 3 = .ok (.iload_n 2, 1) := by decide +kernel
theorem d_M_closedOn_4 : decode b_M_closedOn 4 = .ok (.iadd, 1) := by decide +kernel
theorem d_M_closedOn_5 : decode b_M_closedOn 5 = .ok (.invokevirtual 63, 3) := by decide +kernel
theorem d_M_closedOn_8 : decode b_M_closedOn 8 = .ok (.ireturn, 1) := by decide +kernel
theorem d_M_closedInAll_0 : decode b_M_closedInAll 0 = .ok (.iconst 0, 1) := by decide +kernel
theorem d_M_closedInAll_1 : decode b_M_closedInAll 1 = .ok (.istore_n 2, 1) := by decide +kernel
theorem d_M_closedInAll_2 : decode b_M_closedInAll 2 = .ok (.iconst 0, 1) := by decide +kernel
theorem d_M_closedInAll_3 : decode b_M_closedInAll 3 = .ok (.istore_n 3, 1) := by decide +kernel
theorem d_M_closedInAll_4 : decode b_M_closedInAll 4 = .ok (.iload_n 3, 1) := by decide +kernel
theorem d_M_closedInAll_5 : decode b_M_closedInAll 5 = .ok (.bipush 31, 2) := by decide +kernel
theorem d_M_closedInAll_7 : decode b_M_closedInAll 7 = .ok (.if_icmp .ge 18, 3) := by decide +kernel
theorem d_M_closedInAll_10 : decode b_M_closedInAll 10 = .ok (.iload_n 2, 1) := by decide +kernel
theorem d_M_closedInAll_11 : decode b_M_closedInAll 11 = .ok (.aload_n 0, 1) := by decide +kernel
theorem d_M_closedInAll_12 : decode b_M_closedInAll 12 = .ok (.iload_n 1, 1) := by decide +kernel
theorem d_M_closedInAll_13 : decode b_M_closedInAll 13 = .ok (.iload_n 3, 1) := by decide +kernel
theorem d_M_closedInAll_14 : decode b_M_closedInAll 14 = .ok (.invokevirtual 66, 3) := by decide +kernel
theorem d_M_closedInAll_17 : decode b_M_closedInAll 17 = .ok (.iadd, 1) := by decide +kernel
theorem d_M_closedInAll_18 : decode b_M_closedInAll 18 = .ok (.istore_n 2, 1) := by decide +kernel
theorem d_M_closedInAll_19 : decode b_M_closedInAll 19 = .ok (.iinc 3 1, 3) := by decide +kernel
theorem d_M_closedInAll_22 : decode b_M_closedInAll 22 = .ok (.goto (-18), 3) := by decide +kernel
theorem d_M_closedInAll_25 : decode b_M_closedInAll 25 = .ok (.iload_n 2, 1) := by decide +kernel
theorem d_M_closedInAll_26 : decode b_M_closedInAll 26 = .ok (.ireturn, 1) := by decide +kernel
theorem d_M_product_0 : decode b_M_product 0 = .ok (.aload_n 0, 1) := by decide +kernel
theorem d_M_product_1 : decode b_M_product 1 = .ok (.iconst 0, 1) := by decide +kernel
theorem d_M_product_2 : decode b_M_product 2 = .ok (.putfield 33, 3) := by decide +kernel
theorem d_M_product_5 : decode b_M_product 5 = .ok (.aload_n 0, 1) := by decide +kernel
theorem d_M_product_6 : decode b_M_product 6 = .ok (.iload_n 1, 1) := by decide +kernel
theorem d_M_product_7 : decode b_M_product 7 = .ok (.invokevirtual 93, 3) := by decide +kernel
theorem d_M_product_10 : decode b_M_product 10 = .ok (.ifCond .ne 9, 3) := by decide +kernel
theorem d_M_product_13 : decode b_M_product 13 = .ok (.aload_n 0, 1) := by decide +kernel
theorem d_M_product_14 : decode b_M_product 14 = .ok (.iconst 1, 1) := by decide +kernel
theorem d_M_product_15 : decode b_M_product 15 = .ok (.invokevirtual 52, 3) := by decide +kernel
theorem d_M_product_18 : decode b_M_product 18 = .ok (.ireturn, 1) := by decide +kernel
theorem d_M_product_19 : decode b_M_product 19 = .ok (.iload_n 2, 1) := by decide +kernel
theorem d_M_product_20 : decode b_M_product 20 = .ok (.iconst 0, 1) := by decide +kernel
theorem d_M_product_21 : decode b_M_product 21 = .ok (.iconst 5, 1) := by decide +kernel
theorem d_M_product_22 : decode b_M_product 22 = .ok (.invokestatic 45, 3) := by decide +kernel
theorem d_M_product_25 : decode b_M_product 25 = .ok (.ifCond .eq 10, 3) := by decide +kernel
theorem d_M_product_28 : decode b_M_product 28 = .ok (.aload_n 0, 1) := by decide +kernel
theorem d_M_product_29 : decode b_M_product 29 = .ok (.iload_n 1, 1) := by decide +kernel
theorem d_M_product_30 : decode b_M_product 30 = .ok (.iload_n 2, 1) := by decide +kernel
theorem d_M_product_31 : decode b_M_product 31 = .ok (.invokevirtual 83, 3) := by decide +kernel
theorem d_M_product_34 : decode b_M_product 34 = .ok (.ireturn, 1) := by decide +kernel
theorem d_M_product_35 : decode b_M_product 35 = .ok (.iload_n 2, 1) := by decide +kernel
theorem d_M_product_36 : decode b_M_product 36 = .ok (.bipush 6, 2) := by decide +kernel
theorem d_M_product_38 : decode b_M_product 38 = .ok (.if_icmp .ne 11, 3) := by decide +kernel
theorem d_M_product_41 : decode b_M_product 41 = .ok (.aload_n 0, 1) := by decide +kernel
theorem d_M_product_42 : decode b_M_product 42 = .ok (.iload_n 1, 1) := by decide +kernel
theorem d_M_product_43 : decode b_M_product 43 = .ok (.invokevirtual 96, 3) := by decide +kernel
theorem d_M_product_46 : decode b_M_product 46 = .ok (.goto 38, 3) := by decide +kernel
theorem d_M_product_49 : decode b_M_product 49 = .ok (.iload_n 2, 1) := by decide +kernel
theorem d_M_product_50 : decode b_M_product 50 = .ok (.bipush 7, 2) := by decide +kernel
theorem d_M_product_52 : decode b_M_product 52 = .ok (.bipush 8, 2) := by decide +kernel
theorem d_M_product_54 : decode b_M_product 54 = .ok (.invokestatic 45, 3) := by decide +kernel
theorem d_M_product_57 : decode b_M_product 57 = .ok (.ifCond .eq 22, 3) := by decide +kernel
theorem d_M_product_60 : decode b_M_product 60 = .ok (.aload_n 0, 1) := by decide +kernel
theorem d_M_product_61 : decode b_M_product 61 = .ok (.iload_n 1, 1) := by decide +kernel
theorem d_M_product_62 : decode b_M_product 62 = .ok (.iload_n 2, 1) := by decide +kernel
theorem d_M_product_63 : decode b_M_product 63 = .ok (.bipush 8, 2) := by decide +kernel
theorem d_M_product_65 : decode b_M_product 65 = .ok (.if_icmp .ne 7, 3) := by decide +kernel
theorem d_M_product_68 : decode b_M_product 68 = .ok (.iconst 1, 1) := by decide +kernel
theorem d_M_product_69 : decode b_M_product 69 = .ok (.goto 4, 3) := by decide +kernel
theorem d_M_product_72 : decode b_M_product 72 = .ok (.iconst 0, 1) := by decide +kernel
theorem d_M_product_73 : decode b_M_product 73 = .ok (.invokevirtual 99, 3) := by decide +kernel
theorem d_M_product_76 : decode b_M_product 76 = .ok (.goto 8, 3) := by decide +kernel
theorem d_M_product_79 : decode b_M_product 79 = .ok (.aload_n 0, 1) := by decide +kernel
theorem d_M_product_80 : decode b_M_product 80 = .ok (.iconst 2, 1) := by decide +kernel
theorem d_M_product_81 : decode b_M_product 81 = .ok (.invokevirtual 52, 3) := by decide +kernel
theorem d_M_product_84 : decode b_M_product 84 = .ok (.ireturn, 1) := by decide +kernel
theorem d_M_isProduct_0 : decode b_M_isProduct 0 = .ok (.iload_n 1, 1) := by decide +kernel
theorem d_M_isProduct_1 : decode b_M_isProduct 1 = .ok (.iconst 0, 1) := by decide +kernel
theorem d_M_isProduct_2 : decode b_M_isProduct 2 = .ok (.aload_n 0, 1) := by decide +kernel
theorem d_M_isProduct_3 : decode b_M_isProduct 3 = .ok (.getfield 9, 3) := by decide +kernel
theorem d_M_isProduct_6 : decode b_M_isProduct 6 = .ok (.iconst 2, 1) := by decide +kernel
theorem d_M_isProduct_7 : decode b_M_isProduct 7 = .ok (.iaload, 1) := by decide +kernel
theorem d_M_isProduct_8 : decode b_M_isProduct 8 = .ok (.iconst 1, 1) := by decide +kernel
theorem d_M_isProduct_9 : decode b_M_isProduct 9 = .ok (.isub, 1) := by decide +kernel
theorem d_M_isProduct_10 : decode b_M_isProduct 10 = .ok (.invokestatic 45, 3) := by decide +kernel
theorem d_M_isProduct_13 : decode b_M_isProduct 13 = .ok (.ireturn, 1) := by decide +kernel
theorem d_M_p_0 : decode b_M_p 0 = .ok (.aload_n 0, 1) := by decide +kernel
theorem d_M_p_1 : decode b_M_p 1 = .ok (.getfield 9, 3) := by decide +kernel
theorem d_M_p_4 : decode b_M_p 4 = .ok (.sipush 413, 3) := by decide +kernel
theorem d_M_p_7 : decode b_M_p 7 = .ok (.bipush 6, 2) := by decide +kernel
theorem d_M_p_9 : decode b_M_p 9 = .ok (.iload_n 1, 1) := by decide +kernel
theorem d_M_p_10 : decode b_M_p 10 = .ok (.imul, 1) := by decide +kernel
theorem d_M_p_11 : decode b_M_p 11 = .ok (.iadd, 1) := by decide +kernel
theorem d_M_p_12 : decode b_M_p 12 = .ok (.iload_n 2, 1) := by decide +kernel
theorem d_M_p_13 : decode b_M_p 13 = .ok (.iadd, 1) := by decide +kernel
theorem d_M_p_14 : decode b_M_p 14 = .ok (.iaload, 1) := by decide +kernel
theorem d_M_p_15 : decode b_M_p 15 = .ok (.ireturn, 1) := by decide +kernel
theorem d_M_gatesOf_0 : decode b_M_gatesOf 0 = .ok (.iconst 0, 1) := by decide +kernel
theorem d_M_gatesOf_1 : decode b_M_gatesOf 1 = .ok (.istore_n 2, 1) := by decide +kernel
theorem d_M_gatesOf_2 : decode b_M_gatesOf 2 = .ok (.iconst 0, 1) := by decide +kernel
theorem d_M_gatesOf_3 : decode b_M_gatesOf 3 = .ok (.istore_n 3, 1) := by decide +kernel
theorem d_M_gatesOf_4 : decode b_M_gatesOf 4 = .ok (.iload_n 3, 1) := by decide +kernel
theorem d_M_gatesOf_5 : decode b_M_gatesOf 5 = .ok (.aload_n 0, 1) := by decide +kernel
theorem d_M_gatesOf_6 : decode b_M_gatesOf 6 = .ok (.getfield 9, 3) := by decide +kernel
theorem d_M_gatesOf_9 : decode b_M_gatesOf 9 = .ok (.iconst 1, 1) := by decide +kernel
theorem d_M_gatesOf_10 : decode b_M_gatesOf 10 = .ok (.iaload, 1) := by decide +kernel
theorem d_M_gatesOf_11 : decode b_M_gatesOf 11 = .ok (.if_icmp .ge 37, 3) := by decide +kernel
theorem d_M_gatesOf_14 : decode b_M_gatesOf 14 = .ok (.iload_n 2, 1) := by decide +kernel
theorem d_M_gatesOf_15 : decode b_M_gatesOf 15 = .ok (.aload_n 0, 1) := by decide +kernel
theorem d_M_gatesOf_16 : decode b_M_gatesOf 16 = .ok (.iload_n 1, 1) := by decide +kernel
theorem d_M_gatesOf_17 : decode b_M_gatesOf 17 = .ok (.iconst 4, 1) := by decide +kernel
theorem d_M_gatesOf_18 : decode b_M_gatesOf 18 = .ok (.invokevirtual 83, 3) := by decide +kernel
theorem d_M_gatesOf_21 : decode b_M_gatesOf 21 = .ok (.aload_n 0, 1) := by decide +kernel
theorem d_M_gatesOf_22 : decode b_M_gatesOf 22 = .ok (.iload_n 3, 1) := by decide +kernel
theorem d_M_gatesOf_23 : decode b_M_gatesOf 23 = .ok (.iconst 0, 1) := by decide +kernel
theorem d_M_gatesOf_24 : decode b_M_gatesOf 24 = .ok (.invokevirtual 63, 3) := by decide +kernel
theorem d_M_gatesOf_27 : decode b_M_gatesOf 27 = .ok (.invokestatic 86, 3) := by decide +kernel
theorem d_M_gatesOf_30 : decode b_M_gatesOf 30 = .ok (.ifCond .eq 9, 3) := by decide +kernel
theorem d_M_gatesOf_33 : decode b_M_gatesOf 33 = .ok (.iconst 1, 1) := by decide +kernel
theorem d_M_gatesOf_34 : decode b_M_gatesOf 34 = .ok (.iload_n 3, 1) := by decide +kernel
theorem d_M_gatesOf_35 : decode b_M_gatesOf 35 = .ok (.ishl, 1) := by decide +kernel
theorem d_M_gatesOf_36 : decode b_M_gatesOf 36 = .ok (.goto 4, 3) := by decide +kernel
theorem d_M_gatesOf_39 : decode b_M_gatesOf 39 = .ok (.iconst 0, 1) := by decide +kernel
theorem d_M_gatesOf_40 : decode b_M_gatesOf 40 = .ok (.ior, 1) := by decide +kernel
theorem d_M_gatesOf_41 : decode b_M_gatesOf 41 = .ok (.istore_n 2, 1) := by decide +kernel
theorem d_M_gatesOf_42 : decode b_M_gatesOf 42 = .ok (.iinc 3 1, 3) := by decide +kernel
theorem d_M_gatesOf_45 : decode b_M_gatesOf 45 = .ok (.goto (-41), 3) := by decide +kernel
theorem d_M_gatesOf_48 : decode b_M_gatesOf 48 = .ok (.iload_n 2, 1) := by decide +kernel
theorem d_M_gatesOf_49 : decode b_M_gatesOf 49 = .ok (.ireturn, 1) := by decide +kernel
theorem d_M_has_0 : decode b_M_has 0 = .ok (.iload_n 0, 1) := by decide +kernel
theorem d_M_has_1 : decode b_M_has 1 = .ok (.iload_n 1, 1) := by decide +kernel
theorem d_M_has_2 : decode b_M_has 2 = .ok (.ishr, 1) := by decide +kernel
theorem d_M_has_3 : decode b_M_has 3 = .ok (.iconst 1, 1) := by decide +kernel
theorem d_M_has_4 : decode b_M_has 4 = .ok (.iand, 1) := by decide +kernel
theorem d_M_has_5 : decode b_M_has 5 = .ok (.iconst 1, 1) := by decide +kernel
theorem d_M_has_6 : decode b_M_has 6 = .ok (.if_icmp .ne 7, 3) := by decide +kernel
theorem d_M_has_9 : decode b_M_has 9 = .ok (.iconst 1, 1) := by decide +kernel
theorem d_M_has_10 : decode b_M_has 10 = .ok (.goto 4, 3) := by decide +kernel
theorem d_M_has_13 : decode b_M_has 13 = .ok (.iconst 0, 1) := by decide +kernel
theorem d_M_has_14 : decode b_M_has 14 = .ok (.ireturn, 1) := by decide +kernel
theorem d_M_cardsWith_0 : decode b_M_cardsWith 0 = .ok (.iconst 0, 1) := by decide +kernel
theorem d_M_cardsWith_1 : decode b_M_cardsWith 1 = .ok (.istore_n 3, 1) := by decide +kernel
theorem d_M_cardsWith_2 : decode b_M_cardsWith 2 = .ok (.iconst 0, 1) := by decide +kernel
theorem d_M_cardsWith_3 : decode b_M_cardsWith 3 = .ok (.istore 4, 2) := by decide +kernel
theorem d_M_cardsWith_5 : decode b_M_cardsWith 5 = .ok (.iload 4, 2) := by decide +kernel
theorem d_M_cardsWith_7 : decode b_M_cardsWith 7 = .ok (.aload_n 0, 1) := by decide +kernel
theorem d_M_cardsWith_8 : decode b_M_cardsWith 8 = .ok (.getfield 9, 3) := by decide +kernel
theorem d_M_cardsWith_11 : decode b_M_cardsWith 11 = .ok (.iconst 3, 1) := by decide +kernel
theorem d_M_cardsWith_12 : decode b_M_cardsWith 12 = .ok (.iaload, 1) := by decide +kernel
theorem d_M_cardsWith_13 : decode b_M_cardsWith 13 = .ok (.if_icmp .ge 65, 3) := by decide +kernel
theorem d_M_cardsWith_16 : decode b_M_cardsWith 16 = .ok (.aload_n 0, 1) := by decide +kernel
theorem d_M_cardsWith_17 : decode b_M_cardsWith 17 = .ok (.iload 4, 2) := by decide +kernel
theorem d_M_cardsWith_19 : decode b_M_cardsWith 19 = .ok (.iconst 1, 1) := by decide +kernel
theorem d_M_cardsWith_20 : decode b_M_cardsWith 20 = .ok (.invokevirtual 90, 3) := by decide +kernel
theorem d_M_cardsWith_23 : decode b_M_cardsWith 23 = .ok (.iconst 2, 1) := by decide +kernel
theorem d_M_cardsWith_24 : decode b_M_cardsWith 24 = .ok (.if_icmp .eq 18, 3) := by decide +kernel
theorem d_M_cardsWith_27 : decode b_M_cardsWith 27 = .ok (.aload_n 0, 1) := by decide +kernel
theorem d_M_cardsWith_28 : decode b_M_cardsWith 28 = .ok (.iload 4, 2) := by decide +kernel
theorem d_M_cardsWith_30 : decode b_M_cardsWith 30 = .ok (.iconst 0, 1) := by decide +kernel
theorem d_M_cardsWith_31 : decode b_M_cardsWith 31 = .ok (.invokevirtual 90, 3) := by decide +kernel
theorem d_M_cardsWith_34 : decode b_M_cardsWith 34 = .ok (.iload_n 1, 1) := by decide +kernel
theorem d_M_cardsWith_35 : decode b_M_cardsWith 35 = .ok (.if_icmp .ne 7, 3) := by decide +kernel
theorem d_M_cardsWith_38 : decode b_M_cardsWith 38 = .ok (.iconst 1, 1) := by decide +kernel
theorem d_M_cardsWith_39 : decode b_M_cardsWith 39 = .ok (.goto 4, 3) := by decide +kernel
theorem d_M_cardsWith_42 : decode b_M_cardsWith 42 = .ok (.iconst 0, 1) := by decide +kernel
theorem d_M_cardsWith_43 : decode b_M_cardsWith 43 = .ok (.istore 5, 2) := by decide +kernel
theorem d_M_cardsWith_45 : decode b_M_cardsWith 45 = .ok (.iload_n 3, 1) := by decide +kernel
theorem d_M_cardsWith_46 : decode b_M_cardsWith 46 = .ok (.iload 5, 2) := by decide +kernel
theorem d_M_cardsWith_48 : decode b_M_cardsWith 48 = .ok (.ifCond .ne 7, 3) := by decide +kernel
theorem d_M_cardsWith_51 : decode b_M_cardsWith 51 = .ok (.iconst 0, 1) := by decide +kernel
theorem d_M_cardsWith_52 : decode b_M_cardsWith 52 = .ok (.goto 18, 3) := by decide +kernel
theorem d_M_cardsWith_55 : decode b_M_cardsWith 55 = .ok (.iload_n 2, 1) := by decide +kernel
theorem d_M_cardsWith_56 : decode b_M_cardsWith 56 = .ok (.ifCond .eq 13, 3) := by decide +kernel
theorem d_M_cardsWith_59 : decode b_M_cardsWith 59 = .ok (.aload_n 0, 1) := by decide +kernel
theorem d_M_cardsWith_60 : decode b_M_cardsWith 60 = .ok (.iload 4, 2) := by decide +kernel
theorem d_M_cardsWith_62 : decode b_M_cardsWith 62 = .ok (.iconst 4, 1) := by decide +kernel
theorem d_M_cardsWith_63 : decode b_M_cardsWith 63 = .ok (.invokevirtual 90, 3) := by decide +kernel
theorem d_M_cardsWith_66 : decode b_M_cardsWith 66 = .ok (.goto 4, 3) := by decide +kernel
theorem d_M_cardsWith_69 : decode b_M_cardsWith 69 = .ok (.iconst 1, 1) := by decide +kernel
theorem d_M_cardsWith_70 : decode b_M_cardsWith 70 = .ok (.iadd, 1) := by decide +kernel
theorem d_M_cardsWith_71 : decode b_M_cardsWith 71 = .ok (.istore_n 3, 1) := by decide +kernel
theorem d_M_cardsWith_72 : decode b_M_cardsWith 72 = .ok (.iinc 4 1, 3) := by decide +kernel
theorem d_M_cardsWith_75 : decode b_M_cardsWith 75 = .ok (.goto (-70), 3) := by decide +kernel
theorem d_M_cardsWith_78 : decode b_M_cardsWith 78 = .ok (.iload_n 3, 1) := by decide +kernel
theorem d_M_cardsWith_79 : decode b_M_cardsWith 79 = .ok (.ireturn, 1) := by decide +kernel
theorem d_M_c_0 : decode b_M_c 0 = .ok (.aload_n 0, 1) := by decide +kernel
theorem d_M_c_1 : decode b_M_c 1 = .ok (.getfield 9, 3) := by decide +kernel
theorem d_M_c_4 : decode b_M_c 4 = .ok (.sipush 461, 3) := by decide +kernel
theorem d_M_c_7 : decode b_M_c 7 = .ok (.iconst 5, 1) := by decide +kernel
theorem d_M_c_8 : decode b_M_c 8 = .ok (.iload_n 1, 1) := by decide +kernel
theorem d_M_c_9 : decode b_M_c 9 = .ok (.imul, 1) := by decide +kernel
theorem d_M_c_10 : decode b_M_c 10 = .ok (.iadd, 1) := by decide +kernel
theorem d_M_c_11 : decode b_M_c 11 = .ok (.iload_n 2, 1) := by decide +kernel
theorem d_M_c_12 : decode b_M_c 12 = .ok (.iadd, 1) := by decide +kernel
theorem d_M_c_13 : decode b_M_c 13 = .ok (.iaload, 1) := by decide +kernel
theorem d_M_c_14 : decode b_M_c 14 = .ok (.ireturn, 1) := by decide +kernel
theorem d_M_way_0 : decode b_M_way 0 = .ok (.aload_n 0, 1) := by decide +kernel
theorem d_M_way_1 : decode b_M_way 1 = .ok (.aload_n 0, 1) := by decide +kernel
theorem d_M_way_2 : decode b_M_way 2 = .ok (.iload_n 1, 1) := by decide +kernel
theorem d_M_way_3 : decode b_M_way 3 = .ok (.invokevirtual 69, 3) := by decide +kernel
theorem d_M_way_6 : decode b_M_way 6 = .ok (.ifCond .eq 15, 3) := by decide +kernel
theorem d_M_way_9 : decode b_M_way 9 = .ok (.aload_n 0, 1) := by decide +kernel
theorem d_M_way_10 : decode b_M_way 10 = .ok (.iload_n 2, 1) := by decide +kernel
theorem d_M_way_11 : decode b_M_way 11 = .ok (.invokevirtual 69, 3) := by decide +kernel
theorem d_M_way_14 : decode b_M_way 14 = .ok (.ifCond .eq 7, 3) := by decide +kernel
theorem d_M_way_17 : decode b_M_way 17 = .ok (.iconst 0, 1) := by decide +kernel
theorem d_M_way_18 : decode b_M_way 18 = .ok (.goto 4, 3) := by decide +kernel
theorem d_M_way_21 : decode b_M_way 21 = .ok (.iconst 1, 1) := by decide +kernel
theorem d_M_way_22 : decode b_M_way 22 = .ok (.putfield 33, 3) := by decide +kernel
theorem d_M_way_25 : decode b_M_way 25 = .ok (.aload_n 0, 1) := by decide +kernel
theorem d_M_way_26 : decode b_M_way 26 = .ok (.getfield 33, 3) := by decide +kernel
theorem d_M_way_29 : decode b_M_way 29 = .ok (.ifCond .ne 12, 3) := by decide +kernel
theorem d_M_way_32 : decode b_M_way 32 = .ok (.aload_n 0, 1) := by decide +kernel
theorem d_M_way_33 : decode b_M_way 33 = .ok (.iload_n 1, 1) := by decide +kernel
theorem d_M_way_34 : decode b_M_way 34 = .ok (.iload_n 2, 1) := by decide +kernel
theorem d_M_way_35 : decode b_M_way 35 = .ok (.invokevirtual 103, 3) := by decide +kernel
theorem d_M_way_38 : decode b_M_way 38 = .ok (.goto 4, 3) := by decide +kernel
theorem d_M_way_41 : decode b_M_way 41 = .ok (.iconst 0, 1) := by decide +kernel
theorem d_M_way_42 : decode b_M_way 42 = .ok (.ireturn, 1) := by decide +kernel
theorem d_M_wayOf_0 : decode b_M_wayOf 0 = .ok (.aload_n 0, 1) := by decide +kernel
theorem d_M_wayOf_1 : decode b_M_wayOf 1 = .ok (.iload_n 1, 1) := by decide +kernel
theorem d_M_wayOf_2 : decode b_M_wayOf 2 = .ok (.iconst 1, 1) := by decide +kernel
theorem d_M_wayOf_3 : decode b_M_wayOf 3 = .ok (.invokevirtual 63, 3) := by decide +kernel
theorem d_M_wayOf_6 : decode b_M_wayOf 6 = .ok (.aload_n 0, 1) := by decide +kernel
theorem d_M_wayOf_7 : decode b_M_wayOf 7 = .ok (.iload_n 2, 1) := by decide +kernel
theorem d_M_wayOf_8 : decode b_M_wayOf 8 = .ok (.iconst 1, 1) := by decide +kernel
theorem d_M_wayOf_9 : decode b_M_wayOf 9 = .ok (.invokevirtual 63, 3) := by decide +kernel
theorem d_M_wayOf_12 : decode b_M_wayOf 12 = .ok (.isub, 1) := by decide +kernel
theorem d_M_wayOf_13 : decode b_M_wayOf 13 = .ok (.istore_n 3, 1) := by decide +kernel
theorem d_M_wayOf_14 : decode b_M_wayOf 14 = .ok (.iload_n 3, 1) := by decide +kernel
theorem d_M_wayOf_15 : decode b_M_wayOf 15 = .ok (.ifCond .ge 8, 3) := by decide +kernel
theorem d_M_wayOf_18 : decode b_M_wayOf 18 = .ok (.iload_n 3, 1) := by decide +kernel
theorem d_M_wayOf_19 : decode b_M_wayOf 19 = .ok (.ineg, 1) := by decide +kernel
theorem d_M_wayOf_20 : decode b_M_wayOf 20 = .ok (.goto 4, 3) := by decide +kernel
theorem d_M_wayOf_23 : decode b_M_wayOf 23 = .ok (.iload_n 3, 1) := by decide +kernel
theorem d_M_wayOf_24 : decode b_M_wayOf 24 = .ok (.aload_n 0, 1) := by decide +kernel
theorem d_M_wayOf_25 : decode b_M_wayOf 25 = .ok (.iload_n 1, 1) := by decide +kernel
theorem d_M_wayOf_26 : decode b_M_wayOf 26 = .ok (.iconst 0, 1) := by decide +kernel
theorem d_M_wayOf_27 : decode b_M_wayOf 27 = .ok (.invokevirtual 63, 3) := by decide +kernel
theorem d_M_wayOf_30 : decode b_M_wayOf 30 = .ok (.aload_n 0, 1) := by decide +kernel
theorem d_M_wayOf_31 : decode b_M_wayOf 31 = .ok (.iload_n 2, 1) := by decide +kernel
theorem d_M_wayOf_32 : decode b_M_wayOf 32 = .ok (.iconst 0, 1) := by decide +kernel
theorem d_M_wayOf_33 : decode b_M_wayOf 33 = .ok (.invokevirtual 63, 3) := by decide +kernel
theorem d_M_wayOf_36 : decode b_M_wayOf 36 = .ok (.if_icmp .ne 7, 3) := by decide +kernel
theorem d_M_wayOf_39 : decode b_M_wayOf 39 = .ok (.iconst 0, 1) := by decide +kernel
theorem d_M_wayOf_40 : decode b_M_wayOf 40 = .ok (.goto 5, 3) := by decide +kernel
theorem d_M_wayOf_43 : decode b_M_wayOf 43 = .ok (.bipush 10, 2) := by decide +kernel
theorem d_M_wayOf_45 : decode b_M_wayOf 45 = .ok (.iadd, 1) := by decide +kernel
theorem d_M_wayOf_46 : decode b_M_wayOf 46 = .ok (.ireturn, 1) := by decide +kernel
theorem d_M_advance_0 : decode b_M_advance 0 = .ok (.aload_n 0, 1) := by decide +kernel
theorem d_M_advance_1 : decode b_M_advance 1 = .ok (.aload_n 0, 1) := by decide +kernel
theorem d_M_advance_2 : decode b_M_advance 2 = .ok (.iload_n 1, 1) := by decide +kernel
theorem d_M_advance_3 : decode b_M_advance 3 = .ok (.invokevirtual 107, 3) := by decide +kernel
theorem d_M_advance_6 : decode b_M_advance 6 = .ok (.putfield 33, 3) := by decide +kernel
theorem d_M_advance_9 : decode b_M_advance 9 = .ok (.aload_n 0, 1) := by decide +kernel
theorem d_M_advance_10 : decode b_M_advance 10 = .ok (.getfield 33, 3) := by decide +kernel
theorem d_M_advance_13 : decode b_M_advance 13 = .ok (.ifCond .eq 5, 3) := by decide +kernel
theorem d_M_advance_16 : decode b_M_advance 16 = .ok (.iconst 0, 1) := by decide +kernel
theorem d_M_advance_17 : decode b_M_advance 17 = .ok (.ireturn, 1) := by decide +kernel
theorem d_M_advance_18 : decode b_M_advance 18 = .ok (.aload_n 0, 1) := by decide +kernel
theorem d_M_advance_19 : decode b_M_advance 19 = .ok (.invokevirtual 56, 3) := by decide +kernel
theorem d_M_advance_22 : decode b_M_advance 22 = .ok (.aload_n 0, 1) := by decide +kernel
theorem d_M_advance_23 : decode b_M_advance 23 = .ok (.iload_n 1, 1) := by decide +kernel
theorem d_M_advance_24 : decode b_M_advance 24 = .ok (.invokevirtual 110, 3) := by decide +kernel
theorem d_M_advance_27 : decode b_M_advance 27 = .ok (.aload_n 0, 1) := by decide +kernel
theorem d_M_advance_28 : decode b_M_advance 28 = .ok (.getfield 9, 3) := by decide +kernel
theorem d_M_advance_31 : decode b_M_advance 31 = .ok (.iconst 0, 1) := by decide +kernel
theorem d_M_advance_32 : decode b_M_advance 32 = .ok (.iaload, 1) := by decide +kernel
theorem d_M_advance_33 : decode b_M_advance 33 = .ok (.ireturn, 1) := by decide +kernel
theorem d_M_advanceProblem_0 : decode b_M_advanceProblem 0 = .ok (.iload_n 1, 1) := by decide +kernel
theorem d_M_advanceProblem_1 : decode b_M_advanceProblem 1 = .ok (.iconst 0, 1) := by decide +kernel
theorem d_M_advanceProblem_2 : decode b_M_advanceProblem 2 = .ok (.sipush 2880, 3) := by decide +kernel
theorem d_M_advanceProblem_5 : decode b_M_advanceProblem 5 = .ok (.invokestatic 45, 3) := by decide +kernel
theorem d_M_advanceProblem_8 : decode b_M_advanceProblem 8 = .ok (.ifCond .ne 7, 3) := by decide +kernel
theorem d_M_advanceProblem_11 : decode b_M_advanceProblem 11 = .ok (.iconst 1, 1) := by decide +kernel
theorem d_M_advanceProblem_12 : decode b_M_advanceProblem 12 = .ok (.goto 21, 3) := by decide +kernel
theorem d_M_advanceProblem_15 : decode b_M_advanceProblem 15 = .ok (.aload_n 0, 1) := by decide +kernel
theorem d_M_advanceProblem_16 : decode b_M_advanceProblem 16 = .ok (.getfield 9, 3) := by decide +kernel
theorem d_M_advanceProblem_19 : decode b_M_advanceProblem 19 = .ok (.iconst 0, 1) := by decide +kernel
theorem d_M_advanceProblem_20 : decode b_M_advanceProblem 20 = .ok (.iaload, 1) := by decide +kernel
theorem d_M_advanceProblem_21 : decode b_M_advanceProblem 21 = .ok (.iload_n 1, 1) := by decide +kernel
theorem d_M_advanceProblem_22 : decode b_M_advanceProblem 22 = .ok (.iadd, 1) := by decide +kernel
theorem d_M_advanceProblem_23 : decode b_M_advanceProblem 23 = .ok (.ldc 106, 2) := by decide +kernel
theorem d_M_advanceProblem_25 : decode b_M_advanceProblem 25 = .ok (.if_icmp .le 7, 3) := by decide +kernel
theorem d_M_advanceProblem_28 : decode b_M_advanceProblem 28 = .ok (.iconst 2, 1) := by decide +kernel
theorem d_M_advanceProblem_29 : decode b_M_advanceProblem 29 = .ok (.goto 4, 3) := by decide +kernel
theorem d_M_advanceProblem_32 : decode b_M_advanceProblem 32 = .ok (.iconst 0, 1) := by decide +kernel
theorem d_M_advanceProblem_33 : decode b_M_advanceProblem 33 = .ok (.ireturn, 1) := by decide +kernel
theorem d_M_goesOn_0 : decode b_M_goesOn 0 = .ok (.iconst 0, 1) := by decide +kernel
theorem d_M_goesOn_1 : decode b_M_goesOn 1 = .ok (.istore_n 2, 1) := by decide +kernel
theorem d_M_goesOn_2 : decode b_M_goesOn 2 = .ok (.iload_n 2, 1) := by decide +kernel
theorem d_M_goesOn_3 : decode b_M_goesOn 3 = .ok (.iload_n 1, 1) := by decide +kernel
theorem d_M_goesOn_4 : decode b_M_goesOn 4 = .ok (.if_icmp .ge 86, 3) := by decide +kernel
theorem d_M_goesOn_7 : decode b_M_goesOn 7 = .ok (.aload_n 0, 1) := by decide +kernel
theorem d_M_goesOn_8 : decode b_M_goesOn 8 = .ok (.getfield 9, 3) := by decide +kernel
theorem d_M_goesOn_11 : decode b_M_goesOn 11 = .ok (.iconst 0, 1) := by decide +kernel
theorem d_M_goesOn_12 : decode b_M_goesOn 12 = .ok (.iaload, 1) := by decide +kernel
theorem d_M_goesOn_13 : decode b_M_goesOn 13 = .ok (.sipush 1440, 3) := by decide +kernel
theorem d_M_goesOn_16 : decode b_M_goesOn 16 = .ok (.irem, 1) := by decide +kernel
theorem d_M_goesOn_17 : decode b_M_goesOn 17 = .ok (.sipush 480, 3) := by decide +kernel
theorem d_M_goesOn_20 : decode b_M_goesOn 20 = .ok (.sipush 959, 3) := by decide +kernel
theorem d_M_goesOn_23 : decode b_M_goesOn 23 = .ok (.invokestatic 45, 3) := by decide +kernel
theorem d_M_goesOn_26 : decode b_M_goesOn 26 = .ok (.ifCond .eq 48, 3) := by decide +kernel
theorem d_M_goesOn_29 : decode b_M_goesOn 29 = .ok (.iconst 0, 1) := by decide +kernel
theorem d_M_goesOn_30 : decode b_M_goesOn 30 = .ok (.istore_n 3, 1) := by decide +kernel
theorem d_M_goesOn_31 : decode b_M_goesOn 31 = .ok (.iload_n 3, 1) := by decide +kernel
theorem d_M_goesOn_32 : decode b_M_goesOn 32 = .ok (.aload_n 0, 1) := by decide +kernel
theorem d_M_goesOn_33 : decode b_M_goesOn 33 = .ok (.getfield 9, 3) := by decide +kernel
theorem d_M_goesOn_36 : decode b_M_goesOn 36 = .ok (.iconst 1, 1) := by decide +kernel
theorem d_M_goesOn_37 : decode b_M_goesOn 37 = .ok (.iaload, 1) := by decide +kernel
theorem d_M_goesOn_38 : decode b_M_goesOn 38 = .ok (.if_icmp .ge 36, 3) := by decide +kernel
theorem d_M_goesOn_41 : decode b_M_goesOn 41 = .ok (.aload_n 0, 1) := by decide +kernel
theorem d_M_goesOn_42 : decode b_M_goesOn 42 = .ok (.getfield 9, 3) := by decide +kernel
theorem d_M_goesOn_45 : decode b_M_goesOn 45 = .ok (.iconst 5, 1) := by decide +kernel
theorem d_M_goesOn_46 : decode b_M_goesOn 46 = .ok (.bipush 34, 2) := by decide +kernel
theorem d_M_goesOn_48 : decode b_M_goesOn 48 = .ok (.iload_n 3, 1) := by decide +kernel
theorem d_M_goesOn_49 : decode b_M_goesOn 49 = .ok (.imul, 1) := by decide +kernel
theorem d_M_goesOn_50 : decode b_M_goesOn 50 = .ok (.iadd, 1) := by decide +kernel
theorem d_M_goesOn_51 : decode b_M_goesOn 51 = .ok (.iconst 3, 1) := by decide +kernel
theorem d_M_goesOn_52 : decode b_M_goesOn 52 = .ok (.iadd, 1) := by decide +kernel
theorem d_M_goesOn_53 : decode b_M_goesOn 53 = .ok (.aload_n 0, 1) := by decide +kernel
theorem d_M_goesOn_54 : decode b_M_goesOn 54 = .ok (.invokevirtual 76, 3) := by decide +kernel
theorem d_M_goesOn_57 : decode b_M_goesOn 57 = .ok (.iadd, 1) := by decide +kernel
theorem d_M_goesOn_58 : decode b_M_goesOn 58 = .ok (.dup2, 1) := by decide +kernel
theorem d_M_goesOn_59 : decode b_M_goesOn 59 = .ok (.iaload, 1) := by decide +kernel
theorem d_M_goesOn_60 : decode b_M_goesOn 60 = .ok (.aload_n 0, 1) := by decide +kernel
theorem d_M_goesOn_61 : decode b_M_goesOn 61 = .ok (.iload_n 3, 1) := by decide +kernel
theorem d_M_goesOn_62 : decode b_M_goesOn 62 = .ok (.iconst 2, 1) := by decide +kernel
theorem d_M_goesOn_63 : decode b_M_goesOn 63 = .ok (.invokevirtual 63, 3) := by decide +kernel
theorem d_M_goesOn_66 : decode b_M_goesOn 66 = .ok (.iadd, 1) := by decide +kernel
theorem d_M_goesOn_67 : decode b_M_goesOn 67 = .ok (.iastore, 1) := by decide +kernel
theorem d_M_goesOn_68 : decode b_M_goesOn 68 = .ok (.iinc 3 1, 3) := by decide +kernel
theorem d_M_goesOn_71 : decode b_M_goesOn 71 = .ok (.goto (-40), 3) := by decide +kernel
theorem d_M_goesOn_74 : decode b_M_goesOn 74 = .ok (.aload_n 0, 1) := by decide +kernel
theorem d_M_goesOn_75 : decode b_M_goesOn 75 = .ok (.getfield 9, 3) := by decide +kernel
theorem d_M_goesOn_78 : decode b_M_goesOn 78 = .ok (.iconst 0, 1) := by decide +kernel
theorem d_M_goesOn_79 : decode b_M_goesOn 79 = .ok (.dup2, 1) := by decide +kernel
theorem d_M_goesOn_80 : decode b_M_goesOn 80 = .ok (.iaload, 1) := by decide +kernel
theorem d_M_goesOn_81 : decode b_M_goesOn 81 = .ok (.iconst 1, 1) := by decide +kernel
theorem d_M_goesOn_82 : decode b_M_goesOn 82 = .ok (.iadd, 1) := by decide +kernel
theorem d_M_goesOn_83 : decode b_M_goesOn 83 = .ok (.iastore, 1) := by decide +kernel
theorem d_M_goesOn_84 : decode b_M_goesOn 84 = .ok (.iinc 2 1, 3) := by decide +kernel
theorem d_M_goesOn_87 : decode b_M_goesOn 87 = .ok (.goto (-85), 3) := by decide +kernel
theorem d_M_goesOn_90 : decode b_M_goesOn 90 = .ok (.return_, 1) := by decide +kernel
theorem d_M_system_0 : decode b_M_system 0 = .ok (.aload_n 0, 1) := by decide +kernel
theorem d_M_system_1 : decode b_M_system 1 = .ok (.iconst 0, 1) := by decide +kernel
theorem d_M_system_2 : decode b_M_system 2 = .ok (.putfield 33, 3) := by decide +kernel
theorem d_M_system_5 : decode b_M_system 5 = .ok (.iload_n 1, 1) := by decide +kernel
theorem d_M_system_6 : decode b_M_system 6 = .ok (.tableswitch 114 0 9 #[54, 61, 66, 71, 78, 85, 92, 99, 104, 109], 54) := by decide +kernel
theorem d_M_system_60 : decode b_M_system 60 = .ok (.aload_n 0, 1) := by decide +kernel
theorem d_M_system_61 : decode b_M_system 61 = .ok (.getfield 9, 3) := by decide +kernel
theorem d_M_system_64 : decode b_M_system 64 = .ok (.iconst 0, 1) := by decide +kernel
theorem d_M_system_65 : decode b_M_system 65 = .ok (.iaload, 1) := by decide +kernel
theorem d_M_system_66 : decode b_M_system 66 = .ok (.ireturn, 1) := by decide +kernel
theorem d_M_system_67 : decode b_M_system 67 = .ok (.aload_n 0, 1) := by decide +kernel
theorem d_M_system_68 : decode b_M_system 68 = .ok (.invokevirtual 76, 3) := by decide +kernel
theorem d_M_system_71 : decode b_M_system 71 = .ok (.ireturn, 1) := by decide +kernel
theorem d_M_system_72 : decode b_M_system 72 = .ok (.aload_n 0, 1) := by decide +kernel
theorem d_M_system_73 : decode b_M_system 73 = .ok (.invokevirtual 114, 3) := by decide +kernel
theorem d_M_system_76 : decode b_M_system 76 = .ok (.ireturn, 1) := by decide +kernel
theorem d_M_system_77 : decode b_M_system 77 = .ok (.aload_n 0, 1) := by decide +kernel
theorem d_M_system_78 : decode b_M_system 78 = .ok (.getfield 9, 3) := by decide +kernel
theorem d_M_system_81 : decode b_M_system 81 = .ok (.iconst 1, 1) := by decide +kernel
theorem d_M_system_82 : decode b_M_system 82 = .ok (.iaload, 1) := by decide +kernel
theorem d_M_system_83 : decode b_M_system 83 = .ok (.ireturn, 1) := by decide +kernel
theorem d_M_system_84 : decode b_M_system 84 = .ok (.aload_n 0, 1) := by decide +kernel
theorem d_M_system_85 : decode b_M_system 85 = .ok (.getfield 9, 3) := by decide +kernel
theorem d_M_system_88 : decode b_M_system 88 = .ok (.iconst 2, 1) := by decide +kernel
theorem d_M_system_89 : decode b_M_system 89 = .ok (.iaload, 1) := by decide +kernel
theorem d_M_system_90 : decode b_M_system 90 = .ok (.ireturn, 1) := by decide +kernel
theorem d_M_system_91 : decode b_M_system 91 = .ok (.aload_n 0, 1) := by decide +kernel
theorem d_M_system_92 : decode b_M_system 92 = .ok (.getfield 9, 3) := by decide +kernel
theorem d_M_system_95 : decode b_M_system 95 = .ok (.iconst 3, 1) := by decide +kernel
theorem d_M_system_96 : decode b_M_system 96 = .ok (.iaload, 1) := by decide +kernel
theorem d_M_system_97 : decode b_M_system 97 = .ok (.ireturn, 1) := by decide +kernel
theorem d_M_system_98 : decode b_M_system 98 = .ok (.aload_n 0, 1) := by decide +kernel
theorem d_M_system_99 : decode b_M_system 99 = .ok (.getfield 9, 3) := by decide +kernel
theorem d_M_system_102 : decode b_M_system 102 = .ok (.iconst 4, 1) := by decide +kernel
theorem d_M_system_103 : decode b_M_system 103 = .ok (.iaload, 1) := by decide +kernel
theorem d_M_system_104 : decode b_M_system 104 = .ok (.ireturn, 1) := by decide +kernel
theorem d_M_system_105 : decode b_M_system 105 = .ok (.aload_n 0, 1) := by decide +kernel
theorem d_M_system_106 : decode b_M_system 106 = .ok (.invokevirtual 117, 3) := by decide +kernel
theorem d_M_system_109 : decode b_M_system 109 = .ok (.ireturn, 1) := by decide +kernel
theorem d_M_system_110 : decode b_M_system 110 = .ok (.aload_n 0, 1) := by decide +kernel
theorem d_M_system_111 : decode b_M_system 111 = .ok (.getfield 120, 3) := by decide +kernel
theorem d_M_system_114 : decode b_M_system 114 = .ok (.ireturn, 1) := by decide +kernel
theorem d_M_system_115 : decode b_M_system 115 = .ok (.aload_n 0, 1) := by decide +kernel
theorem d_M_system_116 : decode b_M_system 116 = .ok (.getfield 36, 3) := by decide +kernel
theorem d_M_system_119 : decode b_M_system 119 = .ok (.ireturn, 1) := by decide +kernel
theorem d_M_system_120 : decode b_M_system 120 = .ok (.aload_n 0, 1) := by decide +kernel
theorem d_M_system_121 : decode b_M_system 121 = .ok (.iconst 1, 1) := by decide +kernel
theorem d_M_system_122 : decode b_M_system 122 = .ok (.invokevirtual 52, 3) := by decide +kernel
theorem d_M_system_125 : decode b_M_system 125 = .ok (.ireturn, 1) := by decide +kernel
theorem d_M_hourNow_0 : decode b_M_hourNow 0 = .ok (.aload_n 0, 1) := by decide +kernel
theorem d_M_hourNow_1 : decode b_M_hourNow 1 = .ok (.getfield 9, 3) := by decide +kernel
theorem d_M_hourNow_4 : decode b_M_hourNow 4 = .ok (.iconst 0, 1) := by decide +kernel
theorem d_M_hourNow_5 : decode b_M_hourNow 5 = .ok (.iaload, 1) := by decide +kernel
theorem d_M_hourNow_6 : decode b_M_hourNow 6 = .ok (.sipush 1440, 3) := by decide +kernel
theorem d_M_hourNow_9 : decode b_M_hourNow 9 = .ok (.irem, 1) := by decide +kernel
theorem d_M_hourNow_10 : decode b_M_hourNow 10 = .ok (.bipush 60, 2) := by decide +kernel
theorem d_M_hourNow_12 : decode b_M_hourNow 12 = .ok (.idiv, 1) := by decide +kernel
theorem d_M_hourNow_13 : decode b_M_hourNow 13 = .ok (.ireturn, 1) := by decide +kernel
theorem d_M_closedGates_0 : decode b_M_closedGates 0 = .ok (.iconst 0, 1) := by decide +kernel
theorem d_M_closedGates_1 : decode b_M_closedGates 1 = .ok (.istore_n 1, 1) := by decide +kernel
theorem d_M_closedGates_2 : decode b_M_closedGates 2 = .ok (.iconst 0, 1) := by decide +kernel
theorem d_M_closedGates_3 : decode b_M_closedGates 3 = .ok (.istore_n 2, 1) := by decide +kernel
theorem d_M_closedGates_4 : decode b_M_closedGates 4 = .ok (.iload_n 2, 1) := by decide +kernel
theorem d_M_closedGates_5 : decode b_M_closedGates 5 = .ok (.aload_n 0, 1) := by decide +kernel
theorem d_M_closedGates_6 : decode b_M_closedGates 6 = .ok (.getfield 9, 3) := by decide +kernel
theorem d_M_closedGates_9 : decode b_M_closedGates 9 = .ok (.iconst 1, 1) := by decide +kernel
theorem d_M_closedGates_10 : decode b_M_closedGates 10 = .ok (.iaload, 1) := by decide +kernel
theorem d_M_closedGates_11 : decode b_M_closedGates 11 = .ok (.if_icmp .ge 20, 3) := by decide +kernel
theorem d_M_closedGates_14 : decode b_M_closedGates 14 = .ok (.iload_n 1, 1) := by decide +kernel
theorem d_M_closedGates_15 : decode b_M_closedGates 15 = .ok (.aload_n 0, 1) := by decide +kernel
theorem d_M_closedGates_16 : decode b_M_closedGates 16 = .ok (.iload_n 2, 1) := by decide +kernel
theorem d_M_closedGates_17 : decode b_M_closedGates 17 = .ok (.iconst 2, 1) := by decide +kernel
theorem d_M_closedGates_18 : decode b_M_closedGates 18 = .ok (.invokevirtual 63, 3) := by decide +kernel
theorem d_M_closedGates_21 : decode b_M_closedGates 21 = .ok (.iload_n 2, 1) := by decide +kernel
theorem d_M_closedGates_22 : decode b_M_closedGates 22 = .ok (.ishl, 1) := by decide +kernel
theorem d_M_closedGates_23 : decode b_M_closedGates 23 = .ok (.ior, 1) := by decide +kernel
theorem d_M_closedGates_24 : decode b_M_closedGates 24 = .ok (.istore_n 1, 1) := by decide +kernel
theorem d_M_closedGates_25 : decode b_M_closedGates 25 = .ok (.iinc 2 1, 3) := by decide +kernel
theorem d_M_closedGates_28 : decode b_M_closedGates 28 = .ok (.goto (-24), 3) := by decide +kernel
theorem d_M_closedGates_31 : decode b_M_closedGates 31 = .ok (.iload_n 1, 1) := by decide +kernel
theorem d_M_closedGates_32 : decode b_M_closedGates 32 = .ok (.ireturn, 1) := by decide +kernel
theorem d_M_setClosed_0 : decode b_M_setClosed 0 = .ok (.aload_n 0, 1) := by decide +kernel
theorem d_M_setClosed_1 : decode b_M_setClosed 1 = .ok (.aload_n 0, 1) := by decide +kernel
theorem d_M_setClosed_2 : decode b_M_setClosed 2 = .ok (.iload_n 1, 1) := by decide +kernel
theorem d_M_setClosed_3 : decode b_M_setClosed 3 = .ok (.invokevirtual 69, 3) := by decide +kernel
theorem d_M_setClosed_6 : decode b_M_setClosed 6 = .ok (.ifCond .eq 7, 3) := by decide +kernel
theorem d_M_setClosed_9 : decode b_M_setClosed 9 = .ok (.iconst 0, 1) := by decide +kernel
theorem d_M_setClosed_10 : decode b_M_setClosed 10 = .ok (.goto 4, 3) := by decide +kernel
theorem d_M_setClosed_13 : decode b_M_setClosed 13 = .ok (.iconst 1, 1) := by decide +kernel
theorem d_M_setClosed_14 : decode b_M_setClosed 14 = .ok (.putfield 33, 3) := by decide +kernel
theorem d_M_setClosed_17 : decode b_M_setClosed 17 = .ok (.aload_n 0, 1) := by decide +kernel
theorem d_M_setClosed_18 : decode b_M_setClosed 18 = .ok (.getfield 33, 3) := by decide +kernel
theorem d_M_setClosed_21 : decode b_M_setClosed 21 = .ok (.ifCond .eq 5, 3) := by decide +kernel
theorem d_M_setClosed_24 : decode b_M_setClosed 24 = .ok (.iconst 0, 1) := by decide +kernel
theorem d_M_setClosed_25 : decode b_M_setClosed 25 = .ok (.ireturn, 1) := by decide +kernel
theorem d_M_setClosed_26 : decode b_M_setClosed 26 = .ok (.aload_n 0, 1) := by decide +kernel
theorem d_M_setClosed_27 : decode b_M_setClosed 27 = .ok (.iload_n 1, 1) := by decide +kernel
theorem d_M_setClosed_28 : decode b_M_setClosed 28 = .ok (.iconst 2, 1) := by decide +kernel
theorem d_M_setClosed_29 : decode b_M_setClosed 29 = .ok (.invokevirtual 63, 3) := by decide +kernel
theorem d_M_setClosed_32 : decode b_M_setClosed 32 = .ok (.iconst 1, 1) := by decide +kernel
theorem d_M_setClosed_33 : decode b_M_setClosed 33 = .ok (.if_icmp .ne 7, 3) := by decide +kernel
theorem d_M_setClosed_36 : decode b_M_setClosed 36 = .ok (.iconst 1, 1) := by decide +kernel
theorem d_M_setClosed_37 : decode b_M_setClosed 37 = .ok (.goto 4, 3) := by decide +kernel
theorem d_M_setClosed_40 : decode b_M_setClosed 40 = .ok (.iconst 0, 1) := by decide +kernel
theorem d_M_setClosed_41 : decode b_M_setClosed 41 = .ok (.istore_n 3, 1) := by decide +kernel
theorem d_M_setClosed_42 : decode b_M_setClosed 42 = .ok (.aload_n 0, 1) := by decide +kernel
theorem d_M_setClosed_43 : decode b_M_setClosed 43 = .ok (.invokevirtual 56, 3) := by decide +kernel
theorem d_M_setClosed_46 : decode b_M_setClosed 46 = .ok (.aload_n 0, 1) := by decide +kernel
theorem d_M_setClosed_47 : decode b_M_setClosed 47 = .ok (.getfield 9, 3) := by decide +kernel
theorem d_M_setClosed_50 : decode b_M_setClosed 50 = .ok (.iconst 5, 1) := by decide +kernel
theorem d_M_setClosed_51 : decode b_M_setClosed 51 = .ok (.bipush 34, 2) := by decide +kernel
theorem d_M_setClosed_53 : decode b_M_setClosed 53 = .ok (.iload_n 1, 1) := by decide +kernel
theorem d_M_setClosed_54 : decode b_M_setClosed 54 = .ok (.imul, 1) := by decide +kernel
theorem d_M_setClosed_55 : decode b_M_setClosed 55 = .ok (.iadd, 1) := by decide +kernel
theorem d_M_setClosed_56 : decode b_M_setClosed 56 = .ok (.iconst 2, 1) := by decide +kernel
theorem d_M_setClosed_57 : decode b_M_setClosed 57 = .ok (.iadd, 1) := by decide +kernel
theorem d_M_setClosed_58 : decode b_M_setClosed 58 = .ok (.iload_n 2, 1) := by decide +kernel
theorem d_M_setClosed_59 : decode b_M_setClosed 59 = .ok (.ifCond .eq 7, 3) := by decide +kernel
theorem d_M_setClosed_62 : decode b_M_setClosed 62 = .ok (.iconst 1, 1) := by decide +kernel
theorem d_M_setClosed_63 : decode b_M_setClosed 63 = .ok (.goto 4, 3) := by decide +kernel
theorem d_M_setClosed_66 : decode b_M_setClosed 66 = .ok (.iconst 0, 1) := by decide +kernel
theorem d_M_setClosed_67 : decode b_M_setClosed 67 = .ok (.iastore, 1) := by decide +kernel
theorem d_M_setClosed_68 : decode b_M_setClosed 68 = .ok (.iload_n 3, 1) := by decide +kernel
theorem d_M_setClosed_69 : decode b_M_setClosed 69 = .ok (.ireturn, 1) := by decide +kernel
theorem d_M_closedMinutes_0 : decode b_M_closedMinutes 0 = .ok (.aload_n 0, 1) := by decide +kernel
theorem d_M_closedMinutes_1 : decode b_M_closedMinutes 1 = .ok (.aload_n 0, 1) := by decide +kernel
theorem d_M_closedMinutes_2 : decode b_M_closedMinutes 2 = .ok (.iload_n 1, 1) := by decide +kernel
theorem d_M_closedMinutes_3 : decode b_M_closedMinutes 3 = .ok (.invokevirtual 69, 3) := by decide +kernel
theorem d_M_closedMinutes_6 : decode b_M_closedMinutes 6 = .ok (.ifCond .ne 7, 3) := by decide +kernel
theorem d_M_closedMinutes_9 : decode b_M_closedMinutes 9 = .ok (.iconst 1, 1) := by decide +kernel
theorem d_M_closedMinutes_10 : decode b_M_closedMinutes 10 = .ok (.goto 18, 3) := by decide +kernel
theorem d_M_closedMinutes_13 : decode b_M_closedMinutes 13 = .ok (.iload_n 2, 1) := by decide +kernel
theorem d_M_closedMinutes_14 : decode b_M_closedMinutes 14 = .ok (.iconst 0, 1) := by decide +kernel
theorem d_M_closedMinutes_15 : decode b_M_closedMinutes 15 = .ok (.bipush 30, 2) := by decide +kernel
theorem d_M_closedMinutes_17 : decode b_M_closedMinutes 17 = .ok (.invokestatic 45, 3) := by decide +kernel
theorem d_M_closedMinutes_20 : decode b_M_closedMinutes 20 = .ok (.ifCond .ne 7, 3) := by decide +kernel
theorem d_M_closedMinutes_23 : decode b_M_closedMinutes 23 = .ok (.iconst 2, 1) := by decide +kernel
theorem d_M_closedMinutes_24 : decode b_M_closedMinutes 24 = .ok (.goto 4, 3) := by decide +kernel
theorem d_M_closedMinutes_27 : decode b_M_closedMinutes 27 = .ok (.iconst 0, 1) := by decide +kernel
theorem d_M_closedMinutes_28 : decode b_M_closedMinutes 28 = .ok (.putfield 33, 3) := by decide +kernel
theorem d_M_closedMinutes_31 : decode b_M_closedMinutes 31 = .ok (.aload_n 0, 1) := by decide +kernel
theorem d_M_closedMinutes_32 : decode b_M_closedMinutes 32 = .ok (.getfield 33, 3) := by decide +kernel
theorem d_M_closedMinutes_35 : decode b_M_closedMinutes 35 = .ok (.ifCond .ne 12, 3) := by decide +kernel
theorem d_M_closedMinutes_38 : decode b_M_closedMinutes 38 = .ok (.aload_n 0, 1) := by decide +kernel
theorem d_M_closedMinutes_39 : decode b_M_closedMinutes 39 = .ok (.iload_n 1, 1) := by decide +kernel
theorem d_M_closedMinutes_40 : decode b_M_closedMinutes 40 = .ok (.iload_n 2, 1) := by decide +kernel
theorem d_M_closedMinutes_41 : decode b_M_closedMinutes 41 = .ok (.invokevirtual 66, 3) := by decide +kernel
theorem d_M_closedMinutes_44 : decode b_M_closedMinutes 44 = .ok (.goto 4, 3) := by decide +kernel
theorem d_M_closedMinutes_47 : decode b_M_closedMinutes 47 = .ok (.iconst 0, 1) := by decide +kernel
theorem d_M_closedMinutes_48 : decode b_M_closedMinutes 48 = .ok (.ireturn, 1) := by decide +kernel
theorem d_M_isClosedDay_0 : decode b_M_isClosedDay 0 = .ok (.aload_n 0, 1) := by decide +kernel
theorem d_M_isClosedDay_1 : decode b_M_isClosedDay 1 = .ok (.aload_n 0, 1) := by decide +kernel
theorem d_M_isClosedDay_2 : decode b_M_isClosedDay 2 = .ok (.iload_n 1, 1) := by decide +kernel
theorem d_M_isClosedDay_3 : decode b_M_isClosedDay 3 = .ok (.invokevirtual 93, 3) := by decide +kernel
theorem d_M_isClosedDay_6 : decode b_M_isClosedDay 6 = .ok (.ifCond .ne 7, 3) := by decide +kernel
theorem d_M_isClosedDay_9 : decode b_M_isClosedDay 9 = .ok (.iconst 1, 1) := by decide +kernel
theorem d_M_isClosedDay_10 : decode b_M_isClosedDay 10 = .ok (.goto 18, 3) := by decide +kernel
theorem d_M_isClosedDay_13 : decode b_M_isClosedDay 13 = .ok (.iload_n 2, 1) := by decide +kernel
theorem d_M_isClosedDay_14 : decode b_M_isClosedDay 14 = .ok (.iconst 0, 1) := by decide +kernel
theorem d_M_isClosedDay_15 : decode b_M_isClosedDay 15 = .ok (.bipush 30, 2) := by decide +kernel
theorem d_M_isClosedDay_17 : decode b_M_isClosedDay 17 = .ok (.invokestatic 45, 3) := by decide +kernel
theorem d_M_isClosedDay_20 : decode b_M_isClosedDay 20 = .ok (.ifCond .ne 7, 3) := by decide +kernel
theorem d_M_isClosedDay_23 : decode b_M_isClosedDay 23 = .ok (.iconst 2, 1) := by decide +kernel
theorem d_M_isClosedDay_24 : decode b_M_isClosedDay 24 = .ok (.goto 4, 3) := by decide +kernel
theorem d_M_isClosedDay_27 : decode b_M_isClosedDay 27 = .ok (.iconst 0, 1) := by decide +kernel
theorem d_M_isClosedDay_28 : decode b_M_isClosedDay 28 = .ok (.putfield 33, 3) := by decide +kernel
theorem d_M_isClosedDay_31 : decode b_M_isClosedDay 31 = .ok (.aload_n 0, 1) := by decide +kernel
theorem d_M_isClosedDay_32 : decode b_M_isClosedDay 32 = .ok (.getfield 33, 3) := by decide +kernel
theorem d_M_isClosedDay_35 : decode b_M_isClosedDay 35 = .ok (.ifCond .ne 16, 3) := by decide +kernel
theorem d_M_isClosedDay_38 : decode b_M_isClosedDay 38 = .ok (.aload_n 0, 1) := by decide +kernel
theorem d_M_isClosedDay_39 : decode b_M_isClosedDay 39 = .ok (.iload_n 1, 1) := by decide +kernel
theorem d_M_isClosedDay_40 : decode b_M_isClosedDay 40 = .ok (.iload_n 2, 1) := by decide +kernel
theorem d_M_isClosedDay_41 : decode b_M_isClosedDay 41 = .ok (.invokevirtual 123, 3) := by decide +kernel
theorem d_M_isClosedDay_44 : decode b_M_isClosedDay 44 = .ok (.ifCond .eq 7, 3) := by decide +kernel
theorem d_M_isClosedDay_47 : decode b_M_isClosedDay 47 = .ok (.iconst 1, 1) := by decide +kernel
theorem d_M_isClosedDay_48 : decode b_M_isClosedDay 48 = .ok (.goto 4, 3) := by decide +kernel
theorem d_M_isClosedDay_51 : decode b_M_isClosedDay 51 = .ok (.iconst 0, 1) := by decide +kernel
theorem d_M_isClosedDay_52 : decode b_M_isClosedDay 52 = .ok (.ireturn, 1) := by decide +kernel
theorem d_M_isClosed_0 : decode b_M_isClosed 0 = .ok (.iconst 0, 1) := by decide +kernel
theorem d_M_isClosed_1 : decode b_M_isClosed 1 = .ok (.istore_n 3, 1) := by decide +kernel
theorem d_M_isClosed_2 : decode b_M_isClosed 2 = .ok (.iconst 0, 1) := by decide +kernel
theorem d_M_isClosed_3 : decode b_M_isClosed 3 = .ok (.istore 4, 2) := by decide +kernel
theorem d_M_isClosed_5 : decode b_M_isClosed 5 = .ok (.iconst 0, 1) := by decide +kernel
theorem d_M_isClosed_6 : decode b_M_isClosed 6 = .ok (.istore 5, 2) := by decide +kernel
theorem d_M_isClosed_8 : decode b_M_isClosed 8 = .ok (.iload 5, 2) := by decide +kernel
theorem d_M_isClosed_10 : decode b_M_isClosed 10 = .ok (.aload_n 0, 1) := by decide +kernel
theorem d_M_isClosed_11 : decode b_M_isClosed 11 = .ok (.getfield 9, 3) := by decide +kernel
theorem d_M_isClosed_14 : decode b_M_isClosed 14 = .ok (.iconst 1, 1) := by decide +kernel
theorem d_M_isClosed_15 : decode b_M_isClosed 15 = .ok (.iaload, 1) := by decide +kernel
theorem d_M_isClosed_16 : decode b_M_isClosed 16 = .ok (.if_icmp .ge 61, 3) := by decide +kernel
theorem d_M_isClosed_19 : decode b_M_isClosed 19 = .ok (.aload_n 0, 1) := by decide +kernel
theorem d_M_isClosed_20 : decode b_M_isClosed 20 = .ok (.iload_n 1, 1) := by decide +kernel
theorem d_M_isClosed_21 : decode b_M_isClosed 21 = .ok (.iconst 4, 1) := by decide +kernel
theorem d_M_isClosed_22 : decode b_M_isClosed 22 = .ok (.invokevirtual 83, 3) := by decide +kernel
theorem d_M_isClosed_25 : decode b_M_isClosed 25 = .ok (.aload_n 0, 1) := by decide +kernel
theorem d_M_isClosed_26 : decode b_M_isClosed 26 = .ok (.iload 5, 2) := by decide +kernel
theorem d_M_isClosed_28 : decode b_M_isClosed 28 = .ok (.iconst 0, 1) := by decide +kernel
theorem d_M_isClosed_29 : decode b_M_isClosed 29 = .ok (.invokevirtual 63, 3) := by decide +kernel
theorem d_M_isClosed_32 : decode b_M_isClosed 32 = .ok (.invokestatic 86, 3) := by decide +kernel
theorem d_M_isClosed_35 : decode b_M_isClosed 35 = .ok (.istore 6, 2) := by decide +kernel
theorem d_M_isClosed_37 : decode b_M_isClosed 37 = .ok (.iload_n 3, 1) := by decide +kernel
theorem d_M_isClosed_38 : decode b_M_isClosed 38 = .ok (.iload 6, 2) := by decide +kernel
theorem d_M_isClosed_40 : decode b_M_isClosed 40 = .ok (.ifCond .eq 7, 3) := by decide +kernel
theorem d_M_isClosed_43 : decode b_M_isClosed 43 = .ok (.iconst 1, 1) := by decide +kernel
theorem d_M_isClosed_44 : decode b_M_isClosed 44 = .ok (.goto 4, 3) := by decide +kernel
theorem d_M_isClosed_47 : decode b_M_isClosed 47 = .ok (.iconst 0, 1) := by decide +kernel
theorem d_M_isClosed_48 : decode b_M_isClosed 48 = .ok (.iadd, 1) := by decide +kernel
theorem d_M_isClosed_49 : decode b_M_isClosed 49 = .ok (.istore_n 3, 1) := by decide +kernel
theorem d_M_isClosed_50 : decode b_M_isClosed 50 = .ok (.iload 4, 2) := by decide +kernel
theorem d_M_isClosed_52 : decode b_M_isClosed 52 = .ok (.iload 6, 2) := by decide +kernel
theorem d_M_isClosed_54 : decode b_M_isClosed 54 = .ok (.ifCond .eq 13, 3) := by decide +kernel
theorem d_M_isClosed_57 : decode b_M_isClosed 57 = .ok (.aload_n 0, 1) := by decide +kernel
theorem d_M_isClosed_58 : decode b_M_isClosed 58 = .ok (.iload 5, 2) := by decide +kernel
theorem d_M_isClosed_60 : decode b_M_isClosed 60 = .ok (.iload_n 2, 1) := by decide +kernel
theorem d_M_isClosed_61 : decode b_M_isClosed 61 = .ok (.invokevirtual 66, 3) := by decide +kernel
theorem d_M_isClosed_64 : decode b_M_isClosed 64 = .ok (.goto 4, 3) := by decide +kernel
theorem d_M_isClosed_67 : decode b_M_isClosed 67 = .ok (.iconst 0, 1) := by decide +kernel
theorem d_M_isClosed_68 : decode b_M_isClosed 68 = .ok (.iadd, 1) := by decide +kernel
theorem d_M_isClosed_69 : decode b_M_isClosed 69 = .ok (.istore 4, 2) := by decide +kernel
theorem d_M_isClosed_71 : decode b_M_isClosed 71 = .ok (.iinc 5 1, 3) := by decide +kernel
theorem d_M_isClosed_74 : decode b_M_isClosed 74 = .ok (.goto (-66), 3) := by decide +kernel
theorem d_M_isClosed_77 : decode b_M_isClosed 77 = .ok (.iload_n 3, 1) := by decide +kernel
theorem d_M_isClosed_78 : decode b_M_isClosed 78 = .ok (.ifCond .le 19, 3) := by decide +kernel
theorem d_M_isClosed_81 : decode b_M_isClosed 81 = .ok (.iconst 2, 1) := by decide +kernel
theorem d_M_isClosed_82 : decode b_M_isClosed 82 = .ok (.iload 4, 2) := by decide +kernel
theorem d_M_isClosed_84 : decode b_M_isClosed 84 = .ok (.imul, 1) := by decide +kernel
theorem d_M_isClosed_85 : decode b_M_isClosed 85 = .ok (.sipush 480, 3) := by decide +kernel
theorem d_M_isClosed_88 : decode b_M_isClosed 88 = .ok (.iload_n 3, 1) := by decide +kernel
theorem d_M_isClosed_89 : decode b_M_isClosed 89 = .ok (.imul, 1) := by decide +kernel
theorem d_M_isClosed_90 : decode b_M_isClosed 90 = .ok (.if_icmp .lt 7, 3) := by decide +kernel
theorem d_M_isClosed_93 : decode b_M_isClosed 93 = .ok (.iconst 1, 1) := by decide +kernel
theorem d_M_isClosed_94 : decode b_M_isClosed 94 = .ok (.goto 4, 3) := by decide +kernel
theorem d_M_isClosed_97 : decode b_M_isClosed 97 = .ok (.iconst 0, 1) := by decide +kernel
theorem d_M_isClosed_98 : decode b_M_isClosed 98 = .ok (.ireturn, 1) := by decide +kernel
theorem d_M_sell_0 : decode b_M_sell 0 = .ok (.aload_n 0, 1) := by decide +kernel
theorem d_M_sell_1 : decode b_M_sell 1 = .ok (.aload_n 0, 1) := by decide +kernel
theorem d_M_sell_2 : decode b_M_sell 2 = .ok (.iload_n 1, 1) := by decide +kernel
theorem d_M_sell_3 : decode b_M_sell 3 = .ok (.invokevirtual 130, 3) := by decide +kernel
theorem d_M_sell_6 : decode b_M_sell 6 = .ok (.putfield 33, 3) := by decide +kernel
theorem d_M_sell_9 : decode b_M_sell 9 = .ok (.aload_n 0, 1) := by decide +kernel
theorem d_M_sell_10 : decode b_M_sell 10 = .ok (.getfield 33, 3) := by decide +kernel
theorem d_M_sell_13 : decode b_M_sell 13 = .ok (.ifCond .eq 5, 3) := by decide +kernel
theorem d_M_sell_16 : decode b_M_sell 16 = .ok (.iconst 0, 1) := by decide +kernel
theorem d_M_sell_17 : decode b_M_sell 17 = .ok (.ireturn, 1) := by decide +kernel
theorem d_M_sell_18 : decode b_M_sell 18 = .ok (.aload_n 0, 1) := by decide +kernel
theorem d_M_sell_19 : decode b_M_sell 19 = .ok (.invokevirtual 56, 3) := by decide +kernel
theorem d_M_sell_22 : decode b_M_sell 22 = .ok (.aload_n 0, 1) := by decide +kernel
theorem d_M_sell_23 : decode b_M_sell 23 = .ok (.iload_n 1, 1) := by decide +kernel
theorem d_M_sell_24 : decode b_M_sell 24 = .ok (.aload_n 0, 1) := by decide +kernel
theorem d_M_sell_25 : decode b_M_sell 25 = .ok (.iload_n 1, 1) := by decide +kernel
theorem d_M_sell_26 : decode b_M_sell 26 = .ok (.iconst 5, 1) := by decide +kernel
theorem d_M_sell_27 : decode b_M_sell 27 = .ok (.invokevirtual 83, 3) := by decide +kernel
theorem d_M_sell_30 : decode b_M_sell 30 = .ok (.invokevirtual 133, 3) := by decide +kernel
theorem d_M_sell_33 : decode b_M_sell 33 = .ok (.ireturn, 1) := by decide +kernel
theorem d_M_sellProblem_0 : decode b_M_sellProblem 0 = .ok (.aload_n 0, 1) := by decide +kernel
theorem d_M_sellProblem_1 : decode b_M_sellProblem 1 = .ok (.iload_n 1, 1) := by decide +kernel
theorem d_M_sellProblem_2 : decode b_M_sellProblem 2 = .ok (.invokevirtual 93, 3) := by decide +kernel
theorem d_M_sellProblem_5 : decode b_M_sellProblem 5 = .ok (.ifCond .ne 7, 3) := by decide +kernel
theorem d_M_sellProblem_8 : decode b_M_sellProblem 8 = .ok (.iconst 1, 1) := by decide +kernel
theorem d_M_sellProblem_9 : decode b_M_sellProblem 9 = .ok (.goto 19, 3) := by decide +kernel
theorem d_M_sellProblem_12 : decode b_M_sellProblem 12 = .ok (.aload_n 0, 1) := by decide +kernel
theorem d_M_sellProblem_13 : decode b_M_sellProblem 13 = .ok (.getfield 9, 3) := by decide +kernel
theorem d_M_sellProblem_16 : decode b_M_sellProblem 16 = .ok (.iconst 3, 1) := by decide +kernel
theorem d_M_sellProblem_17 : decode b_M_sellProblem 17 = .ok (.iaload, 1) := by decide +kernel
theorem d_M_sellProblem_18 : decode b_M_sellProblem 18 = .ok (.bipush 20, 2) := by decide +kernel
theorem d_M_sellProblem_20 : decode b_M_sellProblem 20 = .ok (.if_icmp .ne 7, 3) := by decide +kernel
theorem d_M_sellProblem_23 : decode b_M_sellProblem 23 = .ok (.iconst 2, 1) := by decide +kernel
theorem d_M_sellProblem_24 : decode b_M_sellProblem 24 = .ok (.goto 4, 3) := by decide +kernel
theorem d_M_sellProblem_27 : decode b_M_sellProblem 27 = .ok (.iconst 0, 1) := by decide +kernel
theorem d_M_sellProblem_28 : decode b_M_sellProblem 28 = .ok (.ireturn, 1) := by decide +kernel
theorem d_M_comesCard_0 : decode b_M_comesCard 0 = .ok (.aload_n 0, 1) := by decide +kernel
theorem d_M_comesCard_1 : decode b_M_comesCard 1 = .ok (.getfield 9, 3) := by decide +kernel
theorem d_M_comesCard_4 : decode b_M_comesCard 4 = .ok (.iconst 3, 1) := by decide +kernel
theorem d_M_comesCard_5 : decode b_M_comesCard 5 = .ok (.iaload, 1) := by decide +kernel
theorem d_M_comesCard_6 : decode b_M_comesCard 6 = .ok (.istore_n 3, 1) := by decide +kernel
theorem d_M_comesCard_7 : decode b_M_comesCard 7 = .ok (.aload_n 0, 1) := by decide +kernel
theorem d_M_comesCard_8 : decode b_M_comesCard 8 = .ok (.iload_n 3, 1) := by decide +kernel
theorem d_M_comesCard_9 : decode b_M_comesCard 9 = .ok (.iconst 0, 1) := by decide +kernel
theorem d_M_comesCard_10 : decode b_M_comesCard 10 = .ok (.iload_n 1, 1) := by decide +kernel
theorem d_M_comesCard_11 : decode b_M_comesCard 11 = .ok (.invokevirtual 126, 3) := by decide +kernel
theorem d_M_comesCard_14 : decode b_M_comesCard 14 = .ok (.aload_n 0, 1) := by decide +kernel
theorem d_M_comesCard_15 : decode b_M_comesCard 15 = .ok (.iload_n 3, 1) := by decide +kernel
theorem d_M_comesCard_16 : decode b_M_comesCard 16 = .ok (.iconst 1, 1) := by decide +kernel
theorem d_M_comesCard_17 : decode b_M_comesCard 17 = .ok (.iconst 0, 1) := by decide +kernel
theorem d_M_comesCard_18 : decode b_M_comesCard 18 = .ok (.invokevirtual 126, 3) := by decide +kernel
theorem d_M_comesCard_21 : decode b_M_comesCard 21 = .ok (.aload_n 0, 1) := by decide +kernel
theorem d_M_comesCard_22 : decode b_M_comesCard 22 = .ok (.iload_n 3, 1) := by decide +kernel
theorem d_M_comesCard_23 : decode b_M_comesCard 23 = .ok (.iconst 2, 1) := by decide +kernel
theorem d_M_comesCard_24 : decode b_M_comesCard 24 = .ok (.iconst (-1), 1) := by decide +kernel
theorem d_M_comesCard_25 : decode b_M_comesCard 25 = .ok (.invokevirtual 126, 3) := by decide +kernel
theorem d_M_comesCard_28 : decode b_M_comesCard 28 = .ok (.aload_n 0, 1) := by decide +kernel
theorem d_M_comesCard_29 : decode b_M_comesCard 29 = .ok (.iload_n 3, 1) := by decide +kernel
theorem d_M_comesCard_30 : decode b_M_comesCard 30 = .ok (.iconst 3, 1) := by decide +kernel
theorem d_M_comesCard_31 : decode b_M_comesCard 31 = .ok (.iconst 0, 1) := by decide +kernel
theorem d_M_comesCard_32 : decode b_M_comesCard 32 = .ok (.invokevirtual 126, 3) := by decide +kernel
theorem d_M_comesCard_35 : decode b_M_comesCard 35 = .ok (.aload_n 0, 1) := by decide +kernel
theorem d_M_comesCard_36 : decode b_M_comesCard 36 = .ok (.iload_n 3, 1) := by decide +kernel
theorem d_M_comesCard_37 : decode b_M_comesCard 37 = .ok (.iconst 4, 1) := by decide +kernel
theorem d_M_comesCard_38 : decode b_M_comesCard 38 = .ok (.iload_n 2, 1) := by decide +kernel
theorem d_M_comesCard_39 : decode b_M_comesCard 39 = .ok (.invokevirtual 126, 3) := by decide +kernel
theorem d_M_comesCard_42 : decode b_M_comesCard 42 = .ok (.aload_n 0, 1) := by decide +kernel
theorem d_M_comesCard_43 : decode b_M_comesCard 43 = .ok (.getfield 9, 3) := by decide +kernel
theorem d_M_comesCard_46 : decode b_M_comesCard 46 = .ok (.iconst 3, 1) := by decide +kernel
theorem d_M_comesCard_47 : decode b_M_comesCard 47 = .ok (.dup2, 1) := by decide +kernel
theorem d_M_comesCard_48 : decode b_M_comesCard 48 = .ok (.iaload, 1) := by decide +kernel
theorem d_M_comesCard_49 : decode b_M_comesCard 49 = .ok (.iconst 1, 1) := by decide +kernel
theorem d_M_comesCard_50 : decode b_M_comesCard 50 = .ok (.iadd, 1) := by decide +kernel
theorem d_M_comesCard_51 : decode b_M_comesCard 51 = .ok (.iastore, 1) := by decide +kernel
theorem d_M_comesCard_52 : decode b_M_comesCard 52 = .ok (.iload_n 3, 1) := by decide +kernel
theorem d_M_comesCard_53 : decode b_M_comesCard 53 = .ok (.ireturn, 1) := by decide +kernel
theorem d_M_setC_0 : decode b_M_setC 0 = .ok (.aload_n 0, 1) := by decide +kernel
theorem d_M_setC_1 : decode b_M_setC 1 = .ok (.getfield 9, 3) := by decide +kernel
theorem d_M_setC_4 : decode b_M_setC 4 = .ok (.sipush 461, 3) := by decide +kernel
theorem d_M_setC_7 : decode b_M_setC 7 = .ok (.iconst 5, 1) := by decide +kernel
theorem d_M_setC_8 : decode b_M_setC 8 = .ok (.iload_n 1, 1) := by decide +kernel
theorem d_M_setC_9 : decode b_M_setC 9 = .ok (.imul, 1) := by decide +kernel
theorem d_M_setC_10 : decode b_M_setC 10 = .ok (.iadd, 1) := by decide +kernel
theorem d_M_setC_11 : decode b_M_setC 11 = .ok (.iload_n 2, 1) := by decide +kernel
theorem d_M_setC_12 : decode b_M_setC 12 = .ok (.iadd, 1) := by decide +kernel
theorem d_M_setC_13 : decode b_M_setC 13 = .ok (.iload_n 3, 1) := by decide +kernel
theorem d_M_setC_14 : decode b_M_setC 14 = .ok (.iastore, 1) := by decide +kernel
theorem d_M_setC_15 : decode b_M_setC 15 = .ok (.return_, 1) := by decide +kernel
theorem d_M_pass_0 : decode b_M_pass 0 = .ok (.aload_n 0, 1) := by decide +kernel
theorem d_M_pass_1 : decode b_M_pass 1 = .ok (.aload_n 0, 1) := by decide +kernel
theorem d_M_pass_2 : decode b_M_pass 2 = .ok (.iload_n 1, 1) := by decide +kernel
theorem d_M_pass_3 : decode b_M_pass 3 = .ok (.invokevirtual 148, 3) := by decide +kernel
theorem d_M_pass_6 : decode b_M_pass 6 = .ok (.ifCond .eq 15, 3) := by decide +kernel
theorem d_M_pass_9 : decode b_M_pass 9 = .ok (.aload_n 0, 1) := by decide +kernel
theorem d_M_pass_10 : decode b_M_pass 10 = .ok (.iload_n 2, 1) := by decide +kernel
theorem d_M_pass_11 : decode b_M_pass 11 = .ok (.invokevirtual 69, 3) := by decide +kernel
theorem d_M_pass_14 : decode b_M_pass 14 = .ok (.ifCond .eq 7, 3) := by decide +kernel
theorem d_M_pass_17 : decode b_M_pass 17 = .ok (.iconst 0, 1) := by decide +kernel
theorem d_M_pass_18 : decode b_M_pass 18 = .ok (.goto 4, 3) := by decide +kernel
theorem d_M_pass_21 : decode b_M_pass 21 = .ok (.iconst 1, 1) := by decide +kernel
theorem d_M_pass_22 : decode b_M_pass 22 = .ok (.putfield 33, 3) := by decide +kernel
theorem d_M_pass_25 : decode b_M_pass 25 = .ok (.aload_n 0, 1) := by decide +kernel
theorem d_M_pass_26 : decode b_M_pass 26 = .ok (.getfield 33, 3) := by decide +kernel
theorem d_M_pass_29 : decode b_M_pass 29 = .ok (.ifCond .eq 5, 3) := by decide +kernel
theorem d_M_pass_32 : decode b_M_pass 32 = .ok (.iconst 0, 1) := by decide +kernel
theorem d_M_pass_33 : decode b_M_pass 33 = .ok (.ireturn, 1) := by decide +kernel
theorem d_M_pass_34 : decode b_M_pass 34 = .ok (.aload_n 0, 1) := by decide +kernel
theorem d_M_pass_35 : decode b_M_pass 35 = .ok (.iload_n 1, 1) := by decide +kernel
theorem d_M_pass_36 : decode b_M_pass 36 = .ok (.iload_n 2, 1) := by decide +kernel
theorem d_M_pass_37 : decode b_M_pass 37 = .ok (.invokevirtual 151, 3) := by decide +kernel
theorem d_M_pass_40 : decode b_M_pass 40 = .ok (.istore_n 3, 1) := by decide +kernel
theorem d_M_pass_41 : decode b_M_pass 41 = .ok (.iload_n 3, 1) := by decide +kernel
theorem d_M_pass_42 : decode b_M_pass 42 = .ok (.ifCond .eq 14, 3) := by decide +kernel
theorem d_M_pass_45 : decode b_M_pass 45 = .ok (.aload_n 0, 1) := by decide +kernel
theorem d_M_pass_46 : decode b_M_pass 46 = .ok (.iload_n 3, 1) := by decide +kernel
theorem d_M_pass_47 : decode b_M_pass 47 = .ok (.putfield 49, 3) := by decide +kernel
theorem d_M_pass_50 : decode b_M_pass 50 = .ok (.aload_n 0, 1) := by decide +kernel
theorem d_M_pass_51 : decode b_M_pass 51 = .ok (.iconst 2, 1) := by decide +kernel
theorem d_M_pass_52 : decode b_M_pass 52 = .ok (.invokevirtual 52, 3) := by decide +kernel
theorem d_M_pass_55 : decode b_M_pass 55 = .ok (.ireturn, 1) := by decide +kernel
theorem d_M_pass_56 : decode b_M_pass 56 = .ok (.aload_n 0, 1) := by decide +kernel
theorem d_M_pass_57 : decode b_M_pass 57 = .ok (.invokevirtual 56, 3) := by decide +kernel
theorem d_M_pass_60 : decode b_M_pass 60 = .ok (.sipush 561, 3) := by decide +kernel
theorem d_M_pass_63 : decode b_M_pass 63 = .ok (.iconst 3, 1) := by decide +kernel
theorem d_M_pass_64 : decode b_M_pass 64 = .ok (.aload_n 0, 1) := by decide +kernel
theorem d_M_pass_65 : decode b_M_pass 65 = .ok (.getfield 9, 3) := by decide +kernel
theorem d_M_pass_68 : decode b_M_pass 68 = .ok (.iconst 4, 1) := by decide +kernel
theorem d_M_pass_69 : decode b_M_pass 69 = .ok (.iaload, 1) := by decide +kernel
theorem d_M_pass_70 : decode b_M_pass 70 = .ok (.imul, 1) := by decide +kernel
theorem d_M_pass_71 : decode b_M_pass 71 = .ok (.iadd, 1) := by decide +kernel
theorem d_M_pass_72 : decode b_M_pass 72 = .ok (.istore 4, 2) := by decide +kernel
theorem d_M_pass_74 : decode b_M_pass 74 = .ok (.aload_n 0, 1) := by decide +kernel
theorem d_M_pass_75 : decode b_M_pass 75 = .ok (.getfield 9, 3) := by decide +kernel
theorem d_M_pass_78 : decode b_M_pass 78 = .ok (.iload 4, 2) := by decide +kernel
theorem d_M_pass_80 : decode b_M_pass 80 = .ok (.iload_n 1, 1) := by decide +kernel
theorem d_M_pass_81 : decode b_M_pass 81 = .ok (.iastore, 1) := by decide +kernel
theorem d_M_pass_82 : decode b_M_pass 82 = .ok (.aload_n 0, 1) := by decide +kernel
theorem d_M_pass_83 : decode b_M_pass 83 = .ok (.getfield 9, 3) := by decide +kernel
theorem d_M_pass_86 : decode b_M_pass 86 = .ok (.iload 4, 2) := by decide +kernel
theorem d_M_pass_88 : decode b_M_pass 88 = .ok (.iconst 1, 1) := by decide +kernel
theorem d_M_pass_89 : decode b_M_pass 89 = .ok (.iadd, 1) := by decide +kernel
theorem d_M_pass_90 : decode b_M_pass 90 = .ok (.iload_n 2, 1) := by decide +kernel
theorem d_M_pass_91 : decode b_M_pass 91 = .ok (.iastore, 1) := by decide +kernel
theorem d_M_pass_92 : decode b_M_pass 92 = .ok (.aload_n 0, 1) := by decide +kernel
theorem d_M_pass_93 : decode b_M_pass 93 = .ok (.getfield 9, 3) := by decide +kernel
theorem d_M_pass_96 : decode b_M_pass 96 = .ok (.iload 4, 2) := by decide +kernel
theorem d_M_pass_98 : decode b_M_pass 98 = .ok (.iconst 2, 1) := by decide +kernel
theorem d_M_pass_99 : decode b_M_pass 99 = .ok (.iadd, 1) := by decide +kernel
theorem d_M_pass_100 : decode b_M_pass 100 = .ok (.aload_n 0, 1) := by decide +kernel
theorem d_M_pass_101 : decode b_M_pass 101 = .ok (.getfield 9, 3) := by decide +kernel
theorem d_M_pass_104 : decode b_M_pass 104 = .ok (.iconst 0, 1) := by decide +kernel
theorem d_M_pass_105 : decode b_M_pass 105 = .ok (.iaload, 1) := by decide +kernel
theorem d_M_pass_106 : decode b_M_pass 106 = .ok (.iastore, 1) := by decide +kernel
theorem d_M_pass_107 : decode b_M_pass 107 = .ok (.aload_n 0, 1) := by decide +kernel
theorem d_M_pass_108 : decode b_M_pass 108 = .ok (.getfield 9, 3) := by decide +kernel
theorem d_M_pass_111 : decode b_M_pass 111 = .ok (.iconst 4, 1) := by decide +kernel
theorem d_M_pass_112 : decode b_M_pass 112 = .ok (.dup2, 1) := by decide +kernel
theorem d_M_pass_113 : decode b_M_pass 113 = .ok (.iaload, 1) := by decide +kernel
theorem d_M_pass_114 : decode b_M_pass 114 = .ok (.iconst 1, 1) := by decide +kernel
theorem d_M_pass_115 : decode b_M_pass 115 = .ok (.iadd, 1) := by decide +kernel
theorem d_M_pass_116 : decode b_M_pass 116 = .ok (.iastore, 1) := by decide +kernel
theorem d_M_pass_117 : decode b_M_pass 117 = .ok (.aload_n 0, 1) := by decide +kernel
theorem d_M_pass_118 : decode b_M_pass 118 = .ok (.iload_n 1, 1) := by decide +kernel
theorem d_M_pass_119 : decode b_M_pass 119 = .ok (.invokevirtual 136, 3) := by decide +kernel
theorem d_M_pass_122 : decode b_M_pass 122 = .ok (.ireturn, 1) := by decide +kernel
theorem d_M_isCard_0 : decode b_M_isCard 0 = .ok (.iload_n 1, 1) := by decide +kernel
theorem d_M_isCard_1 : decode b_M_isCard 1 = .ok (.iconst 0, 1) := by decide +kernel
theorem d_M_isCard_2 : decode b_M_isCard 2 = .ok (.aload_n 0, 1) := by decide +kernel
theorem d_M_isCard_3 : decode b_M_isCard 3 = .ok (.getfield 9, 3) := by decide +kernel
theorem d_M_isCard_6 : decode b_M_isCard 6 = .ok (.iconst 3, 1) := by decide +kernel
theorem d_M_isCard_7 : decode b_M_isCard 7 = .ok (.iaload, 1) := by decide +kernel
theorem d_M_isCard_8 : decode b_M_isCard 8 = .ok (.iconst 1, 1) := by decide +kernel
theorem d_M_isCard_9 : decode b_M_isCard 9 = .ok (.isub, 1) := by decide +kernel
theorem d_M_isCard_10 : decode b_M_isCard 10 = .ok (.invokestatic 45, 3) := by decide +kernel
theorem d_M_isCard_13 : decode b_M_isCard 13 = .ok (.ireturn, 1) := by decide +kernel
theorem d_M_refusalBy_0 : decode b_M_refusalBy 0 = .ok (.aload_n 0, 1) := by decide +kernel
theorem d_M_refusalBy_1 : decode b_M_refusalBy 1 = .ok (.iload_n 2, 1) := by decide +kernel
theorem d_M_refusalBy_2 : decode b_M_refusalBy 2 = .ok (.iconst 2, 1) := by decide +kernel
theorem d_M_refusalBy_3 : decode b_M_refusalBy 3 = .ok (.invokevirtual 63, 3) := by decide +kernel
theorem d_M_refusalBy_6 : decode b_M_refusalBy 6 = .ok (.iconst 1, 1) := by decide +kernel
theorem d_M_refusalBy_7 : decode b_M_refusalBy 7 = .ok (.if_icmp .ne 6, 3) := by decide +kernel
theorem d_M_refusalBy_10 : decode b_M_refusalBy 10 = .ok (.bipush 11, 2) := by decide +kernel
theorem d_M_refusalBy_12 : decode b_M_refusalBy 12 = .ok (.ireturn, 1) := by decide +kernel
theorem d_M_refusalBy_13 : decode b_M_refusalBy 13 = .ok (.aload_n 0, 1) := by decide +kernel
theorem d_M_refusalBy_14 : decode b_M_refusalBy 14 = .ok (.iload_n 1, 1) := by decide +kernel
theorem d_M_refusalBy_15 : decode b_M_refusalBy 15 = .ok (.iconst 1, 1) := by decide +kernel
theorem d_M_refusalBy_16 : decode b_M_refusalBy 16 = .ok (.invokevirtual 90, 3) := by decide +kernel
theorem d_M_refusalBy_19 : decode b_M_refusalBy 19 = .ok (.ifCond .le 13, 3) := by decide +kernel
theorem d_M_refusalBy_22 : decode b_M_refusalBy 22 = .ok (.bipush 20, 2) := by decide +kernel
theorem d_M_refusalBy_24 : decode b_M_refusalBy 24 = .ok (.aload_n 0, 1) := by decide +kernel
theorem d_M_refusalBy_25 : decode b_M_refusalBy 25 = .ok (.iload_n 1, 1) := by decide +kernel
theorem d_M_refusalBy_26 : decode b_M_refusalBy 26 = .ok (.iconst 1, 1) := by decide +kernel
theorem d_M_refusalBy_27 : decode b_M_refusalBy 27 = .ok (.invokevirtual 90, 3) := by decide +kernel
theorem d_M_refusalBy_30 : decode b_M_refusalBy 30 = .ok (.iadd, 1) := by decide +kernel
theorem d_M_refusalBy_31 : decode b_M_refusalBy 31 = .ok (.ireturn, 1) := by decide +kernel
theorem d_M_refusalBy_32 : decode b_M_refusalBy 32 = .ok (.aload_n 0, 1) := by decide +kernel
theorem d_M_refusalBy_33 : decode b_M_refusalBy 33 = .ok (.iload_n 1, 1) := by decide +kernel
theorem d_M_refusalBy_34 : decode b_M_refusalBy 34 = .ok (.iconst 0, 1) := by decide +kernel
theorem d_M_refusalBy_35 : decode b_M_refusalBy 35 = .ok (.invokevirtual 90, 3) := by decide +kernel
theorem d_M_refusalBy_38 : decode b_M_refusalBy 38 = .ok (.istore_n 3, 1) := by decide +kernel
theorem d_M_refusalBy_39 : decode b_M_refusalBy 39 = .ok (.aload_n 0, 1) := by decide +kernel
theorem d_M_refusalBy_40 : decode b_M_refusalBy 40 = .ok (.iload_n 3, 1) := by decide +kernel
theorem d_M_refusalBy_41 : decode b_M_refusalBy 41 = .ok (.iconst 4, 1) := by decide +kernel
theorem d_M_refusalBy_42 : decode b_M_refusalBy 42 = .ok (.invokevirtual 83, 3) := by decide +kernel
theorem d_M_refusalBy_45 : decode b_M_refusalBy 45 = .ok (.aload_n 0, 1) := by decide +kernel
theorem d_M_refusalBy_46 : decode b_M_refusalBy 46 = .ok (.iload_n 2, 1) := by decide +kernel
theorem d_M_refusalBy_47 : decode b_M_refusalBy 47 = .ok (.iconst 0, 1) := by decide +kernel
theorem d_M_refusalBy_48 : decode b_M_refusalBy 48 = .ok (.invokevirtual 63, 3) := by decide +kernel
theorem d_M_refusalBy_51 : decode b_M_refusalBy 51 = .ok (.invokestatic 86, 3) := by decide +kernel
theorem d_M_refusalBy_54 : decode b_M_refusalBy 54 = .ok (.ifCond .ne 6, 3) := by decide +kernel
theorem d_M_refusalBy_57 : decode b_M_refusalBy 57 = .ok (.bipush 31, 2) := by decide +kernel
theorem d_M_refusalBy_59 : decode b_M_refusalBy 59 = .ok (.ireturn, 1) := by decide +kernel
theorem d_M_refusalBy_60 : decode b_M_refusalBy 60 = .ok (.aload_n 0, 1) := by decide +kernel
theorem d_M_refusalBy_61 : decode b_M_refusalBy 61 = .ok (.invokevirtual 114, 3) := by decide +kernel
theorem d_M_refusalBy_64 : decode b_M_refusalBy 64 = .ok (.aload_n 0, 1) := by decide +kernel
theorem d_M_refusalBy_65 : decode b_M_refusalBy 65 = .ok (.iload_n 3, 1) := by decide +kernel
theorem d_M_refusalBy_66 : decode b_M_refusalBy 66 = .ok (.iconst 2, 1) := by decide +kernel
theorem d_M_refusalBy_67 : decode b_M_refusalBy 67 = .ok (.invokevirtual 83, 3) := by decide +kernel
theorem d_M_refusalBy_70 : decode b_M_refusalBy 70 = .ok (.aload_n 0, 1) := by decide +kernel
theorem d_M_refusalBy_71 : decode b_M_refusalBy 71 = .ok (.iload_n 3, 1) := by decide +kernel
theorem d_M_refusalBy_72 : decode b_M_refusalBy 72 = .ok (.iconst 3, 1) := by decide +kernel
theorem d_M_refusalBy_73 : decode b_M_refusalBy 73 = .ok (.invokevirtual 83, 3) := by decide +kernel
theorem d_M_refusalBy_76 : decode b_M_refusalBy 76 = .ok (.invokestatic 45, 3) := by decide +kernel
theorem d_M_refusalBy_79 : decode b_M_refusalBy 79 = .ok (.ifCond .ne 6, 3) := by decide +kernel
theorem d_M_refusalBy_82 : decode b_M_refusalBy 82 = .ok (.bipush 32, 2) := by decide +kernel
theorem d_M_refusalBy_84 : decode b_M_refusalBy 84 = .ok (.ireturn, 1) := by decide +kernel
theorem d_M_refusalBy_85 : decode b_M_refusalBy 85 = .ok (.aload_n 0, 1) := by decide +kernel
theorem d_M_refusalBy_86 : decode b_M_refusalBy 86 = .ok (.iload_n 1, 1) := by decide +kernel
theorem d_M_refusalBy_87 : decode b_M_refusalBy 87 = .ok (.invokevirtual 145, 3) := by decide +kernel
theorem d_M_refusalBy_90 : decode b_M_refusalBy 90 = .ok (.ifCond .ne 6, 3) := by decide +kernel
theorem d_M_refusalBy_93 : decode b_M_refusalBy 93 = .ok (.bipush 33, 2) := by decide +kernel
theorem d_M_refusalBy_95 : decode b_M_refusalBy 95 = .ok (.ireturn, 1) := by decide +kernel
theorem d_M_refusalBy_96 : decode b_M_refusalBy 96 = .ok (.aload_n 0, 1) := by decide +kernel
theorem d_M_refusalBy_97 : decode b_M_refusalBy 97 = .ok (.iload_n 1, 1) := by decide +kernel
theorem d_M_refusalBy_98 : decode b_M_refusalBy 98 = .ok (.aload_n 0, 1) := by decide +kernel
theorem d_M_refusalBy_99 : decode b_M_refusalBy 99 = .ok (.iload_n 1, 1) := by decide +kernel
theorem d_M_refusalBy_100 : decode b_M_refusalBy 100 = .ok (.invokevirtual 136, 3) := by decide +kernel
theorem d_M_refusalBy_103 : decode b_M_refusalBy 103 = .ok (.iconst 1, 1) := by decide +kernel
theorem d_M_refusalBy_104 : decode b_M_refusalBy 104 = .ok (.isub, 1) := by decide +kernel
theorem d_M_refusalBy_105 : decode b_M_refusalBy 105 = .ok (.invokevirtual 139, 3) := by decide +kernel
theorem d_M_refusalBy_108 : decode b_M_refusalBy 108 = .ok (.istore 4, 2) := by decide +kernel
theorem d_M_refusalBy_110 : decode b_M_refusalBy 110 = .ok (.iload 4, 2) := by decide +kernel
theorem d_M_refusalBy_112 : decode b_M_refusalBy 112 = .ok (.iconst (-1), 1) := by decide +kernel
theorem d_M_refusalBy_113 : decode b_M_refusalBy 113 = .ok (.if_icmp .ne 5, 3) := by decide +kernel
theorem d_M_refusalBy_116 : decode b_M_refusalBy 116 = .ok (.iconst 0, 1) := by decide +kernel
theorem d_M_refusalBy_117 : decode b_M_refusalBy 117 = .ok (.ireturn, 1) := by decide +kernel
theorem d_M_refusalBy_118 : decode b_M_refusalBy 118 = .ok (.aload_n 0, 1) := by decide +kernel
theorem d_M_refusalBy_119 : decode b_M_refusalBy 119 = .ok (.getfield 9, 3) := by decide +kernel
theorem d_M_refusalBy_122 : decode b_M_refusalBy 122 = .ok (.iconst 0, 1) := by decide +kernel
theorem d_M_refusalBy_123 : decode b_M_refusalBy 123 = .ok (.iaload, 1) := by decide +kernel
theorem d_M_refusalBy_124 : decode b_M_refusalBy 124 = .ok (.aload_n 0, 1) := by decide +kernel
theorem d_M_refusalBy_125 : decode b_M_refusalBy 125 = .ok (.iload 4, 2) := by decide +kernel
theorem d_M_refusalBy_127 : decode b_M_refusalBy 127 = .ok (.iconst 2, 1) := by decide +kernel
theorem d_M_refusalBy_128 : decode b_M_refusalBy 128 = .ok (.invokevirtual 59, 3) := by decide +kernel
theorem d_M_refusalBy_131 : decode b_M_refusalBy 131 = .ok (.isub, 1) := by decide +kernel
theorem d_M_refusalBy_132 : decode b_M_refusalBy 132 = .ok (.istore 5, 2) := by decide +kernel
theorem d_M_refusalBy_134 : decode b_M_refusalBy 134 = .ok (.iload 5, 2) := by decide +kernel
theorem d_M_refusalBy_136 : decode b_M_refusalBy 136 = .ok (.aload_n 0, 1) := by decide +kernel
theorem d_M_refusalBy_137 : decode b_M_refusalBy 137 = .ok (.aload_n 0, 1) := by decide +kernel
theorem d_M_refusalBy_138 : decode b_M_refusalBy 138 = .ok (.iload 4, 2) := by decide +kernel
theorem d_M_refusalBy_140 : decode b_M_refusalBy 140 = .ok (.iconst 1, 1) := by decide +kernel
theorem d_M_refusalBy_141 : decode b_M_refusalBy 141 = .ok (.invokevirtual 59, 3) := by decide +kernel
theorem d_M_refusalBy_144 : decode b_M_refusalBy 144 = .ok (.iload_n 2, 1) := by decide +kernel
theorem d_M_refusalBy_145 : decode b_M_refusalBy 145 = .ok (.invokevirtual 103, 3) := by decide +kernel
theorem d_M_refusalBy_148 : decode b_M_refusalBy 148 = .ok (.if_icmp .ge 8, 3) := by decide +kernel
theorem d_M_refusalBy_151 : decode b_M_refusalBy 151 = .ok (.bipush 41, 2) := by decide +kernel
theorem d_M_refusalBy_153 : decode b_M_refusalBy 153 = .ok (.goto 26, 3) := by decide +kernel
theorem d_M_refusalBy_156 : decode b_M_refusalBy 156 = .ok (.aload_n 0, 1) := by decide +kernel
theorem d_M_refusalBy_157 : decode b_M_refusalBy 157 = .ok (.iload 4, 2) := by decide +kernel
theorem d_M_refusalBy_159 : decode b_M_refusalBy 159 = .ok (.iconst 1, 1) := by decide +kernel
theorem d_M_refusalBy_160 : decode b_M_refusalBy 160 = .ok (.invokevirtual 59, 3) := by decide +kernel
theorem d_M_refusalBy_163 : decode b_M_refusalBy 163 = .ok (.iload_n 2, 1) := by decide +kernel
theorem d_M_refusalBy_164 : decode b_M_refusalBy 164 = .ok (.if_icmp .ne 14, 3) := by decide +kernel
theorem d_M_refusalBy_167 : decode b_M_refusalBy 167 = .ok (.iload 5, 2) := by decide +kernel
theorem d_M_refusalBy_169 : decode b_M_refusalBy 169 = .ok (.iconst 5, 1) := by decide +kernel
theorem d_M_refusalBy_170 : decode b_M_refusalBy 170 = .ok (.if_icmp .ge 8, 3) := by decide +kernel
theorem d_M_refusalBy_173 : decode b_M_refusalBy 173 = .ok (.bipush 42, 2) := by decide +kernel
theorem d_M_refusalBy_175 : decode b_M_refusalBy 175 = .ok (.goto 4, 3) := by decide +kernel
theorem d_M_refusalBy_178 : decode b_M_refusalBy 178 = .ok (.iconst 0, 1) := by decide +kernel
theorem d_M_refusalBy_179 : decode b_M_refusalBy 179 = .ok (.ireturn, 1) := by decide +kernel
theorem d_M_isValid_0 : decode b_M_isValid 0 = .ok (.aload_n 0, 1) := by decide +kernel
theorem d_M_isValid_1 : decode b_M_isValid 1 = .ok (.iload_n 1, 1) := by decide +kernel
theorem d_M_isValid_2 : decode b_M_isValid 2 = .ok (.invokevirtual 136, 3) := by decide +kernel
theorem d_M_isValid_5 : decode b_M_isValid 5 = .ok (.istore_n 2, 1) := by decide +kernel
theorem d_M_isValid_6 : decode b_M_isValid 6 = .ok (.iload_n 2, 1) := by decide +kernel
theorem d_M_isValid_7 : decode b_M_isValid 7 = .ok (.ifCond .ne 5, 3) := by decide +kernel
theorem d_M_isValid_10 : decode b_M_isValid 10 = .ok (.iconst 1, 1) := by decide +kernel
theorem d_M_isValid_11 : decode b_M_isValid 11 = .ok (.ireturn, 1) := by decide +kernel
theorem d_M_isValid_12 : decode b_M_isValid 12 = .ok (.aload_n 0, 1) := by decide +kernel
theorem d_M_isValid_13 : decode b_M_isValid 13 = .ok (.iload_n 1, 1) := by decide +kernel
theorem d_M_isValid_14 : decode b_M_isValid 14 = .ok (.iconst 0, 1) := by decide +kernel
theorem d_M_isValid_15 : decode b_M_isValid 15 = .ok (.invokevirtual 90, 3) := by decide +kernel
theorem d_M_isValid_18 : decode b_M_isValid 18 = .ok (.istore_n 3, 1) := by decide +kernel
theorem d_M_isValid_19 : decode b_M_isValid 19 = .ok (.aload_n 0, 1) := by decide +kernel
theorem d_M_isValid_20 : decode b_M_isValid 20 = .ok (.iload_n 3, 1) := by decide +kernel
theorem d_M_isValid_21 : decode b_M_isValid 21 = .ok (.iconst 1, 1) := by decide +kernel
theorem d_M_isValid_22 : decode b_M_isValid 22 = .ok (.invokevirtual 83, 3) := by decide +kernel
theorem d_M_isValid_25 : decode b_M_isValid 25 = .ok (.istore 4, 2) := by decide +kernel
theorem d_M_isValid_27 : decode b_M_isValid 27 = .ok (.aload_n 0, 1) := by decide +kernel
theorem d_M_isValid_28 : decode b_M_isValid 28 = .ok (.iload_n 3, 1) := by decide +kernel
theorem d_M_isValid_29 : decode b_M_isValid 29 = .ok (.iconst 0, 1) := by decide +kernel
theorem d_M_isValid_30 : decode b_M_isValid 30 = .ok (.invokevirtual 83, 3) := by decide +kernel
theorem d_M_isValid_33 : decode b_M_isValid 33 = .ok (.iconst 2, 1) := by decide +kernel
theorem d_M_isValid_34 : decode b_M_isValid 34 = .ok (.if_icmp .ne 18, 3) := by decide +kernel
theorem d_M_isValid_37 : decode b_M_isValid 37 = .ok (.iload_n 2, 1) := by decide +kernel
theorem d_M_isValid_38 : decode b_M_isValid 38 = .ok (.bipush 10, 2) := by decide +kernel
theorem d_M_isValid_40 : decode b_M_isValid 40 = .ok (.iload 4, 2) := by decide +kernel
theorem d_M_isValid_42 : decode b_M_isValid 42 = .ok (.imul, 1) := by decide +kernel
theorem d_M_isValid_43 : decode b_M_isValid 43 = .ok (.if_icmp .ge 7, 3) := by decide +kernel
theorem d_M_isValid_46 : decode b_M_isValid 46 = .ok (.iconst 1, 1) := by decide +kernel
theorem d_M_isValid_47 : decode b_M_isValid 47 = .ok (.goto 4, 3) := by decide +kernel
theorem d_M_isValid_50 : decode b_M_isValid 50 = .ok (.iconst 0, 1) := by decide +kernel
theorem d_M_isValid_51 : decode b_M_isValid 51 = .ok (.ireturn, 1) := by decide +kernel
theorem d_M_isValid_52 : decode b_M_isValid 52 = .ok (.aload_n 0, 1) := by decide +kernel
theorem d_M_isValid_53 : decode b_M_isValid 53 = .ok (.iload_n 3, 1) := by decide +kernel
theorem d_M_isValid_54 : decode b_M_isValid 54 = .ok (.iconst 0, 1) := by decide +kernel
theorem d_M_isValid_55 : decode b_M_isValid 55 = .ok (.invokevirtual 83, 3) := by decide +kernel
theorem d_M_isValid_58 : decode b_M_isValid 58 = .ok (.ifCond .ne 34, 3) := by decide +kernel
theorem d_M_isValid_61 : decode b_M_isValid 61 = .ok (.aload_n 0, 1) := by decide +kernel
theorem d_M_isValid_62 : decode b_M_isValid 62 = .ok (.invokevirtual 76, 3) := by decide +kernel
theorem d_M_isValid_65 : decode b_M_isValid 65 = .ok (.aload_n 0, 1) := by decide +kernel
theorem d_M_isValid_66 : decode b_M_isValid 66 = .ok (.aload_n 0, 1) := by decide +kernel
theorem d_M_isValid_67 : decode b_M_isValid 67 = .ok (.iload_n 1, 1) := by decide +kernel
theorem d_M_isValid_68 : decode b_M_isValid 68 = .ok (.iconst 0, 1) := by decide +kernel
theorem d_M_isValid_69 : decode b_M_isValid 69 = .ok (.invokevirtual 139, 3) := by decide +kernel
theorem d_M_isValid_72 : decode b_M_isValid 72 = .ok (.iconst 2, 1) := by decide +kernel
theorem d_M_isValid_73 : decode b_M_isValid 73 = .ok (.invokevirtual 59, 3) := by decide +kernel
theorem d_M_isValid_76 : decode b_M_isValid 76 = .ok (.sipush 1440, 3) := by decide +kernel
theorem d_M_isValid_79 : decode b_M_isValid 79 = .ok (.idiv, 1) := by decide +kernel
theorem d_M_isValid_80 : decode b_M_isValid 80 = .ok (.iload 4, 2) := by decide +kernel
theorem d_M_isValid_82 : decode b_M_isValid 82 = .ok (.iadd, 1) := by decide +kernel
theorem d_M_isValid_83 : decode b_M_isValid 83 = .ok (.if_icmp .ge 7, 3) := by decide +kernel
theorem d_M_isValid_86 : decode b_M_isValid 86 = .ok (.iconst 1, 1) := by decide +kernel
theorem d_M_isValid_87 : decode b_M_isValid 87 = .ok (.goto 4, 3) := by decide +kernel
theorem d_M_isValid_90 : decode b_M_isValid 90 = .ok (.iconst 0, 1) := by decide +kernel
theorem d_M_isValid_91 : decode b_M_isValid 91 = .ok (.ireturn, 1) := by decide +kernel
theorem d_M_isValid_92 : decode b_M_isValid 92 = .ok (.aload_n 0, 1) := by decide +kernel
theorem d_M_isValid_93 : decode b_M_isValid 93 = .ok (.aload_n 0, 1) := by decide +kernel
theorem d_M_isValid_94 : decode b_M_isValid 94 = .ok (.iload_n 1, 1) := by decide +kernel
theorem d_M_isValid_95 : decode b_M_isValid 95 = .ok (.iload_n 2, 1) := by decide +kernel
theorem d_M_isValid_96 : decode b_M_isValid 96 = .ok (.iconst 1, 1) := by decide +kernel
theorem d_M_isValid_97 : decode b_M_isValid 97 = .ok (.isub, 1) := by decide +kernel
theorem d_M_isValid_98 : decode b_M_isValid 98 = .ok (.invokevirtual 139, 3) := by decide +kernel
theorem d_M_isValid_101 : decode b_M_isValid 101 = .ok (.iconst 2, 1) := by decide +kernel
theorem d_M_isValid_102 : decode b_M_isValid 102 = .ok (.invokevirtual 59, 3) := by decide +kernel
theorem d_M_isValid_105 : decode b_M_isValid 105 = .ok (.sipush 1440, 3) := by decide +kernel
theorem d_M_isValid_108 : decode b_M_isValid 108 = .ok (.idiv, 1) := by decide +kernel
theorem d_M_isValid_109 : decode b_M_isValid 109 = .ok (.aload_n 0, 1) := by decide +kernel
theorem d_M_isValid_110 : decode b_M_isValid 110 = .ok (.invokevirtual 76, 3) := by decide +kernel
theorem d_M_isValid_113 : decode b_M_isValid 113 = .ok (.if_icmp .eq 14, 3) := by decide +kernel
theorem d_M_isValid_116 : decode b_M_isValid 116 = .ok (.aload_n 0, 1) := by decide +kernel
theorem d_M_isValid_117 : decode b_M_isValid 117 = .ok (.iload_n 1, 1) := by decide +kernel
theorem d_M_isValid_118 : decode b_M_isValid 118 = .ok (.iconst 0, 1) := by decide +kernel
theorem d_M_isValid_119 : decode b_M_isValid 119 = .ok (.invokevirtual 142, 3) := by decide +kernel
theorem d_M_isValid_122 : decode b_M_isValid 122 = .ok (.iload 4, 2) := by decide +kernel
theorem d_M_isValid_124 : decode b_M_isValid 124 = .ok (.if_icmp .ge 7, 3) := by decide +kernel
theorem d_M_isValid_127 : decode b_M_isValid 127 = .ok (.iconst 1, 1) := by decide +kernel
theorem d_M_isValid_128 : decode b_M_isValid 128 = .ok (.goto 4, 3) := by decide +kernel
theorem d_M_isValid_131 : decode b_M_isValid 131 = .ok (.iconst 0, 1) := by decide +kernel
theorem d_M_isValid_132 : decode b_M_isValid 132 = .ok (.ireturn, 1) := by decide +kernel
theorem d_M_ridesOn_0 : decode b_M_ridesOn 0 = .ok (.iconst 0, 1) := by decide +kernel
theorem d_M_ridesOn_1 : decode b_M_ridesOn 1 = .ok (.istore_n 2, 1) := by decide +kernel
theorem d_M_ridesOn_2 : decode b_M_ridesOn 2 = .ok (.iconst 0, 1) := by decide +kernel
theorem d_M_ridesOn_3 : decode b_M_ridesOn 3 = .ok (.istore_n 3, 1) := by decide +kernel
theorem d_M_ridesOn_4 : decode b_M_ridesOn 4 = .ok (.iload_n 3, 1) := by decide +kernel
theorem d_M_ridesOn_5 : decode b_M_ridesOn 5 = .ok (.aload_n 0, 1) := by decide +kernel
theorem d_M_ridesOn_6 : decode b_M_ridesOn 6 = .ok (.getfield 9, 3) := by decide +kernel
theorem d_M_ridesOn_9 : decode b_M_ridesOn 9 = .ok (.iconst 4, 1) := by decide +kernel
theorem d_M_ridesOn_10 : decode b_M_ridesOn 10 = .ok (.iaload, 1) := by decide +kernel
theorem d_M_ridesOn_11 : decode b_M_ridesOn 11 = .ok (.if_icmp .ge 27, 3) := by decide +kernel
theorem d_M_ridesOn_14 : decode b_M_ridesOn 14 = .ok (.iload_n 2, 1) := by decide +kernel
theorem d_M_ridesOn_15 : decode b_M_ridesOn 15 = .ok (.aload_n 0, 1) := by decide +kernel
theorem d_M_ridesOn_16 : decode b_M_ridesOn 16 = .ok (.iload_n 3, 1) := by decide +kernel
theorem d_M_ridesOn_17 : decode b_M_ridesOn 17 = .ok (.iconst 0, 1) := by decide +kernel
theorem d_M_ridesOn_18 : decode b_M_ridesOn 18 = .ok (.invokevirtual 59, 3) := by decide +kernel
theorem d_M_ridesOn_21 : decode b_M_ridesOn 21 = .ok (.iload_n 1, 1) := by decide +kernel
theorem d_M_ridesOn_22 : decode b_M_ridesOn 22 = .ok (.if_icmp .ne 7, 3) := by decide +kernel
theorem d_M_ridesOn_25 : decode b_M_ridesOn 25 = .ok (.iconst 1, 1) := by decide +kernel
theorem d_M_ridesOn_26 : decode b_M_ridesOn 26 = .ok (.goto 4, 3) := by decide +kernel
theorem d_M_ridesOn_29 : decode b_M_ridesOn 29 = .ok (.iconst 0, 1) := by decide +kernel
theorem d_M_ridesOn_30 : decode b_M_ridesOn 30 = .ok (.iadd, 1) := by decide +kernel
theorem d_M_ridesOn_31 : decode b_M_ridesOn 31 = .ok (.istore_n 2, 1) := by decide +kernel
theorem d_M_ridesOn_32 : decode b_M_ridesOn 32 = .ok (.iinc 3 1, 3) := by decide +kernel
theorem d_M_ridesOn_35 : decode b_M_ridesOn 35 = .ok (.goto (-31), 3) := by decide +kernel
theorem d_M_ridesOn_38 : decode b_M_ridesOn 38 = .ok (.iload_n 2, 1) := by decide +kernel
theorem d_M_ridesOn_39 : decode b_M_ridesOn 39 = .ok (.ireturn, 1) := by decide +kernel
theorem d_M_rideAt_0 : decode b_M_rideAt 0 = .ok (.iconst 0, 1) := by decide +kernel
theorem d_M_rideAt_1 : decode b_M_rideAt 1 = .ok (.istore_n 3, 1) := by decide +kernel
theorem d_M_rideAt_2 : decode b_M_rideAt 2 = .ok (.iconst 0, 1) := by decide +kernel
theorem d_M_rideAt_3 : decode b_M_rideAt 3 = .ok (.istore 4, 2) := by decide +kernel
theorem d_M_rideAt_5 : decode b_M_rideAt 5 = .ok (.iload 4, 2) := by decide +kernel
theorem d_M_rideAt_7 : decode b_M_rideAt 7 = .ok (.aload_n 0, 1) := by decide +kernel
theorem d_M_rideAt_8 : decode b_M_rideAt 8 = .ok (.getfield 9, 3) := by decide +kernel
theorem d_M_rideAt_11 : decode b_M_rideAt 11 = .ok (.iconst 4, 1) := by decide +kernel
theorem d_M_rideAt_12 : decode b_M_rideAt 12 = .ok (.iaload, 1) := by decide +kernel
theorem d_M_rideAt_13 : decode b_M_rideAt 13 = .ok (.if_icmp .ge 31, 3) := by decide +kernel
theorem d_M_rideAt_16 : decode b_M_rideAt 16 = .ok (.aload_n 0, 1) := by decide +kernel
theorem d_M_rideAt_17 : decode b_M_rideAt 17 = .ok (.iload 4, 2) := by decide +kernel
theorem d_M_rideAt_19 : decode b_M_rideAt 19 = .ok (.iconst 0, 1) := by decide +kernel
theorem d_M_rideAt_20 : decode b_M_rideAt 20 = .ok (.invokevirtual 59, 3) := by decide +kernel
theorem d_M_rideAt_23 : decode b_M_rideAt 23 = .ok (.iload_n 1, 1) := by decide +kernel
theorem d_M_rideAt_24 : decode b_M_rideAt 24 = .ok (.if_icmp .ne 14, 3) := by decide +kernel
theorem d_M_rideAt_27 : decode b_M_rideAt 27 = .ok (.iload_n 3, 1) := by decide +kernel
theorem d_M_rideAt_28 : decode b_M_rideAt 28 = .ok (.iload_n 2, 1) := by decide +kernel
theorem d_M_rideAt_29 : decode b_M_rideAt 29 = .ok (.if_icmp .ne 6, 3) := by decide +kernel
theorem d_M_rideAt_32 : decode b_M_rideAt 32 = .ok (.iload 4, 2) := by decide +kernel
theorem d_M_rideAt_34 : decode b_M_rideAt 34 = .ok (.ireturn, 1) := by decide +kernel
theorem d_M_rideAt_35 : decode b_M_rideAt 35 = .ok (.iinc 3 1, 3) := by decide +kernel
theorem d_M_rideAt_38 : decode b_M_rideAt 38 = .ok (.iinc 4 1, 3) := by decide +kernel
theorem d_M_rideAt_41 : decode b_M_rideAt 41 = .ok (.goto (-36), 3) := by decide +kernel
theorem d_M_rideAt_44 : decode b_M_rideAt 44 = .ok (.iconst (-1), 1) := by decide +kernel
theorem d_M_rideAt_45 : decode b_M_rideAt 45 = .ok (.ireturn, 1) := by decide +kernel
theorem d_M_daysOf_0 : decode b_M_daysOf 0 = .ok (.iconst 0, 1) := by decide +kernel
theorem d_M_daysOf_1 : decode b_M_daysOf 1 = .ok (.istore_n 3, 1) := by decide +kernel
theorem d_M_daysOf_2 : decode b_M_daysOf 2 = .ok (.iconst 0, 1) := by decide +kernel
theorem d_M_daysOf_3 : decode b_M_daysOf 3 = .ok (.istore 4, 2) := by decide +kernel
theorem d_M_daysOf_5 : decode b_M_daysOf 5 = .ok (.iload 4, 2) := by decide +kernel
theorem d_M_daysOf_7 : decode b_M_daysOf 7 = .ok (.bipush 31, 2) := by decide +kernel
theorem d_M_daysOf_9 : decode b_M_daysOf 9 = .ok (.if_icmp .ge 103, 3) := by decide +kernel
theorem d_M_daysOf_12 : decode b_M_daysOf 12 = .ok (.iconst 0, 1) := by decide +kernel
theorem d_M_daysOf_13 : decode b_M_daysOf 13 = .ok (.istore 5, 2) := by decide +kernel
theorem d_M_daysOf_15 : decode b_M_daysOf 15 = .ok (.iconst 0, 1) := by decide +kernel
theorem d_M_daysOf_16 : decode b_M_daysOf 16 = .ok (.istore 6, 2) := by decide +kernel
theorem d_M_daysOf_18 : decode b_M_daysOf 18 = .ok (.iload 6, 2) := by decide +kernel
theorem d_M_daysOf_20 : decode b_M_daysOf 20 = .ok (.aload_n 0, 1) := by decide +kernel
theorem d_M_daysOf_21 : decode b_M_daysOf 21 = .ok (.getfield 9, 3) := by decide +kernel
theorem d_M_daysOf_24 : decode b_M_daysOf 24 = .ok (.iconst 4, 1) := by decide +kernel
theorem d_M_daysOf_25 : decode b_M_daysOf 25 = .ok (.iaload, 1) := by decide +kernel
theorem d_M_daysOf_26 : decode b_M_daysOf 26 = .ok (.if_icmp .ge 48, 3) := by decide +kernel
theorem d_M_daysOf_29 : decode b_M_daysOf 29 = .ok (.iload 5, 2) := by decide +kernel
theorem d_M_daysOf_31 : decode b_M_daysOf 31 = .ok (.ifCond .ne 30, 3) := by decide +kernel
theorem d_M_daysOf_34 : decode b_M_daysOf 34 = .ok (.aload_n 0, 1) := by decide +kernel
theorem d_M_daysOf_35 : decode b_M_daysOf 35 = .ok (.iload 6, 2) := by decide +kernel
theorem d_M_daysOf_37 : decode b_M_daysOf 37 = .ok (.iconst 0, 1) := by decide +kernel
theorem d_M_daysOf_38 : decode b_M_daysOf 38 = .ok (.invokevirtual 59, 3) := by decide +kernel
theorem d_M_daysOf_41 : decode b_M_daysOf 41 = .ok (.iload_n 1, 1) := by decide +kernel
theorem d_M_daysOf_42 : decode b_M_daysOf 42 = .ok (.if_icmp .ne 23, 3) := by decide +kernel
theorem d_M_daysOf_45 : decode b_M_daysOf 45 = .ok (.aload_n 0, 1) := by decide +kernel
theorem d_M_daysOf_46 : decode b_M_daysOf 46 = .ok (.iload 6, 2) := by decide +kernel
theorem d_M_daysOf_48 : decode b_M_daysOf 48 = .ok (.iconst 2, 1) := by decide +kernel
theorem d_M_daysOf_49 : decode b_M_daysOf 49 = .ok (.invokevirtual 59, 3) := by decide +kernel
theorem d_M_daysOf_52 : decode b_M_daysOf 52 = .ok (.sipush 1440, 3) := by decide +kernel
theorem d_M_daysOf_55 : decode b_M_daysOf 55 = .ok (.idiv, 1) := by decide +kernel
theorem d_M_daysOf_56 : decode b_M_daysOf 56 = .ok (.iload 4, 2) := by decide +kernel
theorem d_M_daysOf_58 : decode b_M_daysOf 58 = .ok (.if_icmp .ne 7, 3) := by decide +kernel
theorem d_M_daysOf_61 : decode b_M_daysOf 61 = .ok (.iconst 1, 1) := by decide +kernel
theorem d_M_daysOf_62 : decode b_M_daysOf 62 = .ok (.goto 4, 3) := by decide +kernel
theorem d_M_daysOf_65 : decode b_M_daysOf 65 = .ok (.iconst 0, 1) := by decide +kernel
theorem d_M_daysOf_66 : decode b_M_daysOf 66 = .ok (.istore 5, 2) := by decide +kernel
theorem d_M_daysOf_68 : decode b_M_daysOf 68 = .ok (.iinc 6 1, 3) := by decide +kernel
theorem d_M_daysOf_71 : decode b_M_daysOf 71 = .ok (.goto (-53), 3) := by decide +kernel
theorem d_M_daysOf_74 : decode b_M_daysOf 74 = .ok (.iload_n 3, 1) := by decide +kernel
theorem d_M_daysOf_75 : decode b_M_daysOf 75 = .ok (.iload 5, 2) := by decide +kernel
theorem d_M_daysOf_77 : decode b_M_daysOf 77 = .ok (.ifCond .eq 26, 3) := by decide +kernel
theorem d_M_daysOf_80 : decode b_M_daysOf 80 = .ok (.iload_n 2, 1) := by decide +kernel
theorem d_M_daysOf_81 : decode b_M_daysOf 81 = .ok (.ifCond .eq 18, 3) := by decide +kernel
theorem d_M_daysOf_84 : decode b_M_daysOf 84 = .ok (.aload_n 0, 1) := by decide +kernel
theorem d_M_daysOf_85 : decode b_M_daysOf 85 = .ok (.aload_n 0, 1) := by decide +kernel
theorem d_M_daysOf_86 : decode b_M_daysOf 86 = .ok (.iload_n 1, 1) := by decide +kernel
theorem d_M_daysOf_87 : decode b_M_daysOf 87 = .ok (.iconst 0, 1) := by decide +kernel
theorem d_M_daysOf_88 : decode b_M_daysOf 88 = .ok (.invokevirtual 90, 3) := by decide +kernel
theorem d_M_daysOf_91 : decode b_M_daysOf 91 = .ok (.iload 4, 2) := by decide +kernel
theorem d_M_daysOf_93 : decode b_M_daysOf 93 = .ok (.invokevirtual 123, 3) := by decide +kernel
theorem d_M_daysOf_96 : decode b_M_daysOf 96 = .ok (.ifCond .eq 7, 3) := by decide +kernel
theorem d_M_daysOf_99 : decode b_M_daysOf 99 = .ok (.iconst 1, 1) := by decide +kernel
theorem d_M_daysOf_100 : decode b_M_daysOf 100 = .ok (.goto 4, 3) := by decide +kernel
theorem d_M_daysOf_103 : decode b_M_daysOf 103 = .ok (.iconst 0, 1) := by decide +kernel
theorem d_M_daysOf_104 : decode b_M_daysOf 104 = .ok (.iadd, 1) := by decide +kernel
theorem d_M_daysOf_105 : decode b_M_daysOf 105 = .ok (.istore_n 3, 1) := by decide +kernel
theorem d_M_daysOf_106 : decode b_M_daysOf 106 = .ok (.iinc 4 1, 3) := by decide +kernel
theorem d_M_daysOf_109 : decode b_M_daysOf 109 = .ok (.goto (-104), 3) := by decide +kernel
theorem d_M_daysOf_112 : decode b_M_daysOf 112 = .ok (.iload_n 3, 1) := by decide +kernel
theorem d_M_daysOf_113 : decode b_M_daysOf 113 = .ok (.ireturn, 1) := by decide +kernel
theorem d_M_reason_0 : decode b_M_reason 0 = .ok (.aload_n 0, 1) := by decide +kernel
theorem d_M_reason_1 : decode b_M_reason 1 = .ok (.aload_n 0, 1) := by decide +kernel
theorem d_M_reason_2 : decode b_M_reason 2 = .ok (.iload_n 1, 1) := by decide +kernel
theorem d_M_reason_3 : decode b_M_reason 3 = .ok (.invokevirtual 148, 3) := by decide +kernel
theorem d_M_reason_6 : decode b_M_reason 6 = .ok (.ifCond .eq 15, 3) := by decide +kernel
theorem d_M_reason_9 : decode b_M_reason 9 = .ok (.aload_n 0, 1) := by decide +kernel
theorem d_M_reason_10 : decode b_M_reason 10 = .ok (.iload_n 2, 1) := by decide +kernel
theorem d_M_reason_11 : decode b_M_reason 11 = .ok (.invokevirtual 69, 3) := by decide +kernel
theorem d_M_reason_14 : decode b_M_reason 14 = .ok (.ifCond .eq 7, 3) := by decide +kernel
theorem d_M_reason_17 : decode b_M_reason 17 = .ok (.iconst 0, 1) := by decide +kernel
theorem d_M_reason_18 : decode b_M_reason 18 = .ok (.goto 4, 3) := by decide +kernel
theorem d_M_reason_21 : decode b_M_reason 21 = .ok (.iconst 1, 1) := by decide +kernel
theorem d_M_reason_22 : decode b_M_reason 22 = .ok (.putfield 33, 3) := by decide +kernel
theorem d_M_reason_25 : decode b_M_reason 25 = .ok (.aload_n 0, 1) := by decide +kernel
theorem d_M_reason_26 : decode b_M_reason 26 = .ok (.getfield 33, 3) := by decide +kernel
theorem d_M_reason_29 : decode b_M_reason 29 = .ok (.ifCond .ne 12, 3) := by decide +kernel
theorem d_M_reason_32 : decode b_M_reason 32 = .ok (.aload_n 0, 1) := by decide +kernel
theorem d_M_reason_33 : decode b_M_reason 33 = .ok (.iload_n 1, 1) := by decide +kernel
theorem d_M_reason_34 : decode b_M_reason 34 = .ok (.iload_n 2, 1) := by decide +kernel
theorem d_M_reason_35 : decode b_M_reason 35 = .ok (.invokevirtual 151, 3) := by decide +kernel
theorem d_M_reason_38 : decode b_M_reason 38 = .ok (.goto 4, 3) := by decide +kernel
theorem d_M_reason_41 : decode b_M_reason 41 = .ok (.iconst 0, 1) := by decide +kernel
theorem d_M_reason_42 : decode b_M_reason 42 = .ok (.ireturn, 1) := by decide +kernel
theorem d_M_openGates_0 : decode b_M_openGates 0 = .ok (.aload_n 0, 1) := by decide +kernel
theorem d_M_openGates_1 : decode b_M_openGates 1 = .ok (.aload_n 0, 1) := by decide +kernel
theorem d_M_openGates_2 : decode b_M_openGates 2 = .ok (.iload_n 1, 1) := by decide +kernel
theorem d_M_openGates_3 : decode b_M_openGates 3 = .ok (.invokevirtual 148, 3) := by decide +kernel
theorem d_M_openGates_6 : decode b_M_openGates 6 = .ok (.ifCond .eq 7, 3) := by decide +kernel
theorem d_M_openGates_9 : decode b_M_openGates 9 = .ok (.iconst 0, 1) := by decide +kernel
theorem d_M_openGates_10 : decode b_M_openGates 10 = .ok (.goto 4, 3) := by decide +kernel
theorem d_M_openGates_13 : decode b_M_openGates 13 = .ok (.iconst 1, 1) := by decide +kernel
theorem d_M_openGates_14 : decode b_M_openGates 14 = .ok (.putfield 33, 3) := by decide +kernel
theorem d_M_openGates_17 : decode b_M_openGates 17 = .ok (.iconst 0, 1) := by decide +kernel
theorem d_M_openGates_18 : decode b_M_openGates 18 = .ok (.istore_n 2, 1) := by decide +kernel
theorem d_M_openGates_19 : decode b_M_openGates 19 = .ok (.iconst 0, 1) := by decide +kernel
theorem d_M_openGates_20 : decode b_M_openGates 20 = .ok (.istore_n 3, 1) := by decide +kernel
theorem d_M_openGates_21 : decode b_M_openGates 21 = .ok (.iload_n 3, 1) := by decide +kernel
theorem d_M_openGates_22 : decode b_M_openGates 22 = .ok (.aload_n 0, 1) := by decide +kernel
theorem d_M_openGates_23 : decode b_M_openGates 23 = .ok (.getfield 9, 3) := by decide +kernel
theorem d_M_openGates_26 : decode b_M_openGates 26 = .ok (.iconst 1, 1) := by decide +kernel
theorem d_M_openGates_27 : decode b_M_openGates 27 = .ok (.iaload, 1) := by decide +kernel
theorem d_M_openGates_28 : decode b_M_openGates 28 = .ok (.if_icmp .ge 35, 3) := by decide +kernel
theorem d_M_openGates_31 : decode b_M_openGates 31 = .ok (.aload_n 0, 1) := by decide +kernel
theorem d_M_openGates_32 : decode b_M_openGates 32 = .ok (.getfield 33, 3) := by decide +kernel
theorem d_M_openGates_35 : decode b_M_openGates 35 = .ok (.ifCond .ne 28, 3) := by decide +kernel
theorem d_M_openGates_38 : decode b_M_openGates 38 = .ok (.iload_n 2, 1) := by decide +kernel
theorem d_M_openGates_39 : decode b_M_openGates 39 = .ok (.aload_n 0, 1) := by decide +kernel
theorem d_M_openGates_40 : decode b_M_openGates 40 = .ok (.iload_n 1, 1) := by decide +kernel
theorem d_M_openGates_41 : decode b_M_openGates 41 = .ok (.iload_n 3, 1) := by decide +kernel
theorem d_M_openGates_42 : decode b_M_openGates 42 = .ok (.invokevirtual 151, 3) := by decide +kernel
theorem d_M_openGates_45 : decode b_M_openGates 45 = .ok (.ifCond .ne 9, 3) := by decide +kernel
theorem d_M_openGates_48 : decode b_M_openGates 48 = .ok (.iconst 1, 1) := by decide +kernel
theorem d_M_openGates_49 : decode b_M_openGates 49 = .ok (.iload_n 3, 1) := by decide +kernel
theorem d_M_openGates_50 : decode b_M_openGates 50 = .ok (.ishl, 1) := by decide +kernel
theorem d_M_openGates_51 : decode b_M_openGates 51 = .ok (.goto 4, 3) := by decide +kernel
theorem d_M_openGates_54 : decode b_M_openGates 54 = .ok (.iconst 0, 1) := by decide +kernel
theorem d_M_openGates_55 : decode b_M_openGates 55 = .ok (.ior, 1) := by decide +kernel
theorem d_M_openGates_56 : decode b_M_openGates 56 = .ok (.istore_n 2, 1) := by decide +kernel
theorem d_M_openGates_57 : decode b_M_openGates 57 = .ok (.iinc 3 1, 3) := by decide +kernel
theorem d_M_openGates_60 : decode b_M_openGates 60 = .ok (.goto (-39), 3) := by decide +kernel
theorem d_M_openGates_63 : decode b_M_openGates 63 = .ok (.iload_n 2, 1) := by decide +kernel
theorem d_M_openGates_64 : decode b_M_openGates 64 = .ok (.ireturn, 1) := by decide +kernel
theorem d_M_refusal_0 : decode b_M_refusal 0 = .ok (.aload_n 0, 1) := by decide +kernel
theorem d_M_refusal_1 : decode b_M_refusal 1 = .ok (.iconst 0, 1) := by decide +kernel
theorem d_M_refusal_2 : decode b_M_refusal 2 = .ok (.putfield 33, 3) := by decide +kernel
theorem d_M_refusal_5 : decode b_M_refusal 5 = .ok (.aload_n 0, 1) := by decide +kernel
theorem d_M_refusal_6 : decode b_M_refusal 6 = .ok (.getfield 49, 3) := by decide +kernel
theorem d_M_refusal_9 : decode b_M_refusal 9 = .ok (.ifCond .ne 9, 3) := by decide +kernel
theorem d_M_refusal_12 : decode b_M_refusal 12 = .ok (.aload_n 0, 1) := by decide +kernel
theorem d_M_refusal_13 : decode b_M_refusal 13 = .ok (.iconst 1, 1) := by decide +kernel
theorem d_M_refusal_14 : decode b_M_refusal 14 = .ok (.invokevirtual 52, 3) := by decide +kernel
theorem d_M_refusal_17 : decode b_M_refusal 17 = .ok (.ireturn, 1) := by decide +kernel
theorem d_M_refusal_18 : decode b_M_refusal 18 = .ok (.aload_n 0, 1) := by decide +kernel
theorem d_M_refusal_19 : decode b_M_refusal 19 = .ok (.getfield 49, 3) := by decide +kernel
theorem d_M_refusal_22 : decode b_M_refusal 22 = .ok (.bipush 11, 2) := by decide +kernel
theorem d_M_refusal_24 : decode b_M_refusal 24 = .ok (.if_icmp .ne 7, 3) := by decide +kernel
theorem d_M_refusal_27 : decode b_M_refusal 27 = .ok (.iconst 2, 1) := by decide +kernel
theorem d_M_refusal_28 : decode b_M_refusal 28 = .ok (.goto 17, 3) := by decide +kernel
theorem d_M_refusal_31 : decode b_M_refusal 31 = .ok (.aload_n 0, 1) := by decide +kernel
theorem d_M_refusal_32 : decode b_M_refusal 32 = .ok (.getfield 49, 3) := by decide +kernel
theorem d_M_refusal_35 : decode b_M_refusal 35 = .ok (.bipush 30, 2) := by decide +kernel
theorem d_M_refusal_37 : decode b_M_refusal 37 = .ok (.if_icmp .ge 7, 3) := by decide +kernel
theorem d_M_refusal_40 : decode b_M_refusal 40 = .ok (.iconst 3, 1) := by decide +kernel
theorem d_M_refusal_41 : decode b_M_refusal 41 = .ok (.goto 4, 3) := by decide +kernel
theorem d_M_refusal_44 : decode b_M_refusal 44 = .ok (.iconst 4, 1) := by decide +kernel
theorem d_M_refusal_45 : decode b_M_refusal 45 = .ok (.istore_n 2, 1) := by decide +kernel
theorem d_M_refusal_46 : decode b_M_refusal 46 = .ok (.iload_n 1, 1) := by decide +kernel
theorem d_M_refusal_47 : decode b_M_refusal 47 = .ok (.iconst 0, 1) := by decide +kernel
theorem d_M_refusal_48 : decode b_M_refusal 48 = .ok (.iload_n 2, 1) := by decide +kernel
theorem d_M_refusal_49 : decode b_M_refusal 49 = .ok (.iconst 1, 1) := by decide +kernel
theorem d_M_refusal_50 : decode b_M_refusal 50 = .ok (.isub, 1) := by decide +kernel
theorem d_M_refusal_51 : decode b_M_refusal 51 = .ok (.invokestatic 45, 3) := by decide +kernel
theorem d_M_refusal_54 : decode b_M_refusal 54 = .ok (.ifCond .ne 9, 3) := by decide +kernel
theorem d_M_refusal_57 : decode b_M_refusal 57 = .ok (.aload_n 0, 1) := by decide +kernel
theorem d_M_refusal_58 : decode b_M_refusal 58 = .ok (.iconst 2, 1) := by decide +kernel
theorem d_M_refusal_59 : decode b_M_refusal 59 = .ok (.invokevirtual 52, 3) := by decide +kernel
theorem d_M_refusal_62 : decode b_M_refusal 62 = .ok (.ireturn, 1) := by decide +kernel
theorem d_M_refusal_63 : decode b_M_refusal 63 = .ok (.iload_n 1, 1) := by decide +kernel
theorem d_M_refusal_64 : decode b_M_refusal 64 = .ok (.iload_n 2, 1) := by decide +kernel
theorem d_M_refusal_65 : decode b_M_refusal 65 = .ok (.iconst 1, 1) := by decide +kernel
theorem d_M_refusal_66 : decode b_M_refusal 66 = .ok (.isub, 1) := by decide +kernel
theorem d_M_refusal_67 : decode b_M_refusal 67 = .ok (.if_icmp .ne 8, 3) := by decide +kernel
theorem d_M_refusal_70 : decode b_M_refusal 70 = .ok (.aload_n 0, 1) := by decide +kernel
theorem d_M_refusal_71 : decode b_M_refusal 71 = .ok (.getfield 49, 3) := by decide +kernel
theorem d_M_refusal_74 : decode b_M_refusal 74 = .ok (.ireturn, 1) := by decide +kernel
theorem d_M_refusal_75 : decode b_M_refusal 75 = .ok (.iload_n 1, 1) := by decide +kernel
theorem d_M_refusal_76 : decode b_M_refusal 76 = .ok (.iconst 2, 1) := by decide +kernel
theorem d_M_refusal_77 : decode b_M_refusal 77 = .ok (.if_icmp .ge 9, 3) := by decide +kernel
theorem d_M_refusal_80 : decode b_M_refusal 80 = .ok (.iload_n 1, 1) := by decide +kernel
theorem d_M_refusal_81 : decode b_M_refusal 81 = .ok (.iconst 1, 1) := by decide +kernel
theorem d_M_refusal_82 : decode b_M_refusal 82 = .ok (.iadd, 1) := by decide +kernel
theorem d_M_refusal_83 : decode b_M_refusal 83 = .ok (.goto 17, 3) := by decide +kernel
theorem d_M_refusal_86 : decode b_M_refusal 86 = .ok (.aload_n 0, 1) := by decide +kernel
theorem d_M_refusal_87 : decode b_M_refusal 87 = .ok (.getfield 49, 3) := by decide +kernel
theorem d_M_refusal_90 : decode b_M_refusal 90 = .ok (.bipush 40, 2) := by decide +kernel
theorem d_M_refusal_92 : decode b_M_refusal 92 = .ok (.if_icmp .ge 7, 3) := by decide +kernel
theorem d_M_refusal_95 : decode b_M_refusal 95 = .ok (.iconst 3, 1) := by decide +kernel
theorem d_M_refusal_96 : decode b_M_refusal 96 = .ok (.goto 4, 3) := by decide +kernel
theorem d_M_refusal_99 : decode b_M_refusal 99 = .ok (.iconst 4, 1) := by decide +kernel
theorem d_M_refusal_100 : decode b_M_refusal 100 = .ok (.ireturn, 1) := by decide +kernel
theorem d_M_block_0 : decode b_M_block 0 = .ok (.aload_n 0, 1) := by decide +kernel
theorem d_M_block_1 : decode b_M_block 1 = .ok (.aload_n 0, 1) := by decide +kernel
theorem d_M_block_2 : decode b_M_block 2 = .ok (.iload_n 1, 1) := by decide +kernel
theorem d_M_block_3 : decode b_M_block 3 = .ok (.invokevirtual 157, 3) := by decide +kernel
theorem d_M_block_6 : decode b_M_block 6 = .ok (.putfield 33, 3) := by decide +kernel
theorem d_M_block_9 : decode b_M_block 9 = .ok (.aload_n 0, 1) := by decide +kernel
theorem d_M_block_10 : decode b_M_block 10 = .ok (.getfield 33, 3) := by decide +kernel
theorem d_M_block_13 : decode b_M_block 13 = .ok (.ifCond .eq 5, 3) := by decide +kernel
theorem d_M_block_16 : decode b_M_block 16 = .ok (.iconst 0, 1) := by decide +kernel
theorem d_M_block_17 : decode b_M_block 17 = .ok (.ireturn, 1) := by decide +kernel
theorem d_M_block_18 : decode b_M_block 18 = .ok (.aload_n 0, 1) := by decide +kernel
theorem d_M_block_19 : decode b_M_block 19 = .ok (.iload_n 1, 1) := by decide +kernel
theorem d_M_block_20 : decode b_M_block 20 = .ok (.iconst 1, 1) := by decide +kernel
theorem d_M_block_21 : decode b_M_block 21 = .ok (.invokevirtual 90, 3) := by decide +kernel
theorem d_M_block_24 : decode b_M_block 24 = .ok (.istore_n 3, 1) := by decide +kernel
theorem d_M_block_25 : decode b_M_block 25 = .ok (.aload_n 0, 1) := by decide +kernel
theorem d_M_block_26 : decode b_M_block 26 = .ok (.invokevirtual 56, 3) := by decide +kernel
theorem d_M_block_29 : decode b_M_block 29 = .ok (.aload_n 0, 1) := by decide +kernel
theorem d_M_block_30 : decode b_M_block 30 = .ok (.iload_n 1, 1) := by decide +kernel
theorem d_M_block_31 : decode b_M_block 31 = .ok (.iconst 1, 1) := by decide +kernel
theorem d_M_block_32 : decode b_M_block 32 = .ok (.iload_n 2, 1) := by decide +kernel
theorem d_M_block_33 : decode b_M_block 33 = .ok (.ifCond .eq 7, 3) := by decide +kernel
theorem d_M_block_36 : decode b_M_block 36 = .ok (.iconst 1, 1) := by decide +kernel
theorem d_M_block_37 : decode b_M_block 37 = .ok (.goto 4, 3) := by decide +kernel
theorem d_M_block_40 : decode b_M_block 40 = .ok (.iconst 0, 1) := by decide +kernel
theorem d_M_block_41 : decode b_M_block 41 = .ok (.invokevirtual 126, 3) := by decide +kernel
theorem d_M_block_44 : decode b_M_block 44 = .ok (.iload_n 3, 1) := by decide +kernel
theorem d_M_block_45 : decode b_M_block 45 = .ok (.ireturn, 1) := by decide +kernel
theorem d_M_stateProblem_0 : decode b_M_stateProblem 0 = .ok (.aload_n 0, 1) := by decide +kernel
theorem d_M_stateProblem_1 : decode b_M_stateProblem 1 = .ok (.iload_n 1, 1) := by decide +kernel
theorem d_M_stateProblem_2 : decode b_M_stateProblem 2 = .ok (.invokevirtual 148, 3) := by decide +kernel
theorem d_M_stateProblem_5 : decode b_M_stateProblem 5 = .ok (.ifCond .ne 7, 3) := by decide +kernel
theorem d_M_stateProblem_8 : decode b_M_stateProblem 8 = .ok (.iconst 1, 1) := by decide +kernel
theorem d_M_stateProblem_9 : decode b_M_stateProblem 9 = .ok (.goto 16, 3) := by decide +kernel
theorem d_M_stateProblem_12 : decode b_M_stateProblem 12 = .ok (.aload_n 0, 1) := by decide +kernel
theorem d_M_stateProblem_13 : decode b_M_stateProblem 13 = .ok (.iload_n 1, 1) := by decide +kernel
theorem d_M_stateProblem_14 : decode b_M_stateProblem 14 = .ok (.invokevirtual 154, 3) := by decide +kernel
theorem d_M_stateProblem_17 : decode b_M_stateProblem 17 = .ok (.ifCond .eq 7, 3) := by decide +kernel
theorem d_M_stateProblem_20 : decode b_M_stateProblem 20 = .ok (.iconst 2, 1) := by decide +kernel
theorem d_M_stateProblem_21 : decode b_M_stateProblem 21 = .ok (.goto 4, 3) := by decide +kernel
theorem d_M_stateProblem_24 : decode b_M_stateProblem 24 = .ok (.iconst 0, 1) := by decide +kernel
theorem d_M_stateProblem_25 : decode b_M_stateProblem 25 = .ok (.ireturn, 1) := by decide +kernel
theorem d_M_isGone_0 : decode b_M_isGone 0 = .ok (.aload_n 0, 1) := by decide +kernel
theorem d_M_isGone_1 : decode b_M_isGone 1 = .ok (.iload_n 1, 1) := by decide +kernel
theorem d_M_isGone_2 : decode b_M_isGone 2 = .ok (.iconst 1, 1) := by decide +kernel
theorem d_M_isGone_3 : decode b_M_isGone 3 = .ok (.invokevirtual 90, 3) := by decide +kernel
theorem d_M_isGone_6 : decode b_M_isGone 6 = .ok (.iconst 1, 1) := by decide +kernel
theorem d_M_isGone_7 : decode b_M_isGone 7 = .ok (.if_icmp .le 7, 3) := by decide +kernel
theorem d_M_isGone_10 : decode b_M_isGone 10 = .ok (.iconst 1, 1) := by decide +kernel
theorem d_M_isGone_11 : decode b_M_isGone 11 = .ok (.goto 4, 3) := by decide +kernel
theorem d_M_isGone_14 : decode b_M_isGone 14 = .ok (.iconst 0, 1) := by decide +kernel
theorem d_M_isGone_15 : decode b_M_isGone 15 = .ok (.ireturn, 1) := by decide +kernel
theorem d_M_replace_0 : decode b_M_replace 0 = .ok (.aload_n 0, 1) := by decide +kernel
theorem d_M_replace_1 : decode b_M_replace 1 = .ok (.aload_n 0, 1) := by decide +kernel
theorem d_M_replace_2 : decode b_M_replace 2 = .ok (.iload_n 1, 1) := by decide +kernel
theorem d_M_replace_3 : decode b_M_replace 3 = .ok (.invokevirtual 160, 3) := by decide +kernel
theorem d_M_replace_6 : decode b_M_replace 6 = .ok (.putfield 33, 3) := by decide +kernel
theorem d_M_replace_9 : decode b_M_replace 9 = .ok (.aload_n 0, 1) := by decide +kernel
theorem d_M_replace_10 : decode b_M_replace 10 = .ok (.getfield 33, 3) := by decide +kernel
theorem d_M_replace_13 : decode b_M_replace 13 = .ok (.ifCond .eq 5, 3) := by decide +kernel
theorem d_M_replace_16 : decode b_M_replace 16 = .ok (.iconst 0, 1) := by decide +kernel
theorem d_M_replace_17 : decode b_M_replace 17 = .ok (.ireturn, 1) := by decide +kernel
theorem d_M_replace_18 : decode b_M_replace 18 = .ok (.aload_n 0, 1) := by decide +kernel
theorem d_M_replace_19 : decode b_M_replace 19 = .ok (.invokevirtual 56, 3) := by decide +kernel
theorem d_M_replace_22 : decode b_M_replace 22 = .ok (.aload_n 0, 1) := by decide +kernel
theorem d_M_replace_23 : decode b_M_replace 23 = .ok (.iload_n 1, 1) := by decide +kernel
theorem d_M_replace_24 : decode b_M_replace 24 = .ok (.invokevirtual 163, 3) := by decide +kernel
theorem d_M_replace_27 : decode b_M_replace 27 = .ok (.ireturn, 1) := by decide +kernel
theorem d_M_replaceProblem_0 : decode b_M_replaceProblem 0 = .ok (.aload_n 0, 1) := by decide +kernel
theorem d_M_replaceProblem_1 : decode b_M_replaceProblem 1 = .ok (.iload_n 1, 1) := by decide +kernel
theorem d_M_replaceProblem_2 : decode b_M_replaceProblem 2 = .ok (.invokevirtual 157, 3) := by decide +kernel
theorem d_M_replaceProblem_5 : decode b_M_replaceProblem 5 = .ok (.istore_n 2, 1) := by decide +kernel
theorem d_M_replaceProblem_6 : decode b_M_replaceProblem 6 = .ok (.iload_n 2, 1) := by decide +kernel
theorem d_M_replaceProblem_7 : decode b_M_replaceProblem 7 = .ok (.ifCond .ne 18, 3) := by decide +kernel
theorem d_M_replaceProblem_10 : decode b_M_replaceProblem 10 = .ok (.aload_n 0, 1) := by decide +kernel
theorem d_M_replaceProblem_11 : decode b_M_replaceProblem 11 = .ok (.getfield 9, 3) := by decide +kernel
theorem d_M_replaceProblem_14 : decode b_M_replaceProblem 14 = .ok (.iconst 3, 1) := by decide +kernel
theorem d_M_replaceProblem_15 : decode b_M_replaceProblem 15 = .ok (.iaload, 1) := by decide +kernel
theorem d_M_replaceProblem_16 : decode b_M_replaceProblem 16 = .ok (.bipush 20, 2) := by decide +kernel
theorem d_M_replaceProblem_18 : decode b_M_replaceProblem 18 = .ok (.if_icmp .ne 7, 3) := by decide +kernel
theorem d_M_replaceProblem_21 : decode b_M_replaceProblem 21 = .ok (.iconst 2, 1) := by decide +kernel
theorem d_M_replaceProblem_22 : decode b_M_replaceProblem 22 = .ok (.goto 4, 3) := by decide +kernel
theorem d_M_replaceProblem_25 : decode b_M_replaceProblem 25 = .ok (.iload_n 2, 1) := by decide +kernel
theorem d_M_replaceProblem_26 : decode b_M_replaceProblem 26 = .ok (.ireturn, 1) := by decide +kernel
theorem d_M_replaces_0 : decode b_M_replaces 0 = .ok (.aload_n 0, 1) := by decide +kernel
theorem d_M_replaces_1 : decode b_M_replaces 1 = .ok (.aload_n 0, 1) := by decide +kernel
theorem d_M_replaces_2 : decode b_M_replaces 2 = .ok (.iload_n 1, 1) := by decide +kernel
theorem d_M_replaces_3 : decode b_M_replaces 3 = .ok (.iconst 0, 1) := by decide +kernel
theorem d_M_replaces_4 : decode b_M_replaces 4 = .ok (.invokevirtual 90, 3) := by decide +kernel
theorem d_M_replaces_7 : decode b_M_replaces 7 = .ok (.aload_n 0, 1) := by decide +kernel
theorem d_M_replaces_8 : decode b_M_replaces 8 = .ok (.iload_n 1, 1) := by decide +kernel
theorem d_M_replaces_9 : decode b_M_replaces 9 = .ok (.iconst 4, 1) := by decide +kernel
theorem d_M_replaces_10 : decode b_M_replaces 10 = .ok (.invokevirtual 90, 3) := by decide +kernel
theorem d_M_replaces_13 : decode b_M_replaces 13 = .ok (.invokevirtual 133, 3) := by decide +kernel
theorem d_M_replaces_16 : decode b_M_replaces 16 = .ok (.istore_n 2, 1) := by decide +kernel
theorem d_M_replaces_17 : decode b_M_replaces 17 = .ok (.aload_n 0, 1) := by decide +kernel
theorem d_M_replaces_18 : decode b_M_replaces 18 = .ok (.iload_n 1, 1) := by decide +kernel
theorem d_M_replaces_19 : decode b_M_replaces 19 = .ok (.iconst 1, 1) := by decide +kernel
theorem d_M_replaces_20 : decode b_M_replaces 20 = .ok (.iconst 2, 1) := by decide +kernel
theorem d_M_replaces_21 : decode b_M_replaces 21 = .ok (.invokevirtual 126, 3) := by decide +kernel
theorem d_M_replaces_24 : decode b_M_replaces 24 = .ok (.aload_n 0, 1) := by decide +kernel
theorem d_M_replaces_25 : decode b_M_replaces 25 = .ok (.iload_n 1, 1) := by decide +kernel
theorem d_M_replaces_26 : decode b_M_replaces 26 = .ok (.iconst 2, 1) := by decide +kernel
theorem d_M_replaces_27 : decode b_M_replaces 27 = .ok (.iload_n 2, 1) := by decide +kernel
theorem d_M_replaces_28 : decode b_M_replaces 28 = .ok (.invokevirtual 126, 3) := by decide +kernel
theorem d_M_replaces_31 : decode b_M_replaces 31 = .ok (.aload_n 0, 1) := by decide +kernel
theorem d_M_replaces_32 : decode b_M_replaces 32 = .ok (.iload_n 1, 1) := by decide +kernel
theorem d_M_replaces_33 : decode b_M_replaces 33 = .ok (.iconst 4, 1) := by decide +kernel
theorem d_M_replaces_34 : decode b_M_replaces 34 = .ok (.iconst 0, 1) := by decide +kernel
theorem d_M_replaces_35 : decode b_M_replaces 35 = .ok (.invokevirtual 126, 3) := by decide +kernel
theorem d_M_replaces_38 : decode b_M_replaces 38 = .ok (.iconst 0, 1) := by decide +kernel
theorem d_M_replaces_39 : decode b_M_replaces 39 = .ok (.istore_n 3, 1) := by decide +kernel
theorem d_M_replaces_40 : decode b_M_replaces 40 = .ok (.iload_n 3, 1) := by decide +kernel
theorem d_M_replaces_41 : decode b_M_replaces 41 = .ok (.aload_n 0, 1) := by decide +kernel
theorem d_M_replaces_42 : decode b_M_replaces 42 = .ok (.getfield 9, 3) := by decide +kernel
theorem d_M_replaces_45 : decode b_M_replaces 45 = .ok (.iconst 4, 1) := by decide +kernel
theorem d_M_replaces_46 : decode b_M_replaces 46 = .ok (.iaload, 1) := by decide +kernel
theorem d_M_replaces_47 : decode b_M_replaces 47 = .ok (.if_icmp .ge 32, 3) := by decide +kernel
theorem d_M_replaces_50 : decode b_M_replaces 50 = .ok (.aload_n 0, 1) := by decide +kernel
theorem d_M_replaces_51 : decode b_M_replaces 51 = .ok (.iload_n 3, 1) := by decide +kernel
theorem d_M_replaces_52 : decode b_M_replaces 52 = .ok (.iconst 0, 1) := by decide +kernel
theorem d_M_replaces_53 : decode b_M_replaces 53 = .ok (.invokevirtual 59, 3) := by decide +kernel
theorem d_M_replaces_56 : decode b_M_replaces 56 = .ok (.iload_n 1, 1) := by decide +kernel
theorem d_M_replaces_57 : decode b_M_replaces 57 = .ok (.if_icmp .ne 16, 3) := by decide +kernel
theorem d_M_replaces_60 : decode b_M_replaces 60 = .ok (.aload_n 0, 1) := by decide +kernel
theorem d_M_replaces_61 : decode b_M_replaces 61 = .ok (.getfield 9, 3) := by decide +kernel
theorem d_M_replaces_64 : decode b_M_replaces 64 = .ok (.sipush 561, 3) := by decide +kernel
theorem d_M_replaces_67 : decode b_M_replaces 67 = .ok (.iconst 3, 1) := by decide +kernel
theorem d_M_replaces_68 : decode b_M_replaces 68 = .ok (.iload_n 3, 1) := by decide +kernel
theorem d_M_replaces_69 : decode b_M_replaces 69 = .ok (.imul, 1) := by decide +kernel
theorem d_M_replaces_70 : decode b_M_replaces 70 = .ok (.iadd, 1) := by decide +kernel
theorem d_M_replaces_71 : decode b_M_replaces 71 = .ok (.iload_n 2, 1) := by decide +kernel
theorem d_M_replaces_72 : decode b_M_replaces 72 = .ok (.iastore, 1) := by decide +kernel
theorem d_M_replaces_73 : decode b_M_replaces 73 = .ok (.iinc 3 1, 3) := by decide +kernel
theorem d_M_replaces_76 : decode b_M_replaces 76 = .ok (.goto (-36), 3) := by decide +kernel
theorem d_M_replaces_79 : decode b_M_replaces 79 = .ok (.iload_n 2, 1) := by decide +kernel
theorem d_M_replaces_80 : decode b_M_replaces 80 = .ok (.ireturn, 1) := by decide +kernel
theorem d_M_card_0 : decode b_M_card 0 = .ok (.aload_n 0, 1) := by decide +kernel
theorem d_M_card_1 : decode b_M_card 1 = .ok (.iconst 0, 1) := by decide +kernel
theorem d_M_card_2 : decode b_M_card 2 = .ok (.putfield 33, 3) := by decide +kernel
theorem d_M_card_5 : decode b_M_card 5 = .ok (.aload_n 0, 1) := by decide +kernel
theorem d_M_card_6 : decode b_M_card 6 = .ok (.iload_n 1, 1) := by decide +kernel
theorem d_M_card_7 : decode b_M_card 7 = .ok (.invokevirtual 148, 3) := by decide +kernel
theorem d_M_card_10 : decode b_M_card 10 = .ok (.ifCond .ne 9, 3) := by decide +kernel
theorem d_M_card_13 : decode b_M_card 13 = .ok (.aload_n 0, 1) := by decide +kernel
theorem d_M_card_14 : decode b_M_card 14 = .ok (.iconst 1, 1) := by decide +kernel
theorem d_M_card_15 : decode b_M_card 15 = .ok (.invokevirtual 52, 3) := by decide +kernel
theorem d_M_card_18 : decode b_M_card 18 = .ok (.ireturn, 1) := by decide +kernel
theorem d_M_card_19 : decode b_M_card 19 = .ok (.iload_n 2, 1) := by decide +kernel
theorem d_M_card_20 : decode b_M_card 20 = .ok (.tableswitch 116 0 8 #[52, 63, 70, 76, 83, 90, 96, 103, 110], 52) := by decide +kernel
theorem d_M_card_72 : decode b_M_card 72 = .ok (.aload_n 0, 1) := by decide +kernel
theorem d_M_card_73 : decode b_M_card 73 = .ok (.aload_n 0, 1) := by decide +kernel
theorem d_M_card_74 : decode b_M_card 74 = .ok (.iload_n 1, 1) := by decide +kernel
theorem d_M_card_75 : decode b_M_card 75 = .ok (.invokevirtual 166, 3) := by decide +kernel
theorem d_M_card_78 : decode b_M_card 78 = .ok (.iconst 0, 1) := by decide +kernel
theorem d_M_card_79 : decode b_M_card 79 = .ok (.invokevirtual 90, 3) := by decide +kernel
theorem d_M_card_82 : decode b_M_card 82 = .ok (.ireturn, 1) := by decide +kernel
theorem d_M_card_83 : decode b_M_card 83 = .ok (.aload_n 0, 1) := by decide +kernel
theorem d_M_card_84 : decode b_M_card 84 = .ok (.iload_n 1, 1) := by decide +kernel
theorem d_M_card_85 : decode b_M_card 85 = .ok (.iconst 1, 1) := by decide +kernel
theorem d_M_card_86 : decode b_M_card 86 = .ok (.invokevirtual 90, 3) := by decide +kernel
theorem d_M_card_89 : decode b_M_card 89 = .ok (.ireturn, 1) := by decide +kernel
theorem d_M_card_90 : decode b_M_card 90 = .ok (.aload_n 0, 1) := by decide +kernel
theorem d_M_card_91 : decode b_M_card 91 = .ok (.iload_n 1, 1) := by decide +kernel
theorem d_M_card_92 : decode b_M_card 92 = .ok (.invokevirtual 136, 3) := by decide +kernel
theorem d_M_card_95 : decode b_M_card 95 = .ok (.ireturn, 1) := by decide +kernel
theorem d_M_card_96 : decode b_M_card 96 = .ok (.aload_n 0, 1) := by decide +kernel
theorem d_M_card_97 : decode b_M_card 97 = .ok (.iload_n 1, 1) := by decide +kernel
theorem d_M_card_98 : decode b_M_card 98 = .ok (.iconst 0, 1) := by decide +kernel
theorem d_M_card_99 : decode b_M_card 99 = .ok (.invokevirtual 142, 3) := by decide +kernel
theorem d_M_card_102 : decode b_M_card 102 = .ok (.ireturn, 1) := by decide +kernel
theorem d_M_card_103 : decode b_M_card 103 = .ok (.aload_n 0, 1) := by decide +kernel
theorem d_M_card_104 : decode b_M_card 104 = .ok (.iload_n 1, 1) := by decide +kernel
theorem d_M_card_105 : decode b_M_card 105 = .ok (.iconst 2, 1) := by decide +kernel
theorem d_M_card_106 : decode b_M_card 106 = .ok (.invokevirtual 90, 3) := by decide +kernel
theorem d_M_card_109 : decode b_M_card 109 = .ok (.ireturn, 1) := by decide +kernel
theorem d_M_card_110 : decode b_M_card 110 = .ok (.aload_n 0, 1) := by decide +kernel
theorem d_M_card_111 : decode b_M_card 111 = .ok (.iload_n 1, 1) := by decide +kernel
theorem d_M_card_112 : decode b_M_card 112 = .ok (.invokevirtual 166, 3) := by decide +kernel
theorem d_M_card_115 : decode b_M_card 115 = .ok (.ireturn, 1) := by decide +kernel
theorem d_M_card_116 : decode b_M_card 116 = .ok (.aload_n 0, 1) := by decide +kernel
theorem d_M_card_117 : decode b_M_card 117 = .ok (.iload_n 1, 1) := by decide +kernel
theorem d_M_card_118 : decode b_M_card 118 = .ok (.iconst 4, 1) := by decide +kernel
theorem d_M_card_119 : decode b_M_card 119 = .ok (.invokevirtual 90, 3) := by decide +kernel
theorem d_M_card_122 : decode b_M_card 122 = .ok (.ireturn, 1) := by decide +kernel
theorem d_M_card_123 : decode b_M_card 123 = .ok (.aload_n 0, 1) := by decide +kernel
theorem d_M_card_124 : decode b_M_card 124 = .ok (.iload_n 1, 1) := by decide +kernel
theorem d_M_card_125 : decode b_M_card 125 = .ok (.iconst 3, 1) := by decide +kernel
theorem d_M_card_126 : decode b_M_card 126 = .ok (.invokevirtual 90, 3) := by decide +kernel
theorem d_M_card_129 : decode b_M_card 129 = .ok (.ireturn, 1) := by decide +kernel
theorem d_M_card_130 : decode b_M_card 130 = .ok (.aload_n 0, 1) := by decide +kernel
theorem d_M_card_131 : decode b_M_card 131 = .ok (.iload_n 1, 1) := by decide +kernel
theorem d_M_card_132 : decode b_M_card 132 = .ok (.invokevirtual 169, 3) := by decide +kernel
theorem d_M_card_135 : decode b_M_card 135 = .ok (.ireturn, 1) := by decide +kernel
theorem d_M_card_136 : decode b_M_card 136 = .ok (.aload_n 0, 1) := by decide +kernel
theorem d_M_card_137 : decode b_M_card 137 = .ok (.iconst 2, 1) := by decide +kernel
theorem d_M_card_138 : decode b_M_card 138 = .ok (.invokevirtual 52, 3) := by decide +kernel
theorem d_M_card_141 : decode b_M_card 141 = .ok (.ireturn, 1) := by decide +kernel
theorem d_M_lastOf_0 : decode b_M_lastOf 0 = .ok (.iload_n 1, 1) := by decide +kernel
theorem d_M_lastOf_1 : decode b_M_lastOf 1 = .ok (.istore_n 2, 1) := by decide +kernel
theorem d_M_lastOf_2 : decode b_M_lastOf 2 = .ok (.aload_n 0, 1) := by decide +kernel
theorem d_M_lastOf_3 : decode b_M_lastOf 3 = .ok (.iload_n 2, 1) := by decide +kernel
theorem d_M_lastOf_4 : decode b_M_lastOf 4 = .ok (.iconst 2, 1) := by decide +kernel
theorem d_M_lastOf_5 : decode b_M_lastOf 5 = .ok (.invokevirtual 90, 3) := by decide +kernel
theorem d_M_lastOf_8 : decode b_M_lastOf 8 = .ok (.iconst (-1), 1) := by decide +kernel
theorem d_M_lastOf_9 : decode b_M_lastOf 9 = .ok (.if_icmp .eq 13, 3) := by decide +kernel
theorem d_M_lastOf_12 : decode b_M_lastOf 12 = .ok (.aload_n 0, 1) := by decide +kernel
theorem d_M_lastOf_13 : decode b_M_lastOf 13 = .ok (.iload_n 2, 1) := by decide +kernel
theorem d_M_lastOf_14 : decode b_M_lastOf 14 = .ok (.iconst 2, 1) := by decide +kernel
theorem d_M_lastOf_15 : decode b_M_lastOf 15 = .ok (.invokevirtual 90, 3) := by decide +kernel
theorem d_M_lastOf_18 : decode b_M_lastOf 18 = .ok (.istore_n 2, 1) := by decide +kernel
theorem d_M_lastOf_19 : decode b_M_lastOf 19 = .ok (.goto (-17), 3) := by decide +kernel
theorem d_M_lastOf_22 : decode b_M_lastOf 22 = .ok (.iload_n 2, 1) := by decide +kernel
theorem d_M_lastOf_23 : decode b_M_lastOf 23 = .ok (.ireturn, 1) := by decide +kernel
theorem d_M_leftOn_0 : decode b_M_leftOn 0 = .ok (.aload_n 0, 1) := by decide +kernel
theorem d_M_leftOn_1 : decode b_M_leftOn 1 = .ok (.aload_n 0, 1) := by decide +kernel
theorem d_M_leftOn_2 : decode b_M_leftOn 2 = .ok (.iload_n 1, 1) := by decide +kernel
theorem d_M_leftOn_3 : decode b_M_leftOn 3 = .ok (.invokevirtual 166, 3) := by decide +kernel
theorem d_M_leftOn_6 : decode b_M_leftOn 6 = .ok (.iconst 0, 1) := by decide +kernel
theorem d_M_leftOn_7 : decode b_M_leftOn 7 = .ok (.invokevirtual 90, 3) := by decide +kernel
theorem d_M_leftOn_10 : decode b_M_leftOn 10 = .ok (.istore_n 2, 1) := by decide +kernel
theorem d_M_leftOn_11 : decode b_M_leftOn 11 = .ok (.aload_n 0, 1) := by decide +kernel
theorem d_M_leftOn_12 : decode b_M_leftOn 12 = .ok (.iload_n 2, 1) := by decide +kernel
theorem d_M_leftOn_13 : decode b_M_leftOn 13 = .ok (.iconst 1, 1) := by decide +kernel
theorem d_M_leftOn_14 : decode b_M_leftOn 14 = .ok (.invokevirtual 83, 3) := by decide +kernel
theorem d_M_leftOn_17 : decode b_M_leftOn 17 = .ok (.istore_n 3, 1) := by decide +kernel
theorem d_M_leftOn_18 : decode b_M_leftOn 18 = .ok (.aload_n 0, 1) := by decide +kernel
theorem d_M_leftOn_19 : decode b_M_leftOn 19 = .ok (.iload_n 1, 1) := by decide +kernel
theorem d_M_leftOn_20 : decode b_M_leftOn 20 = .ok (.invokevirtual 136, 3) := by decide +kernel
theorem d_M_leftOn_23 : decode b_M_leftOn 23 = .ok (.istore 4, 2) := by decide +kernel
theorem d_M_leftOn_25 : decode b_M_leftOn 25 = .ok (.aload_n 0, 1) := by decide +kernel
theorem d_M_leftOn_26 : decode b_M_leftOn 26 = .ok (.iload_n 2, 1) := by decide +kernel
theorem d_M_leftOn_27 : decode b_M_leftOn 27 = .ok (.iconst 0, 1) := by decide +kernel
theorem d_M_leftOn_28 : decode b_M_leftOn 28 = .ok (.invokevirtual 83, 3) := by decide +kernel
theorem d_M_leftOn_31 : decode b_M_leftOn 31 = .ok (.iconst 2, 1) := by decide +kernel
theorem d_M_leftOn_32 : decode b_M_leftOn 32 = .ok (.if_icmp .ne 11, 3) := by decide +kernel
theorem d_M_leftOn_35 : decode b_M_leftOn 35 = .ok (.bipush 10, 2) := by decide +kernel
theorem d_M_leftOn_37 : decode b_M_leftOn 37 = .ok (.iload_n 3, 1) := by decide +kernel
theorem d_M_leftOn_38 : decode b_M_leftOn 38 = .ok (.imul, 1) := by decide +kernel
theorem d_M_leftOn_39 : decode b_M_leftOn 39 = .ok (.iload 4, 2) := by decide +kernel
theorem d_M_leftOn_41 : decode b_M_leftOn 41 = .ok (.isub, 1) := by decide +kernel
theorem d_M_leftOn_42 : decode b_M_leftOn 42 = .ok (.ireturn, 1) := by decide +kernel
theorem d_M_leftOn_43 : decode b_M_leftOn 43 = .ok (.aload_n 0, 1) := by decide +kernel
theorem d_M_leftOn_44 : decode b_M_leftOn 44 = .ok (.iload_n 2, 1) := by decide +kernel
theorem d_M_leftOn_45 : decode b_M_leftOn 45 = .ok (.iconst 0, 1) := by decide +kernel
theorem d_M_leftOn_46 : decode b_M_leftOn 46 = .ok (.invokevirtual 83, 3) := by decide +kernel
theorem d_M_leftOn_49 : decode b_M_leftOn 49 = .ok (.iconst 1, 1) := by decide +kernel
theorem d_M_leftOn_50 : decode b_M_leftOn 50 = .ok (.if_icmp .ne 12, 3) := by decide +kernel
theorem d_M_leftOn_53 : decode b_M_leftOn 53 = .ok (.iload_n 3, 1) := by decide +kernel
theorem d_M_leftOn_54 : decode b_M_leftOn 54 = .ok (.aload_n 0, 1) := by decide +kernel
theorem d_M_leftOn_55 : decode b_M_leftOn 55 = .ok (.iload_n 1, 1) := by decide +kernel
theorem d_M_leftOn_56 : decode b_M_leftOn 56 = .ok (.iconst 0, 1) := by decide +kernel
theorem d_M_leftOn_57 : decode b_M_leftOn 57 = .ok (.invokevirtual 142, 3) := by decide +kernel
theorem d_M_leftOn_60 : decode b_M_leftOn 60 = .ok (.isub, 1) := by decide +kernel
theorem d_M_leftOn_61 : decode b_M_leftOn 61 = .ok (.ireturn, 1) := by decide +kernel
theorem d_M_leftOn_62 : decode b_M_leftOn 62 = .ok (.iload 4, 2) := by decide +kernel
theorem d_M_leftOn_64 : decode b_M_leftOn 64 = .ok (.ifCond .ne 7, 3) := by decide +kernel
theorem d_M_leftOn_67 : decode b_M_leftOn 67 = .ok (.iload_n 3, 1) := by decide +kernel
theorem d_M_leftOn_68 : decode b_M_leftOn 68 = .ok (.goto 25, 3) := by decide +kernel
theorem d_M_leftOn_71 : decode b_M_leftOn 71 = .ok (.iload_n 3, 1) := by decide +kernel
theorem d_M_leftOn_72 : decode b_M_leftOn 72 = .ok (.aload_n 0, 1) := by decide +kernel
theorem d_M_leftOn_73 : decode b_M_leftOn 73 = .ok (.invokevirtual 76, 3) := by decide +kernel
theorem d_M_leftOn_76 : decode b_M_leftOn 76 = .ok (.aload_n 0, 1) := by decide +kernel
theorem d_M_leftOn_77 : decode b_M_leftOn 77 = .ok (.aload_n 0, 1) := by decide +kernel
theorem d_M_leftOn_78 : decode b_M_leftOn 78 = .ok (.iload_n 1, 1) := by decide +kernel
theorem d_M_leftOn_79 : decode b_M_leftOn 79 = .ok (.iconst 0, 1) := by decide +kernel
theorem d_M_leftOn_80 : decode b_M_leftOn 80 = .ok (.invokevirtual 139, 3) := by decide +kernel
theorem d_M_leftOn_83 : decode b_M_leftOn 83 = .ok (.iconst 2, 1) := by decide +kernel
theorem d_M_leftOn_84 : decode b_M_leftOn 84 = .ok (.invokevirtual 59, 3) := by decide +kernel
theorem d_M_leftOn_87 : decode b_M_leftOn 87 = .ok (.sipush 1440, 3) := by decide +kernel
theorem d_M_leftOn_90 : decode b_M_leftOn 90 = .ok (.idiv, 1) := by decide +kernel
theorem d_M_leftOn_91 : decode b_M_leftOn 91 = .ok (.isub, 1) := by decide +kernel
theorem d_M_leftOn_92 : decode b_M_leftOn 92 = .ok (.isub, 1) := by decide +kernel
theorem d_M_leftOn_93 : decode b_M_leftOn 93 = .ok (.istore 5, 2) := by decide +kernel
theorem d_M_leftOn_95 : decode b_M_leftOn 95 = .ok (.iload 5, 2) := by decide +kernel
theorem d_M_leftOn_97 : decode b_M_leftOn 97 = .ok (.ifCond .ge 7, 3) := by decide +kernel
theorem d_M_leftOn_100 : decode b_M_leftOn 100 = .ok (.iconst 0, 1) := by decide +kernel
theorem d_M_leftOn_101 : decode b_M_leftOn 101 = .ok (.goto 5, 3) := by decide +kernel
theorem d_M_leftOn_104 : decode b_M_leftOn 104 = .ok (.iload 5, 2) := by decide +kernel
theorem d_M_leftOn_106 : decode b_M_leftOn 106 = .ok (.ireturn, 1) := by decide +kernel
theorem d_M_ride_0 : decode b_M_ride 0 = .ok (.aload_n 0, 1) := by decide +kernel
theorem d_M_ride_1 : decode b_M_ride 1 = .ok (.iconst 0, 1) := by decide +kernel
theorem d_M_ride_2 : decode b_M_ride 2 = .ok (.putfield 33, 3) := by decide +kernel
theorem d_M_ride_5 : decode b_M_ride 5 = .ok (.aload_n 0, 1) := by decide +kernel
theorem d_M_ride_6 : decode b_M_ride 6 = .ok (.iload_n 1, 1) := by decide +kernel
theorem d_M_ride_7 : decode b_M_ride 7 = .ok (.invokevirtual 148, 3) := by decide +kernel
theorem d_M_ride_10 : decode b_M_ride 10 = .ok (.ifCond .ne 9, 3) := by decide +kernel
theorem d_M_ride_13 : decode b_M_ride 13 = .ok (.aload_n 0, 1) := by decide +kernel
theorem d_M_ride_14 : decode b_M_ride 14 = .ok (.iconst 1, 1) := by decide +kernel
theorem d_M_ride_15 : decode b_M_ride 15 = .ok (.invokevirtual 52, 3) := by decide +kernel
theorem d_M_ride_18 : decode b_M_ride 18 = .ok (.ireturn, 1) := by decide +kernel
theorem d_M_ride_19 : decode b_M_ride 19 = .ok (.iload_n 2, 1) := by decide +kernel
theorem d_M_ride_20 : decode b_M_ride 20 = .ok (.ifCond .ge 7, 3) := by decide +kernel
theorem d_M_ride_23 : decode b_M_ride 23 = .ok (.iconst (-1), 1) := by decide +kernel
theorem d_M_ride_24 : decode b_M_ride 24 = .ok (.goto 9, 3) := by decide +kernel
theorem d_M_ride_27 : decode b_M_ride 27 = .ok (.aload_n 0, 1) := by decide +kernel
theorem d_M_ride_28 : decode b_M_ride 28 = .ok (.iload_n 1, 1) := by decide +kernel
theorem d_M_ride_29 : decode b_M_ride 29 = .ok (.iload_n 2, 1) := by decide +kernel
theorem d_M_ride_30 : decode b_M_ride 30 = .ok (.invokevirtual 139, 3) := by decide +kernel
theorem d_M_ride_33 : decode b_M_ride 33 = .ok (.istore 4, 2) := by decide +kernel
theorem d_M_ride_35 : decode b_M_ride 35 = .ok (.iload 4, 2) := by decide +kernel
theorem d_M_ride_37 : decode b_M_ride 37 = .ok (.iconst (-1), 1) := by decide +kernel
theorem d_M_ride_38 : decode b_M_ride 38 = .ok (.if_icmp .ne 11, 3) := by decide +kernel
theorem d_M_ride_41 : decode b_M_ride 41 = .ok (.aload_n 0, 1) := by decide +kernel
theorem d_M_ride_42 : decode b_M_ride 42 = .ok (.iconst 2, 1) := by decide +kernel
theorem d_M_ride_43 : decode b_M_ride 43 = .ok (.invokevirtual 52, 3) := by decide +kernel
theorem d_M_ride_46 : decode b_M_ride 46 = .ok (.goto 18, 3) := by decide +kernel
theorem d_M_ride_49 : decode b_M_ride 49 = .ok (.aload_n 0, 1) := by decide +kernel
theorem d_M_ride_50 : decode b_M_ride 50 = .ok (.iload 4, 2) := by decide +kernel
theorem d_M_ride_52 : decode b_M_ride 52 = .ok (.iload_n 3, 1) := by decide +kernel
theorem d_M_ride_53 : decode b_M_ride 53 = .ok (.ifCond .eq 7, 3) := by decide +kernel
theorem d_M_ride_56 : decode b_M_ride 56 = .ok (.iconst 1, 1) := by decide +kernel
theorem d_M_ride_57 : decode b_M_ride 57 = .ok (.goto 4, 3) := by decide +kernel
theorem d_M_ride_60 : decode b_M_ride 60 = .ok (.iconst 2, 1) := by decide +kernel
theorem d_M_ride_61 : decode b_M_ride 61 = .ok (.invokevirtual 59, 3) := by decide +kernel
theorem d_M_ride_64 : decode b_M_ride 64 = .ok (.ireturn, 1) := by decide +kernel
theorem d_M_refundable_0 : decode b_M_refundable 0 = .ok (.aload_n 0, 1) := by decide +kernel
theorem d_M_refundable_1 : decode b_M_refundable 1 = .ok (.aload_n 0, 1) := by decide +kernel
theorem d_M_refundable_2 : decode b_M_refundable 2 = .ok (.iload_n 1, 1) := by decide +kernel
theorem d_M_refundable_3 : decode b_M_refundable 3 = .ok (.invokevirtual 148, 3) := by decide +kernel
theorem d_M_refundable_6 : decode b_M_refundable 6 = .ok (.ifCond .eq 7, 3) := by decide +kernel
theorem d_M_refundable_9 : decode b_M_refundable 9 = .ok (.iconst 0, 1) := by decide +kernel
theorem d_M_refundable_10 : decode b_M_refundable 10 = .ok (.goto 4, 3) := by decide +kernel
theorem d_M_refundable_13 : decode b_M_refundable 13 = .ok (.iconst 1, 1) := by decide +kernel
theorem d_M_refundable_14 : decode b_M_refundable 14 = .ok (.putfield 33, 3) := by decide +kernel
theorem d_M_refundable_17 : decode b_M_refundable 17 = .ok (.aload_n 0, 1) := by decide +kernel
theorem d_M_refundable_18 : decode b_M_refundable 18 = .ok (.getfield 33, 3) := by decide +kernel
theorem d_M_refundable_21 : decode b_M_refundable 21 = .ok (.ifCond .ne 11, 3) := by decide +kernel
theorem d_M_refundable_24 : decode b_M_refundable 24 = .ok (.aload_n 0, 1) := by decide +kernel
theorem d_M_refundable_25 : decode b_M_refundable 25 = .ok (.iload_n 1, 1) := by decide +kernel
theorem d_M_refundable_26 : decode b_M_refundable 26 = .ok (.invokevirtual 172, 3) := by decide +kernel
theorem d_M_refundable_29 : decode b_M_refundable 29 = .ok (.goto 4, 3) := by decide +kernel
theorem d_M_refundable_32 : decode b_M_refundable 32 = .ok (.iconst 0, 1) := by decide +kernel
theorem d_M_refundable_33 : decode b_M_refundable 33 = .ok (.ireturn, 1) := by decide +kernel
theorem d_M_refundOf_0 : decode b_M_refundOf 0 = .ok (.aload_n 0, 1) := by decide +kernel
theorem d_M_refundOf_1 : decode b_M_refundOf 1 = .ok (.iload_n 1, 1) := by decide +kernel
theorem d_M_refundOf_2 : decode b_M_refundOf 2 = .ok (.iconst 0, 1) := by decide +kernel
theorem d_M_refundOf_3 : decode b_M_refundOf 3 = .ok (.invokevirtual 90, 3) := by decide +kernel
theorem d_M_refundOf_6 : decode b_M_refundOf 6 = .ok (.istore_n 2, 1) := by decide +kernel
theorem d_M_refundOf_7 : decode b_M_refundOf 7 = .ok (.aload_n 0, 1) := by decide +kernel
theorem d_M_refundOf_8 : decode b_M_refundOf 8 = .ok (.iload_n 1, 1) := by decide +kernel
theorem d_M_refundOf_9 : decode b_M_refundOf 9 = .ok (.invokevirtual 154, 3) := by decide +kernel
theorem d_M_refundOf_12 : decode b_M_refundOf 12 = .ok (.ifCond .ne 13, 3) := by decide +kernel
theorem d_M_refundOf_15 : decode b_M_refundOf 15 = .ok (.aload_n 0, 1) := by decide +kernel
theorem d_M_refundOf_16 : decode b_M_refundOf 16 = .ok (.iload_n 2, 1) := by decide +kernel
theorem d_M_refundOf_17 : decode b_M_refundOf 17 = .ok (.iconst 0, 1) := by decide +kernel
theorem d_M_refundOf_18 : decode b_M_refundOf 18 = .ok (.invokevirtual 83, 3) := by decide +kernel
theorem d_M_refundOf_21 : decode b_M_refundOf 21 = .ok (.iconst 2, 1) := by decide +kernel
theorem d_M_refundOf_22 : decode b_M_refundOf 22 = .ok (.if_icmp .ne 7, 3) := by decide +kernel
theorem d_M_refundOf_25 : decode b_M_refundOf 25 = .ok (.iconst 0, 1) := by decide +kernel
theorem d_M_refundOf_26 : decode b_M_refundOf 26 = .ok (.goto 23, 3) := by decide +kernel
theorem d_M_refundOf_29 : decode b_M_refundOf 29 = .ok (.aload_n 0, 1) := by decide +kernel
theorem d_M_refundOf_30 : decode b_M_refundOf 30 = .ok (.iload_n 1, 1) := by decide +kernel
theorem d_M_refundOf_31 : decode b_M_refundOf 31 = .ok (.iconst 4, 1) := by decide +kernel
theorem d_M_refundOf_32 : decode b_M_refundOf 32 = .ok (.invokevirtual 90, 3) := by decide +kernel
theorem d_M_refundOf_35 : decode b_M_refundOf 35 = .ok (.aload_n 0, 1) := by decide +kernel
theorem d_M_refundOf_36 : decode b_M_refundOf 36 = .ok (.iload_n 2, 1) := by decide +kernel
theorem d_M_refundOf_37 : decode b_M_refundOf 37 = .ok (.iconst 1, 1) := by decide +kernel
theorem d_M_refundOf_38 : decode b_M_refundOf 38 = .ok (.invokevirtual 83, 3) := by decide +kernel
theorem d_M_refundOf_41 : decode b_M_refundOf 41 = .ok (.idiv, 1) := by decide +kernel
theorem d_M_refundOf_42 : decode b_M_refundOf 42 = .ok (.aload_n 0, 1) := by decide +kernel
theorem d_M_refundOf_43 : decode b_M_refundOf 43 = .ok (.iload_n 1, 1) := by decide +kernel
theorem d_M_refundOf_44 : decode b_M_refundOf 44 = .ok (.iconst 1, 1) := by decide +kernel
theorem d_M_refundOf_45 : decode b_M_refundOf 45 = .ok (.invokevirtual 142, 3) := by decide +kernel
theorem d_M_refundOf_48 : decode b_M_refundOf 48 = .ok (.imul, 1) := by decide +kernel
theorem d_M_refundOf_49 : decode b_M_refundOf 49 = .ok (.ireturn, 1) := by decide +kernel
theorem d_M_refund_0 : decode b_M_refund 0 = .ok (.aload_n 0, 1) := by decide +kernel
theorem d_M_refund_1 : decode b_M_refund 1 = .ok (.aload_n 0, 1) := by decide +kernel
theorem d_M_refund_2 : decode b_M_refund 2 = .ok (.iload_n 1, 1) := by decide +kernel
theorem d_M_refund_3 : decode b_M_refund 3 = .ok (.invokevirtual 157, 3) := by decide +kernel
theorem d_M_refund_6 : decode b_M_refund 6 = .ok (.putfield 33, 3) := by decide +kernel
theorem d_M_refund_9 : decode b_M_refund 9 = .ok (.aload_n 0, 1) := by decide +kernel
theorem d_M_refund_10 : decode b_M_refund 10 = .ok (.getfield 33, 3) := by decide +kernel
theorem d_M_refund_13 : decode b_M_refund 13 = .ok (.ifCond .eq 5, 3) := by decide +kernel
theorem d_M_refund_16 : decode b_M_refund 16 = .ok (.iconst 0, 1) := by decide +kernel
theorem d_M_refund_17 : decode b_M_refund 17 = .ok (.ireturn, 1) := by decide +kernel
theorem d_M_refund_18 : decode b_M_refund 18 = .ok (.aload_n 0, 1) := by decide +kernel
theorem d_M_refund_19 : decode b_M_refund 19 = .ok (.invokevirtual 56, 3) := by decide +kernel
theorem d_M_refund_22 : decode b_M_refund 22 = .ok (.aload_n 0, 1) := by decide +kernel
theorem d_M_refund_23 : decode b_M_refund 23 = .ok (.iload_n 1, 1) := by decide +kernel
theorem d_M_refund_24 : decode b_M_refund 24 = .ok (.invokevirtual 172, 3) := by decide +kernel
theorem d_M_refund_27 : decode b_M_refund 27 = .ok (.istore_n 2, 1) := by decide +kernel
theorem d_M_refund_28 : decode b_M_refund 28 = .ok (.aload_n 0, 1) := by decide +kernel
theorem d_M_refund_29 : decode b_M_refund 29 = .ok (.iload_n 1, 1) := by decide +kernel
theorem d_M_refund_30 : decode b_M_refund 30 = .ok (.iconst 1, 1) := by decide +kernel
theorem d_M_refund_31 : decode b_M_refund 31 = .ok (.iconst 3, 1) := by decide +kernel
theorem d_M_refund_32 : decode b_M_refund 32 = .ok (.invokevirtual 126, 3) := by decide +kernel
theorem d_M_refund_35 : decode b_M_refund 35 = .ok (.aload_n 0, 1) := by decide +kernel
theorem d_M_refund_36 : decode b_M_refund 36 = .ok (.iload_n 1, 1) := by decide +kernel
theorem d_M_refund_37 : decode b_M_refund 37 = .ok (.iconst 3, 1) := by decide +kernel
theorem d_M_refund_38 : decode b_M_refund 38 = .ok (.iload_n 2, 1) := by decide +kernel
theorem d_M_refund_39 : decode b_M_refund 39 = .ok (.invokevirtual 126, 3) := by decide +kernel
theorem d_M_refund_42 : decode b_M_refund 42 = .ok (.iload_n 2, 1) := by decide +kernel
theorem d_M_refund_43 : decode b_M_refund 43 = .ok (.ireturn, 1) := by decide +kernel
theorem d_M_share_0 : decode b_M_share 0 = .ok (.aload_n 0, 1) := by decide +kernel
theorem d_M_share_1 : decode b_M_share 1 = .ok (.aload_n 0, 1) := by decide +kernel
theorem d_M_share_2 : decode b_M_share 2 = .ok (.iload_n 1, 1) := by decide +kernel
theorem d_M_share_3 : decode b_M_share 3 = .ok (.invokevirtual 148, 3) := by decide +kernel
theorem d_M_share_6 : decode b_M_share 6 = .ok (.ifCond .eq 16, 3) := by decide +kernel
theorem d_M_share_9 : decode b_M_share 9 = .ok (.iload_n 2, 1) := by decide +kernel
theorem d_M_share_10 : decode b_M_share 10 = .ok (.iconst 0, 1) := by decide +kernel
theorem d_M_share_11 : decode b_M_share 11 = .ok (.iconst 3, 1) := by decide +kernel
theorem d_M_share_12 : decode b_M_share 12 = .ok (.invokestatic 45, 3) := by decide +kernel
theorem d_M_share_15 : decode b_M_share 15 = .ok (.ifCond .eq 7, 3) := by decide +kernel
theorem d_M_share_18 : decode b_M_share 18 = .ok (.iconst 0, 1) := by decide +kernel
theorem d_M_share_19 : decode b_M_share 19 = .ok (.goto 4, 3) := by decide +kernel
theorem d_M_share_22 : decode b_M_share 22 = .ok (.iconst 1, 1) := by decide +kernel
theorem d_M_share_23 : decode b_M_share 23 = .ok (.putfield 33, 3) := by decide +kernel
theorem d_M_share_26 : decode b_M_share 26 = .ok (.aload_n 0, 1) := by decide +kernel
theorem d_M_share_27 : decode b_M_share 27 = .ok (.getfield 33, 3) := by decide +kernel
theorem d_M_share_30 : decode b_M_share 30 = .ok (.ifCond .ne 12, 3) := by decide +kernel
theorem d_M_share_33 : decode b_M_share 33 = .ok (.aload_n 0, 1) := by decide +kernel
theorem d_M_share_34 : decode b_M_share 34 = .ok (.iload_n 1, 1) := by decide +kernel
theorem d_M_share_35 : decode b_M_share 35 = .ok (.iload_n 2, 1) := by decide +kernel
theorem d_M_share_36 : decode b_M_share 36 = .ok (.invokevirtual 181, 3) := by decide +kernel
theorem d_M_share_39 : decode b_M_share 39 = .ok (.goto 4, 3) := by decide +kernel
theorem d_M_share_42 : decode b_M_share 42 = .ok (.iconst 0, 1) := by decide +kernel
theorem d_M_share_43 : decode b_M_share 43 = .ok (.ireturn, 1) := by decide +kernel
theorem d_M_shareOf_0 : decode b_M_shareOf 0 = .ok (.aload_n 0, 1) := by decide +kernel
theorem d_M_shareOf_1 : decode b_M_shareOf 1 = .ok (.iload_n 1, 1) := by decide +kernel
theorem d_M_shareOf_2 : decode b_M_shareOf 2 = .ok (.invokevirtual 136, 3) := by decide +kernel
theorem d_M_shareOf_5 : decode b_M_shareOf 5 = .ok (.istore_n 3, 1) := by decide +kernel
theorem d_M_shareOf_6 : decode b_M_shareOf 6 = .ok (.iload_n 3, 1) := by decide +kernel
theorem d_M_shareOf_7 : decode b_M_shareOf 7 = .ok (.ifCond .ne 5, 3) := by decide +kernel
theorem d_M_shareOf_10 : decode b_M_shareOf 10 = .ok (.iconst 0, 1) := by decide +kernel
theorem d_M_shareOf_11 : decode b_M_shareOf 11 = .ok (.ireturn, 1) := by decide +kernel
theorem d_M_shareOf_12 : decode b_M_shareOf 12 = .ok (.aload_n 0, 1) := by decide +kernel
theorem d_M_shareOf_13 : decode b_M_shareOf 13 = .ok (.iload_n 1, 1) := by decide +kernel
theorem d_M_shareOf_14 : decode b_M_shareOf 14 = .ok (.invokevirtual 175, 3) := by decide +kernel
theorem d_M_shareOf_17 : decode b_M_shareOf 17 = .ok (.istore 4, 2) := by decide +kernel
theorem d_M_shareOf_19 : decode b_M_shareOf 19 = .ok (.iconst 0, 1) := by decide +kernel
theorem d_M_shareOf_20 : decode b_M_shareOf 20 = .ok (.istore 5, 2) := by decide +kernel
theorem d_M_shareOf_22 : decode b_M_shareOf 22 = .ok (.iconst 0, 1) := by decide +kernel
theorem d_M_shareOf_23 : decode b_M_shareOf 23 = .ok (.istore 6, 2) := by decide +kernel
theorem d_M_shareOf_25 : decode b_M_shareOf 25 = .ok (.iload 6, 2) := by decide +kernel
theorem d_M_shareOf_27 : decode b_M_shareOf 27 = .ok (.iconst 4, 1) := by decide +kernel
theorem d_M_shareOf_28 : decode b_M_shareOf 28 = .ok (.if_icmp .ge 55, 3) := by decide +kernel
theorem d_M_shareOf_31 : decode b_M_shareOf 31 = .ok (.iload 4, 2) := by decide +kernel
theorem d_M_shareOf_33 : decode b_M_shareOf 33 = .ok (.aload_n 0, 1) := by decide +kernel
theorem d_M_shareOf_34 : decode b_M_shareOf 34 = .ok (.iload_n 1, 1) := by decide +kernel
theorem d_M_shareOf_35 : decode b_M_shareOf 35 = .ok (.invokevirtual 175, 3) := by decide +kernel
theorem d_M_shareOf_38 : decode b_M_shareOf 38 = .ok (.aload_n 0, 1) := by decide +kernel
theorem d_M_shareOf_39 : decode b_M_shareOf 39 = .ok (.iload_n 1, 1) := by decide +kernel
theorem d_M_shareOf_40 : decode b_M_shareOf 40 = .ok (.iload 6, 2) := by decide +kernel
theorem d_M_shareOf_42 : decode b_M_shareOf 42 = .ok (.invokevirtual 178, 3) := by decide +kernel
theorem d_M_shareOf_45 : decode b_M_shareOf 45 = .ok (.imul, 1) := by decide +kernel
theorem d_M_shareOf_46 : decode b_M_shareOf 46 = .ok (.iload_n 3, 1) := by decide +kernel
theorem d_M_shareOf_47 : decode b_M_shareOf 47 = .ok (.idiv, 1) := by decide +kernel
theorem d_M_shareOf_48 : decode b_M_shareOf 48 = .ok (.isub, 1) := by decide +kernel
theorem d_M_shareOf_49 : decode b_M_shareOf 49 = .ok (.istore 4, 2) := by decide +kernel
theorem d_M_shareOf_51 : decode b_M_shareOf 51 = .ok (.aload_n 0, 1) := by decide +kernel
theorem d_M_shareOf_52 : decode b_M_shareOf 52 = .ok (.iload_n 1, 1) := by decide +kernel
theorem d_M_shareOf_53 : decode b_M_shareOf 53 = .ok (.iload 6, 2) := by decide +kernel
theorem d_M_shareOf_55 : decode b_M_shareOf 55 = .ok (.invokevirtual 178, 3) := by decide +kernel
theorem d_M_shareOf_58 : decode b_M_shareOf 58 = .ok (.aload_n 0, 1) := by decide +kernel
theorem d_M_shareOf_59 : decode b_M_shareOf 59 = .ok (.iload_n 1, 1) := by decide +kernel
theorem d_M_shareOf_60 : decode b_M_shareOf 60 = .ok (.iload 5, 2) := by decide +kernel
theorem d_M_shareOf_62 : decode b_M_shareOf 62 = .ok (.invokevirtual 178, 3) := by decide +kernel
theorem d_M_shareOf_65 : decode b_M_shareOf 65 = .ok (.if_icmp .le 8, 3) := by decide +kernel
theorem d_M_shareOf_68 : decode b_M_shareOf 68 = .ok (.iload 6, 2) := by decide +kernel
theorem d_M_shareOf_70 : decode b_M_shareOf 70 = .ok (.goto 5, 3) := by decide +kernel
theorem d_M_shareOf_73 : decode b_M_shareOf 73 = .ok (.iload 5, 2) := by decide +kernel
theorem d_M_shareOf_75 : decode b_M_shareOf 75 = .ok (.istore 5, 2) := by decide +kernel
theorem d_M_shareOf_77 : decode b_M_shareOf 77 = .ok (.iinc 6 1, 3) := by decide +kernel
theorem d_M_shareOf_80 : decode b_M_shareOf 80 = .ok (.goto (-55), 3) := by decide +kernel
theorem d_M_shareOf_83 : decode b_M_shareOf 83 = .ok (.aload_n 0, 1) := by decide +kernel
theorem d_M_shareOf_84 : decode b_M_shareOf 84 = .ok (.iload_n 1, 1) := by decide +kernel
theorem d_M_shareOf_85 : decode b_M_shareOf 85 = .ok (.invokevirtual 175, 3) := by decide +kernel
theorem d_M_shareOf_88 : decode b_M_shareOf 88 = .ok (.aload_n 0, 1) := by decide +kernel
theorem d_M_shareOf_89 : decode b_M_shareOf 89 = .ok (.iload_n 1, 1) := by decide +kernel
theorem d_M_shareOf_90 : decode b_M_shareOf 90 = .ok (.iload_n 2, 1) := by decide +kernel
theorem d_M_shareOf_91 : decode b_M_shareOf 91 = .ok (.invokevirtual 178, 3) := by decide +kernel
theorem d_M_shareOf_94 : decode b_M_shareOf 94 = .ok (.imul, 1) := by decide +kernel
theorem d_M_shareOf_95 : decode b_M_shareOf 95 = .ok (.iload_n 3, 1) := by decide +kernel
theorem d_M_shareOf_96 : decode b_M_shareOf 96 = .ok (.idiv, 1) := by decide +kernel
theorem d_M_shareOf_97 : decode b_M_shareOf 97 = .ok (.iload_n 2, 1) := by decide +kernel
theorem d_M_shareOf_98 : decode b_M_shareOf 98 = .ok (.iload 5, 2) := by decide +kernel
theorem d_M_shareOf_100 : decode b_M_shareOf 100 = .ok (.if_icmp .ne 8, 3) := by decide +kernel
theorem d_M_shareOf_103 : decode b_M_shareOf 103 = .ok (.iload 4, 2) := by decide +kernel
theorem d_M_shareOf_105 : decode b_M_shareOf 105 = .ok (.goto 4, 3) := by decide +kernel
theorem d_M_shareOf_108 : decode b_M_shareOf 108 = .ok (.iconst 0, 1) := by decide +kernel
theorem d_M_shareOf_109 : decode b_M_shareOf 109 = .ok (.iadd, 1) := by decide +kernel
theorem d_M_shareOf_110 : decode b_M_shareOf 110 = .ok (.ireturn, 1) := by decide +kernel
theorem d_M_keptOf_0 : decode b_M_keptOf 0 = .ok (.aload_n 0, 1) := by decide +kernel
theorem d_M_keptOf_1 : decode b_M_keptOf 1 = .ok (.iload_n 1, 1) := by decide +kernel
theorem d_M_keptOf_2 : decode b_M_keptOf 2 = .ok (.iconst 4, 1) := by decide +kernel
theorem d_M_keptOf_3 : decode b_M_keptOf 3 = .ok (.invokevirtual 90, 3) := by decide +kernel
theorem d_M_keptOf_6 : decode b_M_keptOf 6 = .ok (.aload_n 0, 1) := by decide +kernel
theorem d_M_keptOf_7 : decode b_M_keptOf 7 = .ok (.iload_n 1, 1) := by decide +kernel
theorem d_M_keptOf_8 : decode b_M_keptOf 8 = .ok (.iconst 3, 1) := by decide +kernel
theorem d_M_keptOf_9 : decode b_M_keptOf 9 = .ok (.invokevirtual 90, 3) := by decide +kernel
theorem d_M_keptOf_12 : decode b_M_keptOf 12 = .ok (.isub, 1) := by decide +kernel
theorem d_M_keptOf_13 : decode b_M_keptOf 13 = .ok (.ireturn, 1) := by decide +kernel
theorem d_M_ridesOf_0 : decode b_M_ridesOf 0 = .ok (.iconst 0, 1) := by decide +kernel
theorem d_M_ridesOf_1 : decode b_M_ridesOf 1 = .ok (.istore_n 3, 1) := by decide +kernel
theorem d_M_ridesOf_2 : decode b_M_ridesOf 2 = .ok (.iconst 0, 1) := by decide +kernel
theorem d_M_ridesOf_3 : decode b_M_ridesOf 3 = .ok (.istore 4, 2) := by decide +kernel
theorem d_M_ridesOf_5 : decode b_M_ridesOf 5 = .ok (.iload 4, 2) := by decide +kernel
theorem d_M_ridesOf_7 : decode b_M_ridesOf 7 = .ok (.aload_n 0, 1) := by decide +kernel
theorem d_M_ridesOf_8 : decode b_M_ridesOf 8 = .ok (.getfield 9, 3) := by decide +kernel
theorem d_M_ridesOf_11 : decode b_M_ridesOf 11 = .ok (.iconst 4, 1) := by decide +kernel
theorem d_M_ridesOf_12 : decode b_M_ridesOf 12 = .ok (.iaload, 1) := by decide +kernel
theorem d_M_ridesOf_13 : decode b_M_ridesOf 13 = .ok (.if_icmp .ge 44, 3) := by decide +kernel
theorem d_M_ridesOf_16 : decode b_M_ridesOf 16 = .ok (.iload_n 3, 1) := by decide +kernel
theorem d_M_ridesOf_17 : decode b_M_ridesOf 17 = .ok (.aload_n 0, 1) := by decide +kernel
theorem d_M_ridesOf_18 : decode b_M_ridesOf 18 = .ok (.iload 4, 2) := by decide +kernel
theorem d_M_ridesOf_20 : decode b_M_ridesOf 20 = .ok (.iconst 0, 1) := by decide +kernel
theorem d_M_ridesOf_21 : decode b_M_ridesOf 21 = .ok (.invokevirtual 59, 3) := by decide +kernel
theorem d_M_ridesOf_24 : decode b_M_ridesOf 24 = .ok (.iload_n 1, 1) := by decide +kernel
theorem d_M_ridesOf_25 : decode b_M_ridesOf 25 = .ok (.if_icmp .ne 23, 3) := by decide +kernel
theorem d_M_ridesOf_28 : decode b_M_ridesOf 28 = .ok (.aload_n 0, 1) := by decide +kernel
theorem d_M_ridesOf_29 : decode b_M_ridesOf 29 = .ok (.aload_n 0, 1) := by decide +kernel
theorem d_M_ridesOf_30 : decode b_M_ridesOf 30 = .ok (.iload 4, 2) := by decide +kernel
theorem d_M_ridesOf_32 : decode b_M_ridesOf 32 = .ok (.iconst 1, 1) := by decide +kernel
theorem d_M_ridesOf_33 : decode b_M_ridesOf 33 = .ok (.invokevirtual 59, 3) := by decide +kernel
theorem d_M_ridesOf_36 : decode b_M_ridesOf 36 = .ok (.iconst 0, 1) := by decide +kernel
theorem d_M_ridesOf_37 : decode b_M_ridesOf 37 = .ok (.invokevirtual 63, 3) := by decide +kernel
theorem d_M_ridesOf_40 : decode b_M_ridesOf 40 = .ok (.iload_n 2, 1) := by decide +kernel
theorem d_M_ridesOf_41 : decode b_M_ridesOf 41 = .ok (.if_icmp .ne 7, 3) := by decide +kernel
theorem d_M_ridesOf_44 : decode b_M_ridesOf 44 = .ok (.iconst 1, 1) := by decide +kernel
theorem d_M_ridesOf_45 : decode b_M_ridesOf 45 = .ok (.goto 4, 3) := by decide +kernel
theorem d_M_ridesOf_48 : decode b_M_ridesOf 48 = .ok (.iconst 0, 1) := by decide +kernel
theorem d_M_ridesOf_49 : decode b_M_ridesOf 49 = .ok (.iadd, 1) := by decide +kernel
theorem d_M_ridesOf_50 : decode b_M_ridesOf 50 = .ok (.istore_n 3, 1) := by decide +kernel
theorem d_M_ridesOf_51 : decode b_M_ridesOf 51 = .ok (.iinc 4 1, 3) := by decide +kernel
theorem d_M_ridesOf_54 : decode b_M_ridesOf 54 = .ok (.goto (-49), 3) := by decide +kernel
theorem d_M_ridesOf_57 : decode b_M_ridesOf 57 = .ok (.iload_n 3, 1) := by decide +kernel
theorem d_M_ridesOf_58 : decode b_M_ridesOf 58 = .ok (.ireturn, 1) := by decide +kernel
theorem d_M_partner_0 : decode b_M_partner 0 = .ok (.aload_n 0, 1) := by decide +kernel
theorem d_M_partner_1 : decode b_M_partner 1 = .ok (.iconst 0, 1) := by decide +kernel
theorem d_M_partner_2 : decode b_M_partner 2 = .ok (.putfield 33, 3) := by decide +kernel
theorem d_M_partner_5 : decode b_M_partner 5 = .ok (.iload_n 1, 1) := by decide +kernel
theorem d_M_partner_6 : decode b_M_partner 6 = .ok (.iconst 0, 1) := by decide +kernel
theorem d_M_partner_7 : decode b_M_partner 7 = .ok (.iconst 3, 1) := by decide +kernel
theorem d_M_partner_8 : decode b_M_partner 8 = .ok (.invokestatic 45, 3) := by decide +kernel
theorem d_M_partner_11 : decode b_M_partner 11 = .ok (.ifCond .ne 9, 3) := by decide +kernel
theorem d_M_partner_14 : decode b_M_partner 14 = .ok (.aload_n 0, 1) := by decide +kernel
theorem d_M_partner_15 : decode b_M_partner 15 = .ok (.iconst 1, 1) := by decide +kernel
theorem d_M_partner_16 : decode b_M_partner 16 = .ok (.invokevirtual 52, 3) := by decide +kernel
theorem d_M_partner_19 : decode b_M_partner 19 = .ok (.ireturn, 1) := by decide +kernel
theorem d_M_partner_20 : decode b_M_partner 20 = .ok (.iload_n 2, 1) := by decide +kernel
theorem d_M_partner_21 : decode b_M_partner 21 = .ok (.tableswitch 55 0 3 #[31, 37, 43, 49], 31) := by decide +kernel
theorem d_M_partner_52 : decode b_M_partner 52 = .ok (.aload_n 0, 1) := by decide +kernel
theorem d_M_partner_53 : decode b_M_partner 53 = .ok (.iload_n 1, 1) := by decide +kernel
theorem d_M_partner_54 : decode b_M_partner 54 = .ok (.invokevirtual 184, 3) := by decide +kernel
theorem d_M_partner_57 : decode b_M_partner 57 = .ok (.ireturn, 1) := by decide +kernel
theorem d_M_partner_58 : decode b_M_partner 58 = .ok (.aload_n 0, 1) := by decide +kernel
theorem d_M_partner_59 : decode b_M_partner 59 = .ok (.iload_n 1, 1) := by decide +kernel
theorem d_M_partner_60 : decode b_M_partner 60 = .ok (.invokevirtual 187, 3) := by decide +kernel
theorem d_M_partner_63 : decode b_M_partner 63 = .ok (.ireturn, 1) := by decide +kernel
theorem d_M_partner_64 : decode b_M_partner 64 = .ok (.aload_n 0, 1) := by decide +kernel
theorem d_M_partner_65 : decode b_M_partner 65 = .ok (.iload_n 1, 1) := by decide +kernel
theorem d_M_partner_66 : decode b_M_partner 66 = .ok (.invokevirtual 190, 3) := by decide +kernel
theorem d_M_partner_69 : decode b_M_partner 69 = .ok (.ireturn, 1) := by decide +kernel
theorem d_M_partner_70 : decode b_M_partner 70 = .ok (.aload_n 0, 1) := by decide +kernel
theorem d_M_partner_71 : decode b_M_partner 71 = .ok (.iload_n 1, 1) := by decide +kernel
theorem d_M_partner_72 : decode b_M_partner 72 = .ok (.invokevirtual 193, 3) := by decide +kernel
theorem d_M_partner_75 : decode b_M_partner 75 = .ok (.ireturn, 1) := by decide +kernel
theorem d_M_partner_76 : decode b_M_partner 76 = .ok (.aload_n 0, 1) := by decide +kernel
theorem d_M_partner_77 : decode b_M_partner 77 = .ok (.iconst 2, 1) := by decide +kernel
theorem d_M_partner_78 : decode b_M_partner 78 = .ok (.invokevirtual 52, 3) := by decide +kernel
theorem d_M_partner_81 : decode b_M_partner 81 = .ok (.ireturn, 1) := by decide +kernel
theorem d_M_sharesOf_0 : decode b_M_sharesOf 0 = .ok (.iconst 0, 1) := by decide +kernel
theorem d_M_sharesOf_1 : decode b_M_sharesOf 1 = .ok (.istore_n 2, 1) := by decide +kernel
theorem d_M_sharesOf_2 : decode b_M_sharesOf 2 = .ok (.iconst 0, 1) := by decide +kernel
theorem d_M_sharesOf_3 : decode b_M_sharesOf 3 = .ok (.istore_n 3, 1) := by decide +kernel
theorem d_M_sharesOf_4 : decode b_M_sharesOf 4 = .ok (.iload_n 3, 1) := by decide +kernel
theorem d_M_sharesOf_5 : decode b_M_sharesOf 5 = .ok (.aload_n 0, 1) := by decide +kernel
theorem d_M_sharesOf_6 : decode b_M_sharesOf 6 = .ok (.getfield 9, 3) := by decide +kernel
theorem d_M_sharesOf_9 : decode b_M_sharesOf 9 = .ok (.iconst 3, 1) := by decide +kernel
theorem d_M_sharesOf_10 : decode b_M_sharesOf 10 = .ok (.iaload, 1) := by decide +kernel
theorem d_M_sharesOf_11 : decode b_M_sharesOf 11 = .ok (.if_icmp .ge 18, 3) := by decide +kernel
theorem d_M_sharesOf_14 : decode b_M_sharesOf 14 = .ok (.iload_n 2, 1) := by decide +kernel
theorem d_M_sharesOf_15 : decode b_M_sharesOf 15 = .ok (.aload_n 0, 1) := by decide +kernel
theorem d_M_sharesOf_16 : decode b_M_sharesOf 16 = .ok (.iload_n 3, 1) := by decide +kernel
theorem d_M_sharesOf_17 : decode b_M_sharesOf 17 = .ok (.iload_n 1, 1) := by decide +kernel
theorem d_M_sharesOf_18 : decode b_M_sharesOf 18 = .ok (.invokevirtual 181, 3) := by decide +kernel
theorem d_M_sharesOf_21 : decode b_M_sharesOf 21 = .ok (.iadd, 1) := by decide +kernel
theorem d_M_sharesOf_22 : decode b_M_sharesOf 22 = .ok (.istore_n 2, 1) := by decide +kernel
theorem d_M_sharesOf_23 : decode b_M_sharesOf 23 = .ok (.iinc 3 1, 3) := by decide +kernel
theorem d_M_sharesOf_26 : decode b_M_sharesOf 26 = .ok (.goto (-22), 3) := by decide +kernel
theorem d_M_sharesOf_29 : decode b_M_sharesOf 29 = .ok (.iload_n 2, 1) := by decide +kernel
theorem d_M_sharesOf_30 : decode b_M_sharesOf 30 = .ok (.ireturn, 1) := by decide +kernel
theorem d_M_ridesOfPartner_0 : decode b_M_ridesOfPartner 0 = .ok (.iconst 0, 1) := by decide +kernel
theorem d_M_ridesOfPartner_1 : decode b_M_ridesOfPartner 1 = .ok (.istore_n 2, 1) := by decide +kernel
theorem d_M_ridesOfPartner_2 : decode b_M_ridesOfPartner 2 = .ok (.iconst 0, 1) := by decide +kernel
theorem d_M_ridesOfPartner_3 : decode b_M_ridesOfPartner 3 = .ok (.istore_n 3, 1) := by decide +kernel
theorem d_M_ridesOfPartner_4 : decode b_M_ridesOfPartner 4 = .ok (.iload_n 3, 1) := by decide +kernel
theorem d_M_ridesOfPartner_5 : decode b_M_ridesOfPartner 5 = .ok (.aload_n 0, 1) := by decide +kernel
theorem d_M_ridesOfPartner_6 : decode b_M_ridesOfPartner 6 = .ok (.getfield 9, 3) := by decide +kernel
theorem d_M_ridesOfPartner_9 : decode b_M_ridesOfPartner 9 = .ok (.iconst 4, 1) := by decide +kernel
theorem d_M_ridesOfPartner_10 : decode b_M_ridesOfPartner 10 = .ok (.iaload, 1) := by decide +kernel
theorem d_M_ridesOfPartner_11 : decode b_M_ridesOfPartner 11 = .ok (.if_icmp .ge 32, 3) := by decide +kernel
theorem d_M_ridesOfPartner_14 : decode b_M_ridesOfPartner 14 = .ok (.iload_n 2, 1) := by decide +kernel
theorem d_M_ridesOfPartner_15 : decode b_M_ridesOfPartner 15 = .ok (.aload_n 0, 1) := by decide +kernel
theorem d_M_ridesOfPartner_16 : decode b_M_ridesOfPartner 16 = .ok (.aload_n 0, 1) := by decide +kernel
theorem d_M_ridesOfPartner_17 : decode b_M_ridesOfPartner 17 = .ok (.iload_n 3, 1) := by decide +kernel
theorem d_M_ridesOfPartner_18 : decode b_M_ridesOfPartner 18 = .ok (.iconst 1, 1) := by decide +kernel
theorem d_M_ridesOfPartner_19 : decode b_M_ridesOfPartner 19 = .ok (.invokevirtual 59, 3) := by decide +kernel
theorem d_M_ridesOfPartner_22 : decode b_M_ridesOfPartner 22 = .ok (.iconst 0, 1) := by decide +kernel
theorem d_M_ridesOfPartner_23 : decode b_M_ridesOfPartner 23 = .ok (.invokevirtual 63, 3) := by decide +kernel
theorem d_M_ridesOfPartner_26 : decode b_M_ridesOfPartner 26 = .ok (.iload_n 1, 1) := by decide +kernel
theorem d_M_ridesOfPartner_27 : decode b_M_ridesOfPartner 27 = .ok (.if_icmp .ne 7, 3) := by decide +kernel
theorem d_M_ridesOfPartner_30 : decode b_M_ridesOfPartner 30 = .ok (.iconst 1, 1) := by decide +kernel
theorem d_M_ridesOfPartner_31 : decode b_M_ridesOfPartner 31 = .ok (.goto 4, 3) := by decide +kernel
theorem d_M_ridesOfPartner_34 : decode b_M_ridesOfPartner 34 = .ok (.iconst 0, 1) := by decide +kernel
theorem d_M_ridesOfPartner_35 : decode b_M_ridesOfPartner 35 = .ok (.iadd, 1) := by decide +kernel
theorem d_M_ridesOfPartner_36 : decode b_M_ridesOfPartner 36 = .ok (.istore_n 2, 1) := by decide +kernel
theorem d_M_ridesOfPartner_37 : decode b_M_ridesOfPartner 37 = .ok (.iinc 3 1, 3) := by decide +kernel
theorem d_M_ridesOfPartner_40 : decode b_M_ridesOfPartner 40 = .ok (.goto (-36), 3) := by decide +kernel
theorem d_M_ridesOfPartner_43 : decode b_M_ridesOfPartner 43 = .ok (.iload_n 2, 1) := by decide +kernel
theorem d_M_ridesOfPartner_44 : decode b_M_ridesOfPartner 44 = .ok (.ireturn, 1) := by decide +kernel
theorem d_M_gatesOfPartner_0 : decode b_M_gatesOfPartner 0 = .ok (.iconst 0, 1) := by decide +kernel
theorem d_M_gatesOfPartner_1 : decode b_M_gatesOfPartner 1 = .ok (.istore_n 2, 1) := by decide +kernel
theorem d_M_gatesOfPartner_2 : decode b_M_gatesOfPartner 2 = .ok (.iconst 0, 1) := by decide +kernel
theorem d_M_gatesOfPartner_3 : decode b_M_gatesOfPartner 3 = .ok (.istore_n 3, 1) := by decide +kernel
theorem d_M_gatesOfPartner_4 : decode b_M_gatesOfPartner 4 = .ok (.iload_n 3, 1) := by decide +kernel
theorem d_M_gatesOfPartner_5 : decode b_M_gatesOfPartner 5 = .ok (.aload_n 0, 1) := by decide +kernel
theorem d_M_gatesOfPartner_6 : decode b_M_gatesOfPartner 6 = .ok (.getfield 9, 3) := by decide +kernel
theorem d_M_gatesOfPartner_9 : decode b_M_gatesOfPartner 9 = .ok (.iconst 1, 1) := by decide +kernel
theorem d_M_gatesOfPartner_10 : decode b_M_gatesOfPartner 10 = .ok (.iaload, 1) := by decide +kernel
theorem d_M_gatesOfPartner_11 : decode b_M_gatesOfPartner 11 = .ok (.if_icmp .ge 27, 3) := by decide +kernel
theorem d_M_gatesOfPartner_14 : decode b_M_gatesOfPartner 14 = .ok (.iload_n 2, 1) := by decide +kernel
theorem d_M_gatesOfPartner_15 : decode b_M_gatesOfPartner 15 = .ok (.aload_n 0, 1) := by decide +kernel
theorem d_M_gatesOfPartner_16 : decode b_M_gatesOfPartner 16 = .ok (.iload_n 3, 1) := by decide +kernel
theorem d_M_gatesOfPartner_17 : decode b_M_gatesOfPartner 17 = .ok (.iconst 0, 1) := by decide +kernel
theorem d_M_gatesOfPartner_18 : decode b_M_gatesOfPartner 18 = .ok (.invokevirtual 63, 3) := by decide +kernel
theorem d_M_gatesOfPartner_21 : decode b_M_gatesOfPartner 21 = .ok (.iload_n 1, 1) := by decide +kernel
theorem d_M_gatesOfPartner_22 : decode b_M_gatesOfPartner 22 = .ok (.if_icmp .ne 7, 3) := by decide +kernel
theorem d_M_gatesOfPartner_25 : decode b_M_gatesOfPartner 25 = .ok (.iconst 1, 1) := by decide +kernel
theorem d_M_gatesOfPartner_26 : decode b_M_gatesOfPartner 26 = .ok (.goto 4, 3) := by decide +kernel
theorem d_M_gatesOfPartner_29 : decode b_M_gatesOfPartner 29 = .ok (.iconst 0, 1) := by decide +kernel
theorem d_M_gatesOfPartner_30 : decode b_M_gatesOfPartner 30 = .ok (.iadd, 1) := by decide +kernel
theorem d_M_gatesOfPartner_31 : decode b_M_gatesOfPartner 31 = .ok (.istore_n 2, 1) := by decide +kernel
theorem d_M_gatesOfPartner_32 : decode b_M_gatesOfPartner 32 = .ok (.iinc 3 1, 3) := by decide +kernel
theorem d_M_gatesOfPartner_35 : decode b_M_gatesOfPartner 35 = .ok (.goto (-31), 3) := by decide +kernel
theorem d_M_gatesOfPartner_38 : decode b_M_gatesOfPartner 38 = .ok (.iload_n 2, 1) := by decide +kernel
theorem d_M_gatesOfPartner_39 : decode b_M_gatesOfPartner 39 = .ok (.ireturn, 1) := by decide +kernel
theorem d_M_cardsOfPartner_0 : decode b_M_cardsOfPartner 0 = .ok (.iconst 0, 1) := by decide +kernel
theorem d_M_cardsOfPartner_1 : decode b_M_cardsOfPartner 1 = .ok (.istore_n 2, 1) := by decide +kernel
theorem d_M_cardsOfPartner_2 : decode b_M_cardsOfPartner 2 = .ok (.iconst 0, 1) := by decide +kernel
theorem d_M_cardsOfPartner_3 : decode b_M_cardsOfPartner 3 = .ok (.istore_n 3, 1) := by decide +kernel
theorem d_M_cardsOfPartner_4 : decode b_M_cardsOfPartner 4 = .ok (.iload_n 3, 1) := by decide +kernel
theorem d_M_cardsOfPartner_5 : decode b_M_cardsOfPartner 5 = .ok (.aload_n 0, 1) := by decide +kernel
theorem d_M_cardsOfPartner_6 : decode b_M_cardsOfPartner 6 = .ok (.getfield 9, 3) := by decide +kernel
theorem d_M_cardsOfPartner_9 : decode b_M_cardsOfPartner 9 = .ok (.iconst 3, 1) := by decide +kernel
theorem d_M_cardsOfPartner_10 : decode b_M_cardsOfPartner 10 = .ok (.iaload, 1) := by decide +kernel
theorem d_M_cardsOfPartner_11 : decode b_M_cardsOfPartner 11 = .ok (.if_icmp .ge 26, 3) := by decide +kernel
theorem d_M_cardsOfPartner_14 : decode b_M_cardsOfPartner 14 = .ok (.iload_n 2, 1) := by decide +kernel
theorem d_M_cardsOfPartner_15 : decode b_M_cardsOfPartner 15 = .ok (.aload_n 0, 1) := by decide +kernel
theorem d_M_cardsOfPartner_16 : decode b_M_cardsOfPartner 16 = .ok (.iload_n 3, 1) := by decide +kernel
theorem d_M_cardsOfPartner_17 : decode b_M_cardsOfPartner 17 = .ok (.iload_n 1, 1) := by decide +kernel
theorem d_M_cardsOfPartner_18 : decode b_M_cardsOfPartner 18 = .ok (.invokevirtual 178, 3) := by decide +kernel
theorem d_M_cardsOfPartner_21 : decode b_M_cardsOfPartner 21 = .ok (.ifCond .le 7, 3) := by decide +kernel
theorem d_M_cardsOfPartner_24 : decode b_M_cardsOfPartner 24 = .ok (.iconst 1, 1) := by decide +kernel
theorem d_M_cardsOfPartner_25 : decode b_M_cardsOfPartner 25 = .ok (.goto 4, 3) := by decide +kernel
theorem d_M_cardsOfPartner_28 : decode b_M_cardsOfPartner 28 = .ok (.iconst 0, 1) := by decide +kernel
theorem d_M_cardsOfPartner_29 : decode b_M_cardsOfPartner 29 = .ok (.iadd, 1) := by decide +kernel
theorem d_M_cardsOfPartner_30 : decode b_M_cardsOfPartner 30 = .ok (.istore_n 2, 1) := by decide +kernel
theorem d_M_cardsOfPartner_31 : decode b_M_cardsOfPartner 31 = .ok (.iinc 3 1, 3) := by decide +kernel
theorem d_M_cardsOfPartner_34 : decode b_M_cardsOfPartner 34 = .ok (.goto (-30), 3) := by decide +kernel
theorem d_M_cardsOfPartner_37 : decode b_M_cardsOfPartner 37 = .ok (.iload_n 2, 1) := by decide +kernel
theorem d_M_cardsOfPartner_38 : decode b_M_cardsOfPartner 38 = .ok (.ireturn, 1) := by decide +kernel
theorem d_M_account_0 : decode b_M_account 0 = .ok (.aload_n 0, 1) := by decide +kernel
theorem d_M_account_1 : decode b_M_account 1 = .ok (.iload_n 1, 1) := by decide +kernel
theorem d_M_account_2 : decode b_M_account 2 = .ok (.iconst 0, 1) := by decide +kernel
theorem d_M_account_3 : decode b_M_account 3 = .ok (.iconst 4, 1) := by decide +kernel
theorem d_M_account_4 : decode b_M_account 4 = .ok (.invokestatic 45, 3) := by decide +kernel
theorem d_M_account_7 : decode b_M_account 7 = .ok (.ifCond .eq 7, 3) := by decide +kernel
theorem d_M_account_10 : decode b_M_account 10 = .ok (.iconst 0, 1) := by decide +kernel
theorem d_M_account_11 : decode b_M_account 11 = .ok (.goto 4, 3) := by decide +kernel
theorem d_M_account_14 : decode b_M_account 14 = .ok (.iconst 1, 1) := by decide +kernel
theorem d_M_account_15 : decode b_M_account 15 = .ok (.putfield 33, 3) := by decide +kernel
theorem d_M_account_18 : decode b_M_account 18 = .ok (.aload_n 0, 1) := by decide +kernel
theorem d_M_account_19 : decode b_M_account 19 = .ok (.getfield 33, 3) := by decide +kernel
theorem d_M_account_22 : decode b_M_account 22 = .ok (.ifCond .eq 7, 3) := by decide +kernel
theorem d_M_account_25 : decode b_M_account 25 = .ok (.iconst 0, 1) := by decide +kernel
theorem d_M_account_26 : decode b_M_account 26 = .ok (.goto 20, 3) := by decide +kernel
theorem d_M_account_29 : decode b_M_account 29 = .ok (.iload_n 1, 1) := by decide +kernel
theorem d_M_account_30 : decode b_M_account 30 = .ok (.iconst 2, 1) := by decide +kernel
theorem d_M_account_31 : decode b_M_account 31 = .ok (.if_icmp .ne 10, 3) := by decide +kernel
theorem d_M_account_34 : decode b_M_account 34 = .ok (.aload_n 0, 1) := by decide +kernel
theorem d_M_account_35 : decode b_M_account 35 = .ok (.invokevirtual 196, 3) := by decide +kernel
theorem d_M_account_38 : decode b_M_account 38 = .ok (.goto 8, 3) := by decide +kernel
theorem d_M_account_41 : decode b_M_account 41 = .ok (.aload_n 0, 1) := by decide +kernel
theorem d_M_account_42 : decode b_M_account 42 = .ok (.iload_n 1, 1) := by decide +kernel
theorem d_M_account_43 : decode b_M_account 43 = .ok (.invokevirtual 199, 3) := by decide +kernel
theorem d_M_account_46 : decode b_M_account 46 = .ok (.ireturn, 1) := by decide +kernel
theorem d_M_sharesInAll_0 : decode b_M_sharesInAll 0 = .ok (.iconst 0, 1) := by decide +kernel
theorem d_M_sharesInAll_1 : decode b_M_sharesInAll 1 = .ok (.istore_n 1, 1) := by decide +kernel
theorem d_M_sharesInAll_2 : decode b_M_sharesInAll 2 = .ok (.iconst 0, 1) := by decide +kernel
theorem d_M_sharesInAll_3 : decode b_M_sharesInAll 3 = .ok (.istore_n 2, 1) := by decide +kernel
theorem d_M_sharesInAll_4 : decode b_M_sharesInAll 4 = .ok (.iload_n 2, 1) := by decide +kernel
theorem d_M_sharesInAll_5 : decode b_M_sharesInAll 5 = .ok (.iconst 4, 1) := by decide +kernel
theorem d_M_sharesInAll_6 : decode b_M_sharesInAll 6 = .ok (.if_icmp .ge 17, 3) := by decide +kernel
theorem d_M_sharesInAll_9 : decode b_M_sharesInAll 9 = .ok (.iload_n 1, 1) := by decide +kernel
theorem d_M_sharesInAll_10 : decode b_M_sharesInAll 10 = .ok (.aload_n 0, 1) := by decide +kernel
theorem d_M_sharesInAll_11 : decode b_M_sharesInAll 11 = .ok (.iload_n 2, 1) := by decide +kernel
theorem d_M_sharesInAll_12 : decode b_M_sharesInAll 12 = .ok (.invokevirtual 184, 3) := by decide +kernel
theorem d_M_sharesInAll_15 : decode b_M_sharesInAll 15 = .ok (.iadd, 1) := by decide +kernel
theorem d_M_sharesInAll_16 : decode b_M_sharesInAll 16 = .ok (.istore_n 1, 1) := by decide +kernel
theorem d_M_sharesInAll_17 : decode b_M_sharesInAll 17 = .ok (.iinc 2 1, 3) := by decide +kernel
theorem d_M_sharesInAll_20 : decode b_M_sharesInAll 20 = .ok (.goto (-16), 3) := by decide +kernel
theorem d_M_sharesInAll_23 : decode b_M_sharesInAll 23 = .ok (.iload_n 1, 1) := by decide +kernel
theorem d_M_sharesInAll_24 : decode b_M_sharesInAll 24 = .ok (.ireturn, 1) := by decide +kernel
theorem d_M_sumOf_0 : decode b_M_sumOf 0 = .ok (.iconst 0, 1) := by decide +kernel
theorem d_M_sumOf_1 : decode b_M_sumOf 1 = .ok (.istore_n 2, 1) := by decide +kernel
theorem d_M_sumOf_2 : decode b_M_sumOf 2 = .ok (.iconst 0, 1) := by decide +kernel
theorem d_M_sumOf_3 : decode b_M_sumOf 3 = .ok (.istore_n 3, 1) := by decide +kernel
theorem d_M_sumOf_4 : decode b_M_sumOf 4 = .ok (.iload_n 3, 1) := by decide +kernel
theorem d_M_sumOf_5 : decode b_M_sumOf 5 = .ok (.aload_n 0, 1) := by decide +kernel
theorem d_M_sumOf_6 : decode b_M_sumOf 6 = .ok (.getfield 9, 3) := by decide +kernel
theorem d_M_sumOf_9 : decode b_M_sumOf 9 = .ok (.iconst 3, 1) := by decide +kernel
theorem d_M_sumOf_10 : decode b_M_sumOf 10 = .ok (.iaload, 1) := by decide +kernel
theorem d_M_sumOf_11 : decode b_M_sumOf 11 = .ok (.if_icmp .ge 69, 3) := by decide +kernel
theorem d_M_sumOf_14 : decode b_M_sumOf 14 = .ok (.iload_n 2, 1) := by decide +kernel
theorem d_M_sumOf_15 : decode b_M_sumOf 15 = .ok (.iload_n 1, 1) := by decide +kernel
theorem d_M_sumOf_16 : decode b_M_sumOf 16 = .ok (.ifCond .ne 12, 3) := by decide +kernel
theorem d_M_sumOf_19 : decode b_M_sumOf 19 = .ok (.aload_n 0, 1) := by decide +kernel
theorem d_M_sumOf_20 : decode b_M_sumOf 20 = .ok (.iload_n 3, 1) := by decide +kernel
theorem d_M_sumOf_21 : decode b_M_sumOf 21 = .ok (.iconst 4, 1) := by decide +kernel
theorem d_M_sumOf_22 : decode b_M_sumOf 22 = .ok (.invokevirtual 90, 3) := by decide +kernel
theorem d_M_sumOf_25 : decode b_M_sumOf 25 = .ok (.goto 47, 3) := by decide +kernel
theorem d_M_sumOf_28 : decode b_M_sumOf 28 = .ok (.iload_n 1, 1) := by decide +kernel
theorem d_M_sumOf_29 : decode b_M_sumOf 29 = .ok (.iconst 1, 1) := by decide +kernel
theorem d_M_sumOf_30 : decode b_M_sumOf 30 = .ok (.if_icmp .ne 12, 3) := by decide +kernel
theorem d_M_sumOf_33 : decode b_M_sumOf 33 = .ok (.aload_n 0, 1) := by decide +kernel
theorem d_M_sumOf_34 : decode b_M_sumOf 34 = .ok (.iload_n 3, 1) := by decide +kernel
theorem d_M_sumOf_35 : decode b_M_sumOf 35 = .ok (.iconst 3, 1) := by decide +kernel
theorem d_M_sumOf_36 : decode b_M_sumOf 36 = .ok (.invokevirtual 90, 3) := by decide +kernel
theorem d_M_sumOf_39 : decode b_M_sumOf 39 = .ok (.goto 33, 3) := by decide +kernel
theorem d_M_sumOf_42 : decode b_M_sumOf 42 = .ok (.iload_n 1, 1) := by decide +kernel
theorem d_M_sumOf_43 : decode b_M_sumOf 43 = .ok (.iconst 4, 1) := by decide +kernel
theorem d_M_sumOf_44 : decode b_M_sumOf 44 = .ok (.if_icmp .ne 11, 3) := by decide +kernel
theorem d_M_sumOf_47 : decode b_M_sumOf 47 = .ok (.aload_n 0, 1) := by decide +kernel
theorem d_M_sumOf_48 : decode b_M_sumOf 48 = .ok (.iload_n 3, 1) := by decide +kernel
theorem d_M_sumOf_49 : decode b_M_sumOf 49 = .ok (.invokevirtual 172, 3) := by decide +kernel
theorem d_M_sumOf_52 : decode b_M_sumOf 52 = .ok (.goto 20, 3) := by decide +kernel
theorem d_M_sumOf_55 : decode b_M_sumOf 55 = .ok (.aload_n 0, 1) := by decide +kernel
theorem d_M_sumOf_56 : decode b_M_sumOf 56 = .ok (.iload_n 3, 1) := by decide +kernel
theorem d_M_sumOf_57 : decode b_M_sumOf 57 = .ok (.invokevirtual 136, 3) := by decide +kernel
theorem d_M_sumOf_60 : decode b_M_sumOf 60 = .ok (.ifCond .ne 11, 3) := by decide +kernel
theorem d_M_sumOf_63 : decode b_M_sumOf 63 = .ok (.aload_n 0, 1) := by decide +kernel
theorem d_M_sumOf_64 : decode b_M_sumOf 64 = .ok (.iload_n 3, 1) := by decide +kernel
theorem d_M_sumOf_65 : decode b_M_sumOf 65 = .ok (.invokevirtual 175, 3) := by decide +kernel
theorem d_M_sumOf_68 : decode b_M_sumOf 68 = .ok (.goto 4, 3) := by decide +kernel
theorem d_M_sumOf_71 : decode b_M_sumOf 71 = .ok (.iconst 0, 1) := by decide +kernel
theorem d_M_sumOf_72 : decode b_M_sumOf 72 = .ok (.iadd, 1) := by decide +kernel
theorem d_M_sumOf_73 : decode b_M_sumOf 73 = .ok (.istore_n 2, 1) := by decide +kernel
theorem d_M_sumOf_74 : decode b_M_sumOf 74 = .ok (.iinc 3 1, 3) := by decide +kernel
theorem d_M_sumOf_77 : decode b_M_sumOf 77 = .ok (.goto (-73), 3) := by decide +kernel
theorem d_M_sumOf_80 : decode b_M_sumOf 80 = .ok (.iload_n 2, 1) := by decide +kernel
theorem d_M_sumOf_81 : decode b_M_sumOf 81 = .ok (.ireturn, 1) := by decide +kernel
theorem d_M_meanRides_0 : decode b_M_meanRides 0 = .ok (.aload_n 0, 1) := by decide +kernel
theorem d_M_meanRides_1 : decode b_M_meanRides 1 = .ok (.iconst 0, 1) := by decide +kernel
theorem d_M_meanRides_2 : decode b_M_meanRides 2 = .ok (.putfield 33, 3) := by decide +kernel
theorem d_M_meanRides_5 : decode b_M_meanRides 5 = .ok (.iconst 0, 1) := by decide +kernel
theorem d_M_meanRides_6 : decode b_M_meanRides 6 = .ok (.istore_n 1, 1) := by decide +kernel
theorem d_M_meanRides_7 : decode b_M_meanRides 7 = .ok (.iconst 0, 1) := by decide +kernel
theorem d_M_meanRides_8 : decode b_M_meanRides 8 = .ok (.istore_n 2, 1) := by decide +kernel
theorem d_M_meanRides_9 : decode b_M_meanRides 9 = .ok (.iload_n 2, 1) := by decide +kernel
theorem d_M_meanRides_10 : decode b_M_meanRides 10 = .ok (.aload_n 0, 1) := by decide +kernel
theorem d_M_meanRides_11 : decode b_M_meanRides 11 = .ok (.getfield 9, 3) := by decide +kernel
theorem d_M_meanRides_14 : decode b_M_meanRides 14 = .ok (.iconst 3, 1) := by decide +kernel
theorem d_M_meanRides_15 : decode b_M_meanRides 15 = .ok (.iaload, 1) := by decide +kernel
theorem d_M_meanRides_16 : decode b_M_meanRides 16 = .ok (.if_icmp .ge 27, 3) := by decide +kernel
theorem d_M_meanRides_19 : decode b_M_meanRides 19 = .ok (.iload_n 1, 1) := by decide +kernel
theorem d_M_meanRides_20 : decode b_M_meanRides 20 = .ok (.aload_n 0, 1) := by decide +kernel
theorem d_M_meanRides_21 : decode b_M_meanRides 21 = .ok (.iload_n 2, 1) := by decide +kernel
theorem d_M_meanRides_22 : decode b_M_meanRides 22 = .ok (.iconst 1, 1) := by decide +kernel
theorem d_M_meanRides_23 : decode b_M_meanRides 23 = .ok (.invokevirtual 90, 3) := by decide +kernel
theorem d_M_meanRides_26 : decode b_M_meanRides 26 = .ok (.iconst 2, 1) := by decide +kernel
theorem d_M_meanRides_27 : decode b_M_meanRides 27 = .ok (.if_icmp .ne 7, 3) := by decide +kernel
theorem d_M_meanRides_30 : decode b_M_meanRides 30 = .ok (.iconst 0, 1) := by decide +kernel
theorem d_M_meanRides_31 : decode b_M_meanRides 31 = .ok (.goto 4, 3) := by decide +kernel
theorem d_M_meanRides_34 : decode b_M_meanRides 34 = .ok (.iconst 1, 1) := by decide +kernel
theorem d_M_meanRides_35 : decode b_M_meanRides 35 = .ok (.iadd, 1) := by decide +kernel
theorem d_M_meanRides_36 : decode b_M_meanRides 36 = .ok (.istore_n 1, 1) := by decide +kernel
theorem d_M_meanRides_37 : decode b_M_meanRides 37 = .ok (.iinc 2 1, 3) := by decide +kernel
theorem d_M_meanRides_40 : decode b_M_meanRides 40 = .ok (.goto (-31), 3) := by decide +kernel
theorem d_M_meanRides_43 : decode b_M_meanRides 43 = .ok (.iload_n 1, 1) := by decide +kernel
theorem d_M_meanRides_44 : decode b_M_meanRides 44 = .ok (.ifCond .ne 10, 3) := by decide +kernel
theorem d_M_meanRides_47 : decode b_M_meanRides 47 = .ok (.aload_n 0, 1) := by decide +kernel
theorem d_M_meanRides_48 : decode b_M_meanRides 48 = .ok (.iconst 1, 1) := by decide +kernel
theorem d_M_meanRides_49 : decode b_M_meanRides 49 = .ok (.putfield 33, 3) := by decide +kernel
theorem d_M_meanRides_52 : decode b_M_meanRides 52 = .ok (.dconst 0, 1) := by decide +kernel
theorem d_M_meanRides_53 : decode b_M_meanRides 53 = .ok (.dreturn, 1) := by decide +kernel
theorem d_M_meanRides_54 : decode b_M_meanRides 54 = .ok (.aload_n 0, 1) := by decide +kernel
theorem d_M_meanRides_55 : decode b_M_meanRides 55 = .ok (.getfield 9, 3) := by decide +kernel
theorem d_M_meanRides_58 : decode b_M_meanRides 58 = .ok (.iconst 4, 1) := by decide +kernel
theorem d_M_meanRides_59 : decode b_M_meanRides 59 = .ok (.iaload, 1) := by decide +kernel
theorem d_M_meanRides_60 : decode b_M_meanRides 60 = .ok (.i2d, 1) := by decide +kernel
theorem d_M_meanRides_61 : decode b_M_meanRides 61 = .ok (.iload_n 1, 1) := by decide +kernel
theorem d_M_meanRides_62 : decode b_M_meanRides 62 = .ok (.i2d, 1) := by decide +kernel
theorem d_M_meanRides_63 : decode b_M_meanRides 63 = .ok (.ddiv, 1) := by decide +kernel
theorem d_M_meanRides_64 : decode b_M_meanRides 64 = .ok (.dreturn, 1) := by decide +kernel
theorem d_M_closedShare_0 : decode b_M_closedShare 0 = .ok (.aload_n 0, 1) := by decide +kernel
theorem d_M_closedShare_1 : decode b_M_closedShare 1 = .ok (.aload_n 0, 1) := by decide +kernel
theorem d_M_closedShare_2 : decode b_M_closedShare 2 = .ok (.iload_n 1, 1) := by decide +kernel
theorem d_M_closedShare_3 : decode b_M_closedShare 3 = .ok (.invokevirtual 69, 3) := by decide +kernel
theorem d_M_closedShare_6 : decode b_M_closedShare 6 = .ok (.ifCond .eq 7, 3) := by decide +kernel
theorem d_M_closedShare_9 : decode b_M_closedShare 9 = .ok (.iconst 0, 1) := by decide +kernel
theorem d_M_closedShare_10 : decode b_M_closedShare 10 = .ok (.goto 4, 3) := by decide +kernel
theorem d_M_closedShare_13 : decode b_M_closedShare 13 = .ok (.iconst 1, 1) := by decide +kernel
theorem d_M_closedShare_14 : decode b_M_closedShare 14 = .ok (.putfield 33, 3) := by decide +kernel
theorem d_M_closedShare_17 : decode b_M_closedShare 17 = .ok (.aload_n 0, 1) := by decide +kernel
theorem d_M_closedShare_18 : decode b_M_closedShare 18 = .ok (.getfield 33, 3) := by decide +kernel
theorem d_M_closedShare_21 : decode b_M_closedShare 21 = .ok (.ifCond .eq 5, 3) := by decide +kernel
theorem d_M_closedShare_24 : decode b_M_closedShare 24 = .ok (.fconst 0, 1) := by decide +kernel
theorem d_M_closedShare_25 : decode b_M_closedShare 25 = .ok (.freturn, 1) := by decide +kernel
theorem d_M_closedShare_26 : decode b_M_closedShare 26 = .ok (.sipush 480, 3) := by decide +kernel
theorem d_M_closedShare_29 : decode b_M_closedShare 29 = .ok (.aload_n 0, 1) := by decide +kernel
theorem d_M_closedShare_30 : decode b_M_closedShare 30 = .ok (.invokevirtual 76, 3) := by decide +kernel
theorem d_M_closedShare_33 : decode b_M_closedShare 33 = .ok (.imul, 1) := by decide +kernel
theorem d_M_closedShare_34 : decode b_M_closedShare 34 = .ok (.istore_n 2, 1) := by decide +kernel
theorem d_M_closedShare_35 : decode b_M_closedShare 35 = .ok (.aload_n 0, 1) := by decide +kernel
theorem d_M_closedShare_36 : decode b_M_closedShare 36 = .ok (.getfield 9, 3) := by decide +kernel
theorem d_M_closedShare_39 : decode b_M_closedShare 39 = .ok (.iconst 0, 1) := by decide +kernel
theorem d_M_closedShare_40 : decode b_M_closedShare 40 = .ok (.iaload, 1) := by decide +kernel
theorem d_M_closedShare_41 : decode b_M_closedShare 41 = .ok (.sipush 1440, 3) := by decide +kernel
theorem d_M_closedShare_44 : decode b_M_closedShare 44 = .ok (.irem, 1) := by decide +kernel
theorem d_M_closedShare_45 : decode b_M_closedShare 45 = .ok (.sipush 480, 3) := by decide +kernel
theorem d_M_closedShare_48 : decode b_M_closedShare 48 = .ok (.isub, 1) := by decide +kernel
theorem d_M_closedShare_49 : decode b_M_closedShare 49 = .ok (.istore_n 3, 1) := by decide +kernel
theorem d_M_closedShare_50 : decode b_M_closedShare 50 = .ok (.iload_n 2, 1) := by decide +kernel
theorem d_M_closedShare_51 : decode b_M_closedShare 51 = .ok (.iload_n 3, 1) := by decide +kernel
theorem d_M_closedShare_52 : decode b_M_closedShare 52 = .ok (.ifCond .ge 7, 3) := by decide +kernel
theorem d_M_closedShare_55 : decode b_M_closedShare 55 = .ok (.iconst 0, 1) := by decide +kernel
theorem d_M_closedShare_56 : decode b_M_closedShare 56 = .ok (.goto 17, 3) := by decide +kernel
theorem d_M_closedShare_59 : decode b_M_closedShare 59 = .ok (.iload_n 3, 1) := by decide +kernel
theorem d_M_closedShare_60 : decode b_M_closedShare 60 = .ok (.sipush 480, 3) := by decide +kernel
theorem d_M_closedShare_63 : decode b_M_closedShare 63 = .ok (.if_icmp .le 9, 3) := by decide +kernel
theorem d_M_closedShare_66 : decode b_M_closedShare 66 = .ok (.sipush 480, 3) := by decide +kernel
theorem d_M_closedShare_69 : decode b_M_closedShare 69 = .ok (.goto 4, 3) := by decide +kernel
theorem d_M_closedShare_72 : decode b_M_closedShare 72 = .ok (.iload_n 3, 1) := by decide +kernel
theorem d_M_closedShare_73 : decode b_M_closedShare 73 = .ok (.iadd, 1) := by decide +kernel
theorem d_M_closedShare_74 : decode b_M_closedShare 74 = .ok (.istore_n 2, 1) := by decide +kernel
theorem d_M_closedShare_75 : decode b_M_closedShare 75 = .ok (.iload_n 2, 1) := by decide +kernel
theorem d_M_closedShare_76 : decode b_M_closedShare 76 = .ok (.ifCond .ne 10, 3) := by decide +kernel
theorem d_M_closedShare_79 : decode b_M_closedShare 79 = .ok (.aload_n 0, 1) := by decide +kernel
theorem d_M_closedShare_80 : decode b_M_closedShare 80 = .ok (.iconst 2, 1) := by decide +kernel
theorem d_M_closedShare_81 : decode b_M_closedShare 81 = .ok (.putfield 33, 3) := by decide +kernel
theorem d_M_closedShare_84 : decode b_M_closedShare 84 = .ok (.fconst 0, 1) := by decide +kernel
theorem d_M_closedShare_85 : decode b_M_closedShare 85 = .ok (.freturn, 1) := by decide +kernel
theorem d_M_closedShare_86 : decode b_M_closedShare 86 = .ok (.aload_n 0, 1) := by decide +kernel
theorem d_M_closedShare_87 : decode b_M_closedShare 87 = .ok (.iload_n 1, 1) := by decide +kernel
theorem d_M_closedShare_88 : decode b_M_closedShare 88 = .ok (.invokevirtual 80, 3) := by decide +kernel
theorem d_M_closedShare_91 : decode b_M_closedShare 91 = .ok (.i2f, 1) := by decide +kernel
theorem d_M_closedShare_92 : decode b_M_closedShare 92 = .ok (.iload_n 2, 1) := by decide +kernel
theorem d_M_closedShare_93 : decode b_M_closedShare 93 = .ok (.i2f, 1) := by decide +kernel
theorem d_M_closedShare_94 : decode b_M_closedShare 94 = .ok (.fdiv, 1) := by decide +kernel
theorem d_M_closedShare_95 : decode b_M_closedShare 95 = .ok (.freturn, 1) := by decide +kernel
theorem d_M_isConsistent_0 : decode b_M_isConsistent 0 = .ok (.aload_n 0, 1) := by decide +kernel
theorem d_M_isConsistent_1 : decode b_M_isConsistent 1 = .ok (.iconst 0, 1) := by decide +kernel
theorem d_M_isConsistent_2 : decode b_M_isConsistent 2 = .ok (.putfield 33, 3) := by decide +kernel
theorem d_M_isConsistent_5 : decode b_M_isConsistent 5 = .ok (.aload_n 0, 1) := by decide +kernel
theorem d_M_isConsistent_6 : decode b_M_isConsistent 6 = .ok (.iconst 0, 1) := by decide +kernel
theorem d_M_isConsistent_7 : decode b_M_isConsistent 7 = .ok (.invokevirtual 199, 3) := by decide +kernel
theorem d_M_isConsistent_10 : decode b_M_isConsistent 10 = .ok (.aload_n 0, 1) := by decide +kernel
theorem d_M_isConsistent_11 : decode b_M_isConsistent 11 = .ok (.iconst 1, 1) := by decide +kernel
theorem d_M_isConsistent_12 : decode b_M_isConsistent 12 = .ok (.invokevirtual 199, 3) := by decide +kernel
theorem d_M_isConsistent_15 : decode b_M_isConsistent 15 = .ok (.aload_n 0, 1) := by decide +kernel
theorem d_M_isConsistent_16 : decode b_M_isConsistent 16 = .ok (.invokevirtual 196, 3) := by decide +kernel
theorem d_M_isConsistent_19 : decode b_M_isConsistent 19 = .ok (.iadd, 1) := by decide +kernel
theorem d_M_isConsistent_20 : decode b_M_isConsistent 20 = .ok (.aload_n 0, 1) := by decide +kernel
theorem d_M_isConsistent_21 : decode b_M_isConsistent 21 = .ok (.iconst 3, 1) := by decide +kernel
theorem d_M_isConsistent_22 : decode b_M_isConsistent 22 = .ok (.invokevirtual 199, 3) := by decide +kernel
theorem d_M_isConsistent_25 : decode b_M_isConsistent 25 = .ok (.iadd, 1) := by decide +kernel
theorem d_M_isConsistent_26 : decode b_M_isConsistent 26 = .ok (.if_icmp .ne 7, 3) := by decide +kernel
theorem d_M_isConsistent_29 : decode b_M_isConsistent 29 = .ok (.iconst 1, 1) := by decide +kernel
theorem d_M_isConsistent_30 : decode b_M_isConsistent 30 = .ok (.goto 4, 3) := by decide +kernel
theorem d_M_isConsistent_33 : decode b_M_isConsistent 33 = .ok (.iconst 0, 1) := by decide +kernel
theorem d_M_isConsistent_34 : decode b_M_isConsistent 34 = .ok (.istore_n 1, 1) := by decide +kernel
theorem d_M_isConsistent_35 : decode b_M_isConsistent 35 = .ok (.iconst 0, 1) := by decide +kernel
theorem d_M_isConsistent_36 : decode b_M_isConsistent 36 = .ok (.istore_n 2, 1) := by decide +kernel
theorem d_M_isConsistent_37 : decode b_M_isConsistent 37 = .ok (.iconst 0, 1) := by decide +kernel
theorem d_M_isConsistent_38 : decode b_M_isConsistent 38 = .ok (.istore_n 3, 1) := by decide +kernel
theorem d_M_isConsistent_39 : decode b_M_isConsistent 39 = .ok (.iload_n 3, 1) := by decide +kernel
theorem d_M_isConsistent_40 : decode b_M_isConsistent 40 = .ok (.aload_n 0, 1) := by decide +kernel
theorem d_M_isConsistent_41 : decode b_M_isConsistent 41 = .ok (.getfield 9, 3) := by decide +kernel
theorem d_M_isConsistent_44 : decode b_M_isConsistent 44 = .ok (.iconst 1, 1) := by decide +kernel
theorem d_M_isConsistent_45 : decode b_M_isConsistent 45 = .ok (.iaload, 1) := by decide +kernel
theorem d_M_isConsistent_46 : decode b_M_isConsistent 46 = .ok (.if_icmp .ge 17, 3) := by decide +kernel
theorem d_M_isConsistent_49 : decode b_M_isConsistent 49 = .ok (.iload_n 2, 1) := by decide +kernel
theorem d_M_isConsistent_50 : decode b_M_isConsistent 50 = .ok (.aload_n 0, 1) := by decide +kernel
theorem d_M_isConsistent_51 : decode b_M_isConsistent 51 = .ok (.iload_n 3, 1) := by decide +kernel
theorem d_M_isConsistent_52 : decode b_M_isConsistent 52 = .ok (.invokevirtual 73, 3) := by decide +kernel
theorem d_M_isConsistent_55 : decode b_M_isConsistent 55 = .ok (.iadd, 1) := by decide +kernel
theorem d_M_isConsistent_56 : decode b_M_isConsistent 56 = .ok (.istore_n 2, 1) := by decide +kernel
theorem d_M_isConsistent_57 : decode b_M_isConsistent 57 = .ok (.iinc 3 1, 3) := by decide +kernel
theorem d_M_isConsistent_60 : decode b_M_isConsistent 60 = .ok (.goto (-21), 3) := by decide +kernel
theorem d_M_isConsistent_63 : decode b_M_isConsistent 63 = .ok (.iconst 0, 1) := by decide +kernel
theorem d_M_isConsistent_64 : decode b_M_isConsistent 64 = .ok (.istore_n 3, 1) := by decide +kernel
theorem d_M_isConsistent_65 : decode b_M_isConsistent 65 = .ok (.iload_n 3, 1) := by decide +kernel
theorem d_M_isConsistent_66 : decode b_M_isConsistent 66 = .ok (.aload_n 0, 1) := by decide +kernel
theorem d_M_isConsistent_67 : decode b_M_isConsistent 67 = .ok (.getfield 9, 3) := by decide +kernel
theorem d_M_isConsistent_70 : decode b_M_isConsistent 70 = .ok (.iconst 3, 1) := by decide +kernel
theorem d_M_isConsistent_71 : decode b_M_isConsistent 71 = .ok (.iaload, 1) := by decide +kernel
theorem d_M_isConsistent_72 : decode b_M_isConsistent 72 = .ok (.if_icmp .ge 102, 3) := by decide +kernel
theorem d_M_isConsistent_75 : decode b_M_isConsistent 75 = .ok (.iload_n 2, 1) := by decide +kernel
theorem d_M_isConsistent_76 : decode b_M_isConsistent 76 = .ok (.aload_n 0, 1) := by decide +kernel
theorem d_M_isConsistent_77 : decode b_M_isConsistent 77 = .ok (.iload_n 3, 1) := by decide +kernel
theorem d_M_isConsistent_78 : decode b_M_isConsistent 78 = .ok (.invokevirtual 136, 3) := by decide +kernel
theorem d_M_isConsistent_81 : decode b_M_isConsistent 81 = .ok (.isub, 1) := by decide +kernel
theorem d_M_isConsistent_82 : decode b_M_isConsistent 82 = .ok (.istore_n 2, 1) := by decide +kernel
theorem d_M_isConsistent_83 : decode b_M_isConsistent 83 = .ok (.iconst 1, 1) := by decide +kernel
theorem d_M_isConsistent_84 : decode b_M_isConsistent 84 = .ok (.istore 4, 2) := by decide +kernel
theorem d_M_isConsistent_86 : decode b_M_isConsistent 86 = .ok (.iload 4, 2) := by decide +kernel
theorem d_M_isConsistent_88 : decode b_M_isConsistent 88 = .ok (.aload_n 0, 1) := by decide +kernel
theorem d_M_isConsistent_89 : decode b_M_isConsistent 89 = .ok (.iload_n 3, 1) := by decide +kernel
theorem d_M_isConsistent_90 : decode b_M_isConsistent 90 = .ok (.invokevirtual 136, 3) := by decide +kernel
theorem d_M_isConsistent_93 : decode b_M_isConsistent 93 = .ok (.if_icmp .ge 75, 3) := by decide +kernel
theorem d_M_isConsistent_96 : decode b_M_isConsistent 96 = .ok (.aload_n 0, 1) := by decide +kernel
theorem d_M_isConsistent_97 : decode b_M_isConsistent 97 = .ok (.iload_n 3, 1) := by decide +kernel
theorem d_M_isConsistent_98 : decode b_M_isConsistent 98 = .ok (.iload 4, 2) := by decide +kernel
theorem d_M_isConsistent_100 : decode b_M_isConsistent 100 = .ok (.iconst 1, 1) := by decide +kernel
theorem d_M_isConsistent_101 : decode b_M_isConsistent 101 = .ok (.isub, 1) := by decide +kernel
theorem d_M_isConsistent_102 : decode b_M_isConsistent 102 = .ok (.invokevirtual 139, 3) := by decide +kernel
theorem d_M_isConsistent_105 : decode b_M_isConsistent 105 = .ok (.istore 5, 2) := by decide +kernel
theorem d_M_isConsistent_107 : decode b_M_isConsistent 107 = .ok (.aload_n 0, 1) := by decide +kernel
theorem d_M_isConsistent_108 : decode b_M_isConsistent 108 = .ok (.iload_n 3, 1) := by decide +kernel
theorem d_M_isConsistent_109 : decode b_M_isConsistent 109 = .ok (.iload 4, 2) := by decide +kernel
theorem d_M_isConsistent_111 : decode b_M_isConsistent 111 = .ok (.invokevirtual 139, 3) := by decide +kernel
theorem d_M_isConsistent_114 : decode b_M_isConsistent 114 = .ok (.istore 6, 2) := by decide +kernel
theorem d_M_isConsistent_116 : decode b_M_isConsistent 116 = .ok (.iload_n 1, 1) := by decide +kernel
theorem d_M_isConsistent_117 : decode b_M_isConsistent 117 = .ok (.ifCond .eq 43, 3) := by decide +kernel
theorem d_M_isConsistent_120 : decode b_M_isConsistent 120 = .ok (.aload_n 0, 1) := by decide +kernel
theorem d_M_isConsistent_121 : decode b_M_isConsistent 121 = .ok (.iload 6, 2) := by decide +kernel
theorem d_M_isConsistent_123 : decode b_M_isConsistent 123 = .ok (.iconst 2, 1) := by decide +kernel
theorem d_M_isConsistent_124 : decode b_M_isConsistent 124 = .ok (.invokevirtual 59, 3) := by decide +kernel
theorem d_M_isConsistent_127 : decode b_M_isConsistent 127 = .ok (.aload_n 0, 1) := by decide +kernel
theorem d_M_isConsistent_128 : decode b_M_isConsistent 128 = .ok (.iload 5, 2) := by decide +kernel
theorem d_M_isConsistent_130 : decode b_M_isConsistent 130 = .ok (.iconst 2, 1) := by decide +kernel
theorem d_M_isConsistent_131 : decode b_M_isConsistent 131 = .ok (.invokevirtual 59, 3) := by decide +kernel
theorem d_M_isConsistent_134 : decode b_M_isConsistent 134 = .ok (.isub, 1) := by decide +kernel
theorem d_M_isConsistent_135 : decode b_M_isConsistent 135 = .ok (.aload_n 0, 1) := by decide +kernel
theorem d_M_isConsistent_136 : decode b_M_isConsistent 136 = .ok (.aload_n 0, 1) := by decide +kernel
theorem d_M_isConsistent_137 : decode b_M_isConsistent 137 = .ok (.iload 5, 2) := by decide +kernel
theorem d_M_isConsistent_139 : decode b_M_isConsistent 139 = .ok (.iconst 1, 1) := by decide +kernel
theorem d_M_isConsistent_140 : decode b_M_isConsistent 140 = .ok (.invokevirtual 59, 3) := by decide +kernel
theorem d_M_isConsistent_143 : decode b_M_isConsistent 143 = .ok (.aload_n 0, 1) := by decide +kernel
theorem d_M_isConsistent_144 : decode b_M_isConsistent 144 = .ok (.iload 6, 2) := by decide +kernel
theorem d_M_isConsistent_146 : decode b_M_isConsistent 146 = .ok (.iconst 1, 1) := by decide +kernel
theorem d_M_isConsistent_147 : decode b_M_isConsistent 147 = .ok (.invokevirtual 59, 3) := by decide +kernel
theorem d_M_isConsistent_150 : decode b_M_isConsistent 150 = .ok (.invokevirtual 103, 3) := by decide +kernel
theorem d_M_isConsistent_153 : decode b_M_isConsistent 153 = .ok (.if_icmp .lt 7, 3) := by decide +kernel
theorem d_M_isConsistent_156 : decode b_M_isConsistent 156 = .ok (.iconst 1, 1) := by decide +kernel
theorem d_M_isConsistent_157 : decode b_M_isConsistent 157 = .ok (.goto 4, 3) := by decide +kernel
theorem d_M_isConsistent_160 : decode b_M_isConsistent 160 = .ok (.iconst 0, 1) := by decide +kernel
theorem d_M_isConsistent_161 : decode b_M_isConsistent 161 = .ok (.istore_n 1, 1) := by decide +kernel
theorem d_M_isConsistent_162 : decode b_M_isConsistent 162 = .ok (.iinc 4 1, 3) := by decide +kernel
theorem d_M_isConsistent_165 : decode b_M_isConsistent 165 = .ok (.goto (-79), 3) := by decide +kernel
theorem d_M_isConsistent_168 : decode b_M_isConsistent 168 = .ok (.iinc 3 1, 3) := by decide +kernel
theorem d_M_isConsistent_171 : decode b_M_isConsistent 171 = .ok (.goto (-106), 3) := by decide +kernel
theorem d_M_isConsistent_174 : decode b_M_isConsistent 174 = .ok (.iload_n 1, 1) := by decide +kernel
theorem d_M_isConsistent_175 : decode b_M_isConsistent 175 = .ok (.ifCond .eq 11, 3) := by decide +kernel
theorem d_M_isConsistent_178 : decode b_M_isConsistent 178 = .ok (.iload_n 2, 1) := by decide +kernel
theorem d_M_isConsistent_179 : decode b_M_isConsistent 179 = .ok (.ifCond .ne 7, 3) := by decide +kernel
theorem d_M_isConsistent_182 : decode b_M_isConsistent 182 = .ok (.iconst 1, 1) := by decide +kernel
theorem d_M_isConsistent_183 : decode b_M_isConsistent 183 = .ok (.goto 4, 3) := by decide +kernel
theorem d_M_isConsistent_186 : decode b_M_isConsistent 186 = .ok (.iconst 0, 1) := by decide +kernel
theorem d_M_isConsistent_187 : decode b_M_isConsistent 187 = .ok (.ireturn, 1) := by decide +kernel
theorem d_M_append_0 : decode b_M_append 0 = .ok (.aload_n 0, 1) := by decide +kernel
theorem d_M_append_1 : decode b_M_append 1 = .ok (.iconst 0, 1) := by decide +kernel
theorem d_M_append_2 : decode b_M_append 2 = .ok (.putfield 33, 3) := by decide +kernel
theorem d_M_append_5 : decode b_M_append 5 = .ok (.iconst 0, 1) := by decide +kernel
theorem d_M_append_6 : decode b_M_append 6 = .ok (.istore_n 2, 1) := by decide +kernel
theorem d_M_append_7 : decode b_M_append 7 = .ok (.bipush 24, 2) := by decide +kernel
theorem d_M_append_9 : decode b_M_append 9 = .ok (.istore_n 3, 1) := by decide +kernel
theorem d_M_append_10 : decode b_M_append 10 = .ok (.iload_n 3, 1) := by decide +kernel
theorem d_M_append_11 : decode b_M_append 11 = .ok (.ifCond .lt 54, 3) := by decide +kernel
theorem d_M_append_14 : decode b_M_append 14 = .ok (.iload_n 1, 1) := by decide +kernel
theorem d_M_append_15 : decode b_M_append 15 = .ok (.iload_n 3, 1) := by decide +kernel
theorem d_M_append_16 : decode b_M_append 16 = .ok (.iushr, 1) := by decide +kernel
theorem d_M_append_17 : decode b_M_append 17 = .ok (.sipush 255, 3) := by decide +kernel
theorem d_M_append_20 : decode b_M_append 20 = .ok (.iand, 1) := by decide +kernel
theorem d_M_append_21 : decode b_M_append 21 = .ok (.istore 4, 2) := by decide +kernel
theorem d_M_append_23 : decode b_M_append 23 = .ok (.iload 4, 2) := by decide +kernel
theorem d_M_append_25 : decode b_M_append 25 = .ok (.ifCond .eq 21, 3) := by decide +kernel
theorem d_M_append_28 : decode b_M_append 28 = .ok (.iload 4, 2) := by decide +kernel
theorem d_M_append_30 : decode b_M_append 30 = .ok (.bipush 32, 2) := by decide +kernel
theorem d_M_append_32 : decode b_M_append 32 = .ok (.bipush 126, 2) := by decide +kernel
theorem d_M_append_34 : decode b_M_append 34 = .ok (.invokestatic 45, 3) := by decide +kernel
theorem d_M_append_37 : decode b_M_append 37 = .ok (.ifCond .ne 9, 3) := by decide +kernel
theorem d_M_append_40 : decode b_M_append 40 = .ok (.aload_n 0, 1) := by decide +kernel
theorem d_M_append_41 : decode b_M_append 41 = .ok (.iconst 1, 1) := by decide +kernel
theorem d_M_append_42 : decode b_M_append 42 = .ok (.invokevirtual 52, 3) := by decide +kernel
theorem d_M_append_45 : decode b_M_append 45 = .ok (.ireturn, 1) := by decide +kernel
theorem d_M_append_46 : decode b_M_append 46 = .ok (.iload_n 2, 1) := by decide +kernel
theorem d_M_append_47 : decode b_M_append 47 = .ok (.iload 4, 2) := by decide +kernel
theorem d_M_append_49 : decode b_M_append 49 = .ok (.ifCond .ne 7, 3) := by decide +kernel
theorem d_M_append_52 : decode b_M_append 52 = .ok (.iconst 0, 1) := by decide +kernel
theorem d_M_append_53 : decode b_M_append 53 = .ok (.goto 4, 3) := by decide +kernel
theorem d_M_append_56 : decode b_M_append 56 = .ok (.iconst 1, 1) := by decide +kernel
theorem d_M_append_57 : decode b_M_append 57 = .ok (.iadd, 1) := by decide +kernel
theorem d_M_append_58 : decode b_M_append 58 = .ok (.istore_n 2, 1) := by decide +kernel
theorem d_M_append_59 : decode b_M_append 59 = .ok (.iinc 3 (-8), 3) := by decide +kernel
theorem d_M_append_62 : decode b_M_append 62 = .ok (.goto (-52), 3) := by decide +kernel
theorem d_M_append_65 : decode b_M_append 65 = .ok (.aload_n 0, 1) := by decide +kernel
theorem d_M_append_66 : decode b_M_append 66 = .ok (.getfield 120, 3) := by decide +kernel
theorem d_M_append_69 : decode b_M_append 69 = .ok (.iload_n 2, 1) := by decide +kernel
theorem d_M_append_70 : decode b_M_append 70 = .ok (.iadd, 1) := by decide +kernel
theorem d_M_append_71 : decode b_M_append 71 = .ok (.bipush 60, 2) := by decide +kernel
theorem d_M_append_73 : decode b_M_append 73 = .ok (.if_icmp .le 9, 3) := by decide +kernel
theorem d_M_append_76 : decode b_M_append 76 = .ok (.aload_n 0, 1) := by decide +kernel
theorem d_M_append_77 : decode b_M_append 77 = .ok (.iconst 2, 1) := by decide +kernel
theorem d_M_append_78 : decode b_M_append 78 = .ok (.invokevirtual 52, 3) := by decide +kernel
theorem d_M_append_81 : decode b_M_append 81 = .ok (.ireturn, 1) := by decide +kernel
theorem d_M_append_82 : decode b_M_append 82 = .ok (.bipush 24, 2) := by decide +kernel
theorem d_M_append_84 : decode b_M_append 84 = .ok (.istore_n 3, 1) := by decide +kernel
theorem d_M_append_85 : decode b_M_append 85 = .ok (.iload_n 3, 1) := by decide +kernel
theorem d_M_append_86 : decode b_M_append 86 = .ok (.ifCond .lt 45, 3) := by decide +kernel
theorem d_M_append_89 : decode b_M_append 89 = .ok (.iload_n 1, 1) := by decide +kernel
theorem d_M_append_90 : decode b_M_append 90 = .ok (.iload_n 3, 1) := by decide +kernel
theorem d_M_append_91 : decode b_M_append 91 = .ok (.iushr, 1) := by decide +kernel
theorem d_M_append_92 : decode b_M_append 92 = .ok (.sipush 255, 3) := by decide +kernel
theorem d_M_append_95 : decode b_M_append 95 = .ok (.iand, 1) := by decide +kernel
theorem d_M_append_96 : decode b_M_append 96 = .ok (.istore 4, 2) := by decide +kernel
theorem d_M_append_98 : decode b_M_append 98 = .ok (.iload 4, 2) := by decide +kernel
theorem d_M_append_100 : decode b_M_append 100 = .ok (.ifCond .eq 25, 3) := by decide +kernel
theorem d_M_append_103 : decode b_M_append 103 = .ok (.aload_n 0, 1) := by decide +kernel
theorem d_M_append_104 : decode b_M_append 104 = .ok (.getfield 29, 3) := by decide +kernel
theorem d_M_append_107 : decode b_M_append 107 = .ok (.aload_n 0, 1) := by decide +kernel
theorem d_M_append_108 : decode b_M_append 108 = .ok (.getfield 120, 3) := by decide +kernel
theorem d_M_append_111 : decode b_M_append 111 = .ok (.iload 4, 2) := by decide +kernel
theorem d_M_append_113 : decode b_M_append 113 = .ok (.i2c, 1) := by decide +kernel
theorem d_M_append_114 : decode b_M_append 114 = .ok (.castore, 1) := by decide +kernel
theorem d_M_append_115 : decode b_M_append 115 = .ok (.aload_n 0, 1) := by decide +kernel
theorem d_M_append_116 : decode b_M_append 116 = .ok (.dup, 1) := by decide +kernel
theorem d_M_append_117 : decode b_M_append 117 = .ok (.getfield 120, 3) := by decide +kernel
theorem d_M_append_120 : decode b_M_append 120 = .ok (.iconst 1, 1) := by decide +kernel
theorem d_M_append_121 : decode b_M_append 121 = .ok (.iadd, 1) := by decide +kernel
theorem d_M_append_122 : decode b_M_append 122 = .ok (.putfield 120, 3) := by decide +kernel
theorem d_M_append_125 : decode b_M_append 125 = .ok (.iinc 3 (-8), 3) := by decide +kernel
theorem d_M_append_128 : decode b_M_append 128 = .ok (.goto (-43), 3) := by decide +kernel
theorem d_M_append_131 : decode b_M_append 131 = .ok (.aload_n 0, 1) := by decide +kernel
theorem d_M_append_132 : decode b_M_append 132 = .ok (.getfield 120, 3) := by decide +kernel
theorem d_M_append_135 : decode b_M_append 135 = .ok (.ireturn, 1) := by decide +kernel
theorem d_M_read_0 : decode b_M_read 0 = .ok (.aload_n 0, 1) := by decide +kernel
theorem d_M_read_1 : decode b_M_read 1 = .ok (.iconst 0, 1) := by decide +kernel
theorem d_M_read_2 : decode b_M_read 2 = .ok (.putfield 33, 3) := by decide +kernel
theorem d_M_read_5 : decode b_M_read 5 = .ok (.aload_n 0, 1) := by decide +kernel
theorem d_M_read_6 : decode b_M_read 6 = .ok (.aload_n 0, 1) := by decide +kernel
theorem d_M_read_7 : decode b_M_read 7 = .ok (.getfield 120, 3) := by decide +kernel
theorem d_M_read_10 : decode b_M_read 10 = .ok (.putfield 209, 3) := by decide +kernel
theorem d_M_read_13 : decode b_M_read 13 = .ok (.aload_n 0, 1) := by decide +kernel
theorem d_M_read_14 : decode b_M_read 14 = .ok (.iconst 0, 1) := by decide +kernel
theorem d_M_read_15 : decode b_M_read 15 = .ok (.putfield 120, 3) := by decide +kernel
theorem d_M_read_18 : decode b_M_read 18 = .ok (.aload_n 0, 1) := by decide +kernel
theorem d_M_read_19 : decode b_M_read 19 = .ok (.iconst 0, 1) := by decide +kernel
theorem d_M_read_20 : decode b_M_read 20 = .ok (.invokevirtual 245, 3) := by decide +kernel
theorem d_M_read_23 : decode b_M_read 23 = .ok (.istore_n 1, 1) := by decide +kernel
theorem d_M_read_24 : decode b_M_read 24 = .ok (.aload_n 0, 1) := by decide +kernel
theorem d_M_read_25 : decode b_M_read 25 = .ok (.getfield 202, 3) := by decide +kernel
theorem d_M_read_28 : decode b_M_read 28 = .ok (.ifCond .eq 17, 3) := by decide +kernel
theorem d_M_read_31 : decode b_M_read 31 = .ok (.aload_n 0, 1) := by decide +kernel
theorem d_M_read_32 : decode b_M_read 32 = .ok (.aload_n 0, 1) := by decide +kernel
theorem d_M_read_33 : decode b_M_read 33 = .ok (.getfield 206, 3) := by decide +kernel
theorem d_M_read_36 : decode b_M_read 36 = .ok (.putfield 22, 3) := by decide +kernel
theorem d_M_read_39 : decode b_M_read 39 = .ok (.aload_n 0, 1) := by decide +kernel
theorem d_M_read_40 : decode b_M_read 40 = .ok (.iconst 1, 1) := by decide +kernel
theorem d_M_read_41 : decode b_M_read 41 = .ok (.invokevirtual 52, 3) := by decide +kernel
theorem d_M_read_44 : decode b_M_read 44 = .ok (.ireturn, 1) := by decide +kernel
theorem d_M_read_45 : decode b_M_read 45 = .ok (.aload_n 0, 1) := by decide +kernel
theorem d_M_read_46 : decode b_M_read 46 = .ok (.invokevirtual 39, 3) := by decide +kernel
theorem d_M_read_49 : decode b_M_read 49 = .ok (.aload_n 0, 1) := by decide +kernel
theorem d_M_read_50 : decode b_M_read 50 = .ok (.iconst 1, 1) := by decide +kernel
theorem d_M_read_51 : decode b_M_read 51 = .ok (.invokevirtual 245, 3) := by decide +kernel
theorem d_M_read_54 : decode b_M_read 54 = .ok (.istore_n 2, 1) := by decide +kernel
theorem d_M_read_55 : decode b_M_read 55 = .ok (.iload_n 2, 1) := by decide +kernel
theorem d_M_read_56 : decode b_M_read 56 = .ok (.ifCond .ge 45, 3) := by decide +kernel
theorem d_M_read_59 : decode b_M_read 59 = .ok (.iconst 0, 1) := by decide +kernel
theorem d_M_read_60 : decode b_M_read 60 = .ok (.istore_n 3, 1) := by decide +kernel
theorem d_M_read_61 : decode b_M_read 61 = .ok (.iload_n 3, 1) := by decide +kernel
theorem d_M_read_62 : decode b_M_read 62 = .ok (.sipush 3561, 3) := by decide +kernel
theorem d_M_read_65 : decode b_M_read 65 = .ok (.if_icmp .ge 21, 3) := by decide +kernel
theorem d_M_read_68 : decode b_M_read 68 = .ok (.aload_n 0, 1) := by decide +kernel
theorem d_M_read_69 : decode b_M_read 69 = .ok (.getfield 9, 3) := by decide +kernel
theorem d_M_read_72 : decode b_M_read 72 = .ok (.iload_n 3, 1) := by decide +kernel
theorem d_M_read_73 : decode b_M_read 73 = .ok (.aload_n 0, 1) := by decide +kernel
theorem d_M_read_74 : decode b_M_read 74 = .ok (.getfield 19, 3) := by decide +kernel
theorem d_M_read_77 : decode b_M_read 77 = .ok (.iload_n 3, 1) := by decide +kernel
theorem d_M_read_78 : decode b_M_read 78 = .ok (.iaload, 1) := by decide +kernel
theorem d_M_read_79 : decode b_M_read 79 = .ok (.iastore, 1) := by decide +kernel
theorem d_M_read_80 : decode b_M_read 80 = .ok (.iinc 3 1, 3) := by decide +kernel
theorem d_M_read_83 : decode b_M_read 83 = .ok (.goto (-22), 3) := by decide +kernel
theorem d_M_read_86 : decode b_M_read 86 = .ok (.aload_n 0, 1) := by decide +kernel
theorem d_M_read_87 : decode b_M_read 87 = .ok (.iload_n 2, 1) := by decide +kernel
theorem d_M_read_88 : decode b_M_read 88 = .ok (.sipush 1000, 3) := by decide +kernel
theorem d_M_read_91 : decode b_M_read 91 = .ok (.iadd, 1) := by decide +kernel
theorem d_M_read_92 : decode b_M_read 92 = .ok (.putfield 26, 3) := by decide +kernel
theorem d_M_read_95 : decode b_M_read 95 = .ok (.aload_n 0, 1) := by decide +kernel
theorem d_M_read_96 : decode b_M_read 96 = .ok (.iconst 2, 1) := by decide +kernel
theorem d_M_read_97 : decode b_M_read 97 = .ok (.invokevirtual 52, 3) := by decide +kernel
theorem d_M_read_100 : decode b_M_read 100 = .ok (.ireturn, 1) := by decide +kernel
theorem d_M_read_101 : decode b_M_read 101 = .ok (.aload_n 0, 1) := by decide +kernel
theorem d_M_read_102 : decode b_M_read 102 = .ok (.invokevirtual 42, 3) := by decide +kernel
theorem d_M_read_105 : decode b_M_read 105 = .ok (.iload_n 1, 1) := by decide +kernel
theorem d_M_read_106 : decode b_M_read 106 = .ok (.ireturn, 1) := by decide +kernel
theorem d_M_orders_0 : decode b_M_orders 0 = .ok (.aload_n 0, 1) := by decide +kernel
theorem d_M_orders_1 : decode b_M_orders 1 = .ok (.iconst 0, 1) := by decide +kernel
theorem d_M_orders_2 : decode b_M_orders 2 = .ok (.putfield 206, 3) := by decide +kernel
theorem d_M_orders_5 : decode b_M_orders 5 = .ok (.aload_n 0, 1) := by decide +kernel
theorem d_M_orders_6 : decode b_M_orders 6 = .ok (.iconst 0, 1) := by decide +kernel
theorem d_M_orders_7 : decode b_M_orders 7 = .ok (.putfield 202, 3) := by decide +kernel
theorem d_M_orders_10 : decode b_M_orders 10 = .ok (.iconst 0, 1) := by decide +kernel
theorem d_M_orders_11 : decode b_M_orders 11 = .ok (.istore_n 2, 1) := by decide +kernel
theorem d_M_orders_12 : decode b_M_orders 12 = .ok (.iconst 1, 1) := by decide +kernel
theorem d_M_orders_13 : decode b_M_orders 13 = .ok (.istore_n 3, 1) := by decide +kernel
theorem d_M_orders_14 : decode b_M_orders 14 = .ok (.iload_n 3, 1) := by decide +kernel
theorem d_M_orders_15 : decode b_M_orders 15 = .ok (.ifCond .eq 64, 3) := by decide +kernel
theorem d_M_orders_18 : decode b_M_orders 18 = .ok (.aload_n 0, 1) := by decide +kernel
theorem d_M_orders_19 : decode b_M_orders 19 = .ok (.invokevirtual 239, 3) := by decide +kernel
theorem d_M_orders_22 : decode b_M_orders 22 = .ok (.aload_n 0, 1) := by decide +kernel
theorem d_M_orders_23 : decode b_M_orders 23 = .ok (.getfield 202, 3) := by decide +kernel
theorem d_M_orders_26 : decode b_M_orders 26 = .ok (.ifCond .ne 20, 3) := by decide +kernel
theorem d_M_orders_29 : decode b_M_orders 29 = .ok (.iload_n 1, 1) := by decide +kernel
theorem d_M_orders_30 : decode b_M_orders 30 = .ok (.ifCond .eq 16, 3) := by decide +kernel
theorem d_M_orders_33 : decode b_M_orders 33 = .ok (.aload_n 0, 1) := by decide +kernel
theorem d_M_orders_34 : decode b_M_orders 34 = .ok (.invokevirtual 242, 3) := by decide +kernel
theorem d_M_orders_37 : decode b_M_orders 37 = .ok (.ifCond .ne 9, 3) := by decide +kernel
theorem d_M_orders_40 : decode b_M_orders 40 = .ok (.iload_n 2, 1) := by decide +kernel
theorem d_M_orders_41 : decode b_M_orders 41 = .ok (.sipush 1000, 3) := by decide +kernel
theorem d_M_orders_44 : decode b_M_orders 44 = .ok (.isub, 1) := by decide +kernel
theorem d_M_orders_45 : decode b_M_orders 45 = .ok (.ireturn, 1) := by decide +kernel
theorem d_M_orders_46 : decode b_M_orders 46 = .ok (.iinc 2 1, 3) := by decide +kernel
theorem d_M_orders_49 : decode b_M_orders 49 = .ok (.aload_n 0, 1) := by decide +kernel
theorem d_M_orders_50 : decode b_M_orders 50 = .ok (.bipush 59, 2) := by decide +kernel
theorem d_M_orders_52 : decode b_M_orders 52 = .ok (.bipush 59, 2) := by decide +kernel
theorem d_M_orders_54 : decode b_M_orders 54 = .ok (.invokevirtual 212, 3) := by decide +kernel
theorem d_M_orders_57 : decode b_M_orders 57 = .ok (.istore_n 3, 1) := by decide +kernel
theorem d_M_orders_58 : decode b_M_orders 58 = .ok (.aload_n 0, 1) := by decide +kernel
theorem d_M_orders_59 : decode b_M_orders 59 = .ok (.dup, 1) := by decide +kernel
theorem d_M_orders_60 : decode b_M_orders 60 = .ok (.getfield 206, 3) := by decide +kernel
theorem d_M_orders_63 : decode b_M_orders 63 = .ok (.iload_n 3, 1) := by decide +kernel
theorem d_M_orders_64 : decode b_M_orders 64 = .ok (.ifCond .eq 7, 3) := by decide +kernel
theorem d_M_orders_67 : decode b_M_orders 67 = .ok (.iconst 1, 1) := by decide +kernel
theorem d_M_orders_68 : decode b_M_orders 68 = .ok (.goto 4, 3) := by decide +kernel
theorem d_M_orders_71 : decode b_M_orders 71 = .ok (.iconst 0, 1) := by decide +kernel
theorem d_M_orders_72 : decode b_M_orders 72 = .ok (.iadd, 1) := by decide +kernel
theorem d_M_orders_73 : decode b_M_orders 73 = .ok (.putfield 206, 3) := by decide +kernel
theorem d_M_orders_76 : decode b_M_orders 76 = .ok (.goto (-62), 3) := by decide +kernel
theorem d_M_orders_79 : decode b_M_orders 79 = .ok (.aload_n 0, 1) := by decide +kernel
theorem d_M_orders_80 : decode b_M_orders 80 = .ok (.aload_n 0, 1) := by decide +kernel
theorem d_M_orders_81 : decode b_M_orders 81 = .ok (.getfield 202, 3) := by decide +kernel
theorem d_M_orders_84 : decode b_M_orders 84 = .ok (.ifCond .ne 14, 3) := by decide +kernel
theorem d_M_orders_87 : decode b_M_orders 87 = .ok (.aload_n 0, 1) := by decide +kernel
theorem d_M_orders_88 : decode b_M_orders 88 = .ok (.getfield 206, 3) := by decide +kernel
theorem d_M_orders_91 : decode b_M_orders 91 = .ok (.aload_n 0, 1) := by decide +kernel
theorem d_M_orders_92 : decode b_M_orders 92 = .ok (.getfield 209, 3) := by decide +kernel
theorem d_M_orders_95 : decode b_M_orders 95 = .ok (.if_icmp .ge 7, 3) := by decide +kernel
theorem d_M_orders_98 : decode b_M_orders 98 = .ok (.iconst 1, 1) := by decide +kernel
theorem d_M_orders_99 : decode b_M_orders 99 = .ok (.goto 4, 3) := by decide +kernel
theorem d_M_orders_102 : decode b_M_orders 102 = .ok (.iconst 0, 1) := by decide +kernel
theorem d_M_orders_103 : decode b_M_orders 103 = .ok (.putfield 202, 3) := by decide +kernel
theorem d_M_orders_106 : decode b_M_orders 106 = .ok (.iload_n 2, 1) := by decide +kernel
theorem d_M_orders_107 : decode b_M_orders 107 = .ok (.ireturn, 1) := by decide +kernel
theorem d_M_readsOrder_0 : decode b_M_readsOrder 0 = .ok (.aload_n 0, 1) := by decide +kernel
theorem d_M_readsOrder_1 : decode b_M_readsOrder 1 = .ok (.invokevirtual 222, 3) := by decide +kernel
theorem d_M_readsOrder_4 : decode b_M_readsOrder 4 = .ok (.ifCond .ne 9, 3) := by decide +kernel
theorem d_M_readsOrder_7 : decode b_M_readsOrder 7 = .ok (.aload_n 0, 1) := by decide +kernel
theorem d_M_readsOrder_8 : decode b_M_readsOrder 8 = .ok (.iconst 1, 1) := by decide +kernel
theorem d_M_readsOrder_9 : decode b_M_readsOrder 9 = .ok (.putfield 202, 3) := by decide +kernel
theorem d_M_readsOrder_12 : decode b_M_readsOrder 12 = .ok (.return_, 1) := by decide +kernel
theorem d_M_readsOrder_13 : decode b_M_readsOrder 13 = .ok (.aload_n 0, 1) := by decide +kernel
theorem d_M_readsOrder_14 : decode b_M_readsOrder 14 = .ok (.aload_n 0, 1) := by decide +kernel
theorem d_M_readsOrder_15 : decode b_M_readsOrder 15 = .ok (.getfield 29, 3) := by decide +kernel
theorem d_M_readsOrder_18 : decode b_M_readsOrder 18 = .ok (.aload_n 0, 1) := by decide +kernel
theorem d_M_readsOrder_19 : decode b_M_readsOrder 19 = .ok (.getfield 206, 3) := by decide +kernel
theorem d_M_readsOrder_22 : decode b_M_readsOrder 22 = .ok (.caload, 1) := by decide +kernel
theorem d_M_readsOrder_23 : decode b_M_readsOrder 23 = .ok (.putfield 226, 3) := by decide +kernel
theorem d_M_readsOrder_26 : decode b_M_readsOrder 26 = .ok (.aload_n 0, 1) := by decide +kernel
theorem d_M_readsOrder_27 : decode b_M_readsOrder 27 = .ok (.dup, 1) := by decide +kernel
theorem d_M_readsOrder_28 : decode b_M_readsOrder 28 = .ok (.getfield 206, 3) := by decide +kernel
theorem d_M_readsOrder_31 : decode b_M_readsOrder 31 = .ok (.iconst 1, 1) := by decide +kernel
theorem d_M_readsOrder_32 : decode b_M_readsOrder 32 = .ok (.iadd, 1) := by decide +kernel
theorem d_M_readsOrder_33 : decode b_M_readsOrder 33 = .ok (.putfield 206, 3) := by decide +kernel
theorem d_M_readsOrder_36 : decode b_M_readsOrder 36 = .ok (.aload_n 0, 1) := by decide +kernel
theorem d_M_readsOrder_37 : decode b_M_readsOrder 37 = .ok (.iconst 1, 1) := by decide +kernel
theorem d_M_readsOrder_38 : decode b_M_readsOrder 38 = .ok (.putfield 230, 3) := by decide +kernel
theorem d_M_readsOrder_41 : decode b_M_readsOrder 41 = .ok (.aload_n 0, 1) := by decide +kernel
theorem d_M_readsOrder_42 : decode b_M_readsOrder 42 = .ok (.getfield 226, 3) := by decide +kernel
theorem d_M_readsOrder_45 : decode b_M_readsOrder 45 = .ok (.bipush 115, 2) := by decide +kernel
theorem d_M_readsOrder_47 : decode b_M_readsOrder 47 = .ok (.if_icmp .eq 8, 3) := by decide +kernel
theorem d_M_readsOrder_50 : decode b_M_readsOrder 50 = .ok (.aload_n 0, 1) := by decide +kernel
theorem d_M_readsOrder_51 : decode b_M_readsOrder 51 = .ok (.invokevirtual 233, 3) := by decide +kernel
theorem d_M_readsOrder_54 : decode b_M_readsOrder 54 = .ok (.return_, 1) := by decide +kernel
theorem d_M_readsOrder_55 : decode b_M_readsOrder 55 = .ok (.aload_n 0, 1) := by decide +kernel
theorem d_M_readsOrder_56 : decode b_M_readsOrder 56 = .ok (.aload_n 0, 1) := by decide +kernel
theorem d_M_readsOrder_57 : decode b_M_readsOrder 57 = .ok (.invokevirtual 216, 3) := by decide +kernel
theorem d_M_readsOrder_60 : decode b_M_readsOrder 60 = .ok (.putfield 219, 3) := by decide +kernel
theorem d_M_readsOrder_63 : decode b_M_readsOrder 63 = .ok (.aload_n 0, 1) := by decide +kernel
theorem d_M_readsOrder_64 : decode b_M_readsOrder 64 = .ok (.bipush 42, 2) := by decide +kernel
theorem d_M_readsOrder_66 : decode b_M_readsOrder 66 = .ok (.bipush 42, 2) := by decide +kernel
theorem d_M_readsOrder_68 : decode b_M_readsOrder 68 = .ok (.invokevirtual 212, 3) := by decide +kernel
theorem d_M_readsOrder_71 : decode b_M_readsOrder 71 = .ok (.ifCond .eq 21, 3) := by decide +kernel
theorem d_M_readsOrder_74 : decode b_M_readsOrder 74 = .ok (.aload_n 0, 1) := by decide +kernel
theorem d_M_readsOrder_75 : decode b_M_readsOrder 75 = .ok (.dup, 1) := by decide +kernel
theorem d_M_readsOrder_76 : decode b_M_readsOrder 76 = .ok (.getfield 206, 3) := by decide +kernel
theorem d_M_readsOrder_79 : decode b_M_readsOrder 79 = .ok (.iconst 1, 1) := by decide +kernel
theorem d_M_readsOrder_80 : decode b_M_readsOrder 80 = .ok (.iadd, 1) := by decide +kernel
theorem d_M_readsOrder_81 : decode b_M_readsOrder 81 = .ok (.putfield 206, 3) := by decide +kernel
theorem d_M_readsOrder_84 : decode b_M_readsOrder 84 = .ok (.aload_n 0, 1) := by decide +kernel
theorem d_M_readsOrder_85 : decode b_M_readsOrder 85 = .ok (.aload_n 0, 1) := by decide +kernel
theorem d_M_readsOrder_86 : decode b_M_readsOrder 86 = .ok (.invokevirtual 216, 3) := by decide +kernel
theorem d_M_readsOrder_89 : decode b_M_readsOrder 89 = .ok (.putfield 230, 3) := by decide +kernel
theorem d_M_readsOrder_92 : decode b_M_readsOrder 92 = .ok (.return_, 1) := by decide +kernel
theorem d_M_isLetter_0 : decode b_M_isLetter 0 = .ok (.aload_n 0, 1) := by decide +kernel
theorem d_M_isLetter_1 : decode b_M_isLetter 1 = .ok (.bipush 98, 2) := by decide +kernel
theorem d_M_isLetter_3 : decode b_M_isLetter 3 = .ok (.bipush 99, 2) := by decide +kernel
theorem d_M_isLetter_5 : decode b_M_isLetter 5 = .ok (.invokevirtual 212, 3) := by decide +kernel
theorem d_M_isLetter_8 : decode b_M_isLetter 8 = .ok (.ifCond .ne 47, 3) := by decide +kernel
theorem d_M_isLetter_11 : decode b_M_isLetter 11 = .ok (.aload_n 0, 1) := by decide +kernel
theorem d_M_isLetter_12 : decode b_M_isLetter 12 = .ok (.bipush 111, 2) := by decide +kernel
theorem d_M_isLetter_14 : decode b_M_isLetter 14 = .ok (.bipush 111, 2) := by decide +kernel
theorem d_M_isLetter_16 : decode b_M_isLetter 16 = .ok (.invokevirtual 212, 3) := by decide +kernel
theorem d_M_isLetter_19 : decode b_M_isLetter 19 = .ok (.ifCond .ne 36, 3) := by decide +kernel
theorem d_M_isLetter_22 : decode b_M_isLetter 22 = .ok (.aload_n 0, 1) := by decide +kernel
theorem d_M_isLetter_23 : decode b_M_isLetter 23 = .ok (.bipush 114, 2) := by decide +kernel
theorem d_M_isLetter_25 : decode b_M_isLetter 25 = .ok (.bipush 115, 2) := by decide +kernel
theorem d_M_isLetter_27 : decode b_M_isLetter 27 = .ok (.invokevirtual 212, 3) := by decide +kernel
theorem d_M_isLetter_30 : decode b_M_isLetter 30 = .ok (.ifCond .ne 25, 3) := by decide +kernel
theorem d_M_isLetter_33 : decode b_M_isLetter 33 = .ok (.aload_n 0, 1) := by decide +kernel
theorem d_M_isLetter_34 : decode b_M_isLetter 34 = .ok (.bipush 117, 2) := by decide +kernel
theorem d_M_isLetter_36 : decode b_M_isLetter 36 = .ok (.bipush 117, 2) := by decide +kernel
theorem d_M_isLetter_38 : decode b_M_isLetter 38 = .ok (.invokevirtual 212, 3) := by decide +kernel
theorem d_M_isLetter_41 : decode b_M_isLetter 41 = .ok (.ifCond .ne 14, 3) := by decide +kernel
theorem d_M_isLetter_44 : decode b_M_isLetter 44 = .ok (.aload_n 0, 1) := by decide +kernel
theorem d_M_isLetter_45 : decode b_M_isLetter 45 = .ok (.bipush 119, 2) := by decide +kernel
theorem d_M_isLetter_47 : decode b_M_isLetter 47 = .ok (.bipush 119, 2) := by decide +kernel
theorem d_M_isLetter_49 : decode b_M_isLetter 49 = .ok (.invokevirtual 212, 3) := by decide +kernel
theorem d_M_isLetter_52 : decode b_M_isLetter 52 = .ok (.ifCond .eq 7, 3) := by decide +kernel
theorem d_M_isLetter_55 : decode b_M_isLetter 55 = .ok (.iconst 1, 1) := by decide +kernel
theorem d_M_isLetter_56 : decode b_M_isLetter 56 = .ok (.goto 4, 3) := by decide +kernel
theorem d_M_isLetter_59 : decode b_M_isLetter 59 = .ok (.iconst 0, 1) := by decide +kernel
theorem d_M_isLetter_60 : decode b_M_isLetter 60 = .ok (.ireturn, 1) := by decide +kernel
theorem d_M_isAt_0 : decode b_M_isAt 0 = .ok (.aload_n 0, 1) := by decide +kernel
theorem d_M_isAt_1 : decode b_M_isAt 1 = .ok (.getfield 202, 3) := by decide +kernel
theorem d_M_isAt_4 : decode b_M_isAt 4 = .ok (.ifCond .ne 35, 3) := by decide +kernel
theorem d_M_isAt_7 : decode b_M_isAt 7 = .ok (.aload_n 0, 1) := by decide +kernel
theorem d_M_isAt_8 : decode b_M_isAt 8 = .ok (.getfield 206, 3) := by decide +kernel
theorem d_M_isAt_11 : decode b_M_isAt 11 = .ok (.aload_n 0, 1) := by decide +kernel
theorem d_M_isAt_12 : decode b_M_isAt 12 = .ok (.getfield 209, 3) := by decide +kernel
theorem d_M_isAt_15 : decode b_M_isAt 15 = .ok (.if_icmp .ge 24, 3) := by decide +kernel
theorem d_M_isAt_18 : decode b_M_isAt 18 = .ok (.aload_n 0, 1) := by decide +kernel
theorem d_M_isAt_19 : decode b_M_isAt 19 = .ok (.getfield 29, 3) := by decide +kernel
theorem d_M_isAt_22 : decode b_M_isAt 22 = .ok (.aload_n 0, 1) := by decide +kernel
theorem d_M_isAt_23 : decode b_M_isAt 23 = .ok (.getfield 206, 3) := by decide +kernel
theorem d_M_isAt_26 : decode b_M_isAt 26 = .ok (.caload, 1) := by decide +kernel
theorem d_M_isAt_27 : decode b_M_isAt 27 = .ok (.iload_n 1, 1) := by decide +kernel
theorem d_M_isAt_28 : decode b_M_isAt 28 = .ok (.iload_n 2, 1) := by decide +kernel
theorem d_M_isAt_29 : decode b_M_isAt 29 = .ok (.invokestatic 45, 3) := by decide +kernel
theorem d_M_isAt_32 : decode b_M_isAt 32 = .ok (.ifCond .eq 7, 3) := by decide +kernel
theorem d_M_isAt_35 : decode b_M_isAt 35 = .ok (.iconst 1, 1) := by decide +kernel
theorem d_M_isAt_36 : decode b_M_isAt 36 = .ok (.goto 4, 3) := by decide +kernel
theorem d_M_isAt_39 : decode b_M_isAt 39 = .ok (.iconst 0, 1) := by decide +kernel
theorem d_M_isAt_40 : decode b_M_isAt 40 = .ok (.ireturn, 1) := by decide +kernel
theorem d_M_readsNumber_0 : decode b_M_readsNumber 0 = .ok (.aload_n 0, 1) := by decide +kernel
theorem d_M_readsNumber_1 : decode b_M_readsNumber 1 = .ok (.aload_n 0, 1) := by decide +kernel
theorem d_M_readsNumber_2 : decode b_M_readsNumber 2 = .ok (.invokevirtual 216, 3) := by decide +kernel
theorem d_M_readsNumber_5 : decode b_M_readsNumber 5 = .ok (.putfield 219, 3) := by decide +kernel
theorem d_M_readsNumber_8 : decode b_M_readsNumber 8 = .ok (.aload_n 0, 1) := by decide +kernel
theorem d_M_readsNumber_9 : decode b_M_readsNumber 9 = .ok (.getfield 219, 3) := by decide +kernel
theorem d_M_readsNumber_12 : decode b_M_readsNumber 12 = .ok (.ifCond .le 7, 3) := by decide +kernel
theorem d_M_readsNumber_15 : decode b_M_readsNumber 15 = .ok (.iconst 1, 1) := by decide +kernel
theorem d_M_readsNumber_16 : decode b_M_readsNumber 16 = .ok (.goto 4, 3) := by decide +kernel
theorem d_M_readsNumber_19 : decode b_M_readsNumber 19 = .ok (.iconst 0, 1) := by decide +kernel
theorem d_M_readsNumber_20 : decode b_M_readsNumber 20 = .ok (.istore_n 1, 1) := by decide +kernel
theorem d_M_readsNumber_21 : decode b_M_readsNumber 21 = .ok (.iconst 1, 1) := by decide +kernel
theorem d_M_readsNumber_22 : decode b_M_readsNumber 22 = .ok (.istore_n 2, 1) := by decide +kernel
theorem d_M_readsNumber_23 : decode b_M_readsNumber 23 = .ok (.iload_n 2, 1) := by decide +kernel
theorem d_M_readsNumber_24 : decode b_M_readsNumber 24 = .ok (.iconst 4, 1) := by decide +kernel
theorem d_M_readsNumber_25 : decode b_M_readsNumber 25 = .ok (.if_icmp .ge 40, 3) := by decide +kernel
theorem d_M_readsNumber_28 : decode b_M_readsNumber 28 = .ok (.iload_n 1, 1) := by decide +kernel
theorem d_M_readsNumber_29 : decode b_M_readsNumber 29 = .ok (.ifCond .eq 36, 3) := by decide +kernel
theorem d_M_readsNumber_32 : decode b_M_readsNumber 32 = .ok (.aload_n 0, 1) := by decide +kernel
theorem d_M_readsNumber_33 : decode b_M_readsNumber 33 = .ok (.bipush 48, 2) := by decide +kernel
theorem d_M_readsNumber_35 : decode b_M_readsNumber 35 = .ok (.bipush 57, 2) := by decide +kernel
theorem d_M_readsNumber_37 : decode b_M_readsNumber 37 = .ok (.invokevirtual 212, 3) := by decide +kernel
theorem d_M_readsNumber_40 : decode b_M_readsNumber 40 = .ok (.ifCond .eq 25, 3) := by decide +kernel
theorem d_M_readsNumber_43 : decode b_M_readsNumber 43 = .ok (.aload_n 0, 1) := by decide +kernel
theorem d_M_readsNumber_44 : decode b_M_readsNumber 44 = .ok (.bipush 10, 2) := by decide +kernel
theorem d_M_readsNumber_46 : decode b_M_readsNumber 46 = .ok (.aload_n 0, 1) := by decide +kernel
theorem d_M_readsNumber_47 : decode b_M_readsNumber 47 = .ok (.getfield 219, 3) := by decide +kernel
theorem d_M_readsNumber_50 : decode b_M_readsNumber 50 = .ok (.imul, 1) := by decide +kernel
theorem d_M_readsNumber_51 : decode b_M_readsNumber 51 = .ok (.aload_n 0, 1) := by decide +kernel
theorem d_M_readsNumber_52 : decode b_M_readsNumber 52 = .ok (.invokevirtual 216, 3) := by decide +kernel
theorem d_M_readsNumber_55 : decode b_M_readsNumber 55 = .ok (.iadd, 1) := by decide +kernel
theorem d_M_readsNumber_56 : decode b_M_readsNumber 56 = .ok (.putfield 219, 3) := by decide +kernel
theorem d_M_readsNumber_59 : decode b_M_readsNumber 59 = .ok (.iinc 2 1, 3) := by decide +kernel
theorem d_M_readsNumber_62 : decode b_M_readsNumber 62 = .ok (.goto (-39), 3) := by decide +kernel
theorem d_M_readsNumber_65 : decode b_M_readsNumber 65 = .ok (.return_, 1) := by decide +kernel
theorem d_M_digit_0 : decode b_M_digit 0 = .ok (.aload_n 0, 1) := by decide +kernel
theorem d_M_digit_1 : decode b_M_digit 1 = .ok (.bipush 48, 2) := by decide +kernel
theorem d_M_digit_3 : decode b_M_digit 3 = .ok (.bipush 57, 2) := by decide +kernel
theorem d_M_digit_5 : decode b_M_digit 5 = .ok (.invokevirtual 212, 3) := by decide +kernel
theorem d_M_digit_8 : decode b_M_digit 8 = .ok (.ifCond .ne 10, 3) := by decide +kernel
theorem d_M_digit_11 : decode b_M_digit 11 = .ok (.aload_n 0, 1) := by decide +kernel
theorem d_M_digit_12 : decode b_M_digit 12 = .ok (.iconst 1, 1) := by decide +kernel
theorem d_M_digit_13 : decode b_M_digit 13 = .ok (.putfield 202, 3) := by decide +kernel
theorem d_M_digit_16 : decode b_M_digit 16 = .ok (.iconst 0, 1) := by decide +kernel
theorem d_M_digit_17 : decode b_M_digit 17 = .ok (.ireturn, 1) := by decide +kernel
theorem d_M_digit_18 : decode b_M_digit 18 = .ok (.aload_n 0, 1) := by decide +kernel
theorem d_M_digit_19 : decode b_M_digit 19 = .ok (.dup, 1) := by decide +kernel
theorem d_M_digit_20 : decode b_M_digit 20 = .ok (.getfield 206, 3) := by decide +kernel
theorem d_M_digit_23 : decode b_M_digit 23 = .ok (.iconst 1, 1) := by decide +kernel
theorem d_M_digit_24 : decode b_M_digit 24 = .ok (.iadd, 1) := by decide +kernel
theorem d_M_digit_25 : decode b_M_digit 25 = .ok (.putfield 206, 3) := by decide +kernel
theorem d_M_digit_28 : decode b_M_digit 28 = .ok (.aload_n 0, 1) := by decide +kernel
theorem d_M_digit_29 : decode b_M_digit 29 = .ok (.getfield 29, 3) := by decide +kernel
theorem d_M_digit_32 : decode b_M_digit 32 = .ok (.aload_n 0, 1) := by decide +kernel
theorem d_M_digit_33 : decode b_M_digit 33 = .ok (.getfield 206, 3) := by decide +kernel
theorem d_M_digit_36 : decode b_M_digit 36 = .ok (.iconst 1, 1) := by decide +kernel
theorem d_M_digit_37 : decode b_M_digit 37 = .ok (.isub, 1) := by decide +kernel
theorem d_M_digit_38 : decode b_M_digit 38 = .ok (.caload, 1) := by decide +kernel
theorem d_M_digit_39 : decode b_M_digit 39 = .ok (.bipush 48, 2) := by decide +kernel
theorem d_M_digit_41 : decode b_M_digit 41 = .ok (.isub, 1) := by decide +kernel
theorem d_M_digit_42 : decode b_M_digit 42 = .ok (.ireturn, 1) := by decide +kernel
theorem d_M_carriesOut_0 : decode b_M_carriesOut 0 = .ok (.aload_n 0, 1) := by decide +kernel
theorem d_M_carriesOut_1 : decode b_M_carriesOut 1 = .ok (.getfield 226, 3) := by decide +kernel
theorem d_M_carriesOut_4 : decode b_M_carriesOut 4 = .ok (.lookupswitch 146 #[(98, 57), (114, 95), (115, 52), (117, 57), (119, 123)], 52) := by decide +kernel
theorem d_M_carriesOut_56 : decode b_M_carriesOut 56 = .ok (.aload_n 0, 1) := by decide +kernel
theorem d_M_carriesOut_57 : decode b_M_carriesOut 57 = .ok (.invokevirtual 236, 3) := by decide +kernel
theorem d_M_carriesOut_60 : decode b_M_carriesOut 60 = .ok (.ireturn, 1) := by decide +kernel
theorem d_M_carriesOut_61 : decode b_M_carriesOut 61 = .ok (.aload_n 0, 1) := by decide +kernel
theorem d_M_carriesOut_62 : decode b_M_carriesOut 62 = .ok (.aload_n 0, 1) := by decide +kernel
theorem d_M_carriesOut_63 : decode b_M_carriesOut 63 = .ok (.getfield 219, 3) := by decide +kernel
theorem d_M_carriesOut_66 : decode b_M_carriesOut 66 = .ok (.invokevirtual 157, 3) := by decide +kernel
theorem d_M_carriesOut_69 : decode b_M_carriesOut 69 = .ok (.ifCond .eq 5, 3) := by decide +kernel
theorem d_M_carriesOut_72 : decode b_M_carriesOut 72 = .ok (.iconst 0, 1) := by decide +kernel
theorem d_M_carriesOut_73 : decode b_M_carriesOut 73 = .ok (.ireturn, 1) := by decide +kernel
theorem d_M_carriesOut_74 : decode b_M_carriesOut 74 = .ok (.aload_n 0, 1) := by decide +kernel
theorem d_M_carriesOut_75 : decode b_M_carriesOut 75 = .ok (.aload_n 0, 1) := by decide +kernel
theorem d_M_carriesOut_76 : decode b_M_carriesOut 76 = .ok (.getfield 219, 3) := by decide +kernel
theorem d_M_carriesOut_79 : decode b_M_carriesOut 79 = .ok (.iconst 1, 1) := by decide +kernel
theorem d_M_carriesOut_80 : decode b_M_carriesOut 80 = .ok (.aload_n 0, 1) := by decide +kernel
theorem d_M_carriesOut_81 : decode b_M_carriesOut 81 = .ok (.getfield 226, 3) := by decide +kernel
theorem d_M_carriesOut_84 : decode b_M_carriesOut 84 = .ok (.bipush 98, 2) := by decide +kernel
theorem d_M_carriesOut_86 : decode b_M_carriesOut 86 = .ok (.if_icmp .ne 7, 3) := by decide +kernel
theorem d_M_carriesOut_89 : decode b_M_carriesOut 89 = .ok (.iconst 1, 1) := by decide +kernel
theorem d_M_carriesOut_90 : decode b_M_carriesOut 90 = .ok (.goto 4, 3) := by decide +kernel
theorem d_M_carriesOut_93 : decode b_M_carriesOut 93 = .ok (.iconst 0, 1) := by decide +kernel
theorem d_M_carriesOut_94 : decode b_M_carriesOut 94 = .ok (.invokevirtual 126, 3) := by decide +kernel
theorem d_M_carriesOut_97 : decode b_M_carriesOut 97 = .ok (.iconst 1, 1) := by decide +kernel
theorem d_M_carriesOut_98 : decode b_M_carriesOut 98 = .ok (.ireturn, 1) := by decide +kernel
theorem d_M_carriesOut_99 : decode b_M_carriesOut 99 = .ok (.aload_n 0, 1) := by decide +kernel
theorem d_M_carriesOut_100 : decode b_M_carriesOut 100 = .ok (.aload_n 0, 1) := by decide +kernel
theorem d_M_carriesOut_101 : decode b_M_carriesOut 101 = .ok (.getfield 219, 3) := by decide +kernel
theorem d_M_carriesOut_104 : decode b_M_carriesOut 104 = .ok (.invokevirtual 160, 3) := by decide +kernel
theorem d_M_carriesOut_107 : decode b_M_carriesOut 107 = .ok (.ifCond .ne 18, 3) := by decide +kernel
theorem d_M_carriesOut_110 : decode b_M_carriesOut 110 = .ok (.aload_n 0, 1) := by decide +kernel
theorem d_M_carriesOut_111 : decode b_M_carriesOut 111 = .ok (.aload_n 0, 1) := by decide +kernel
theorem d_M_carriesOut_112 : decode b_M_carriesOut 112 = .ok (.getfield 219, 3) := by decide +kernel
theorem d_M_carriesOut_115 : decode b_M_carriesOut 115 = .ok (.invokevirtual 163, 3) := by decide +kernel
theorem d_M_carriesOut_118 : decode b_M_carriesOut 118 = .ok (.ifCond .lt 7, 3) := by decide +kernel
theorem d_M_carriesOut_121 : decode b_M_carriesOut 121 = .ok (.iconst 1, 1) := by decide +kernel
theorem d_M_carriesOut_122 : decode b_M_carriesOut 122 = .ok (.goto 4, 3) := by decide +kernel
theorem d_M_carriesOut_125 : decode b_M_carriesOut 125 = .ok (.iconst 0, 1) := by decide +kernel
theorem d_M_carriesOut_126 : decode b_M_carriesOut 126 = .ok (.ireturn, 1) := by decide +kernel
theorem d_M_carriesOut_127 : decode b_M_carriesOut 127 = .ok (.aload_n 0, 1) := by decide +kernel
theorem d_M_carriesOut_128 : decode b_M_carriesOut 128 = .ok (.aload_n 0, 1) := by decide +kernel
theorem d_M_carriesOut_129 : decode b_M_carriesOut 129 = .ok (.getfield 219, 3) := by decide +kernel
theorem d_M_carriesOut_132 : decode b_M_carriesOut 132 = .ok (.invokevirtual 107, 3) := by decide +kernel
theorem d_M_carriesOut_135 : decode b_M_carriesOut 135 = .ok (.ifCond .eq 5, 3) := by decide +kernel
theorem d_M_carriesOut_138 : decode b_M_carriesOut 138 = .ok (.iconst 0, 1) := by decide +kernel
theorem d_M_carriesOut_139 : decode b_M_carriesOut 139 = .ok (.ireturn, 1) := by decide +kernel
theorem d_M_carriesOut_140 : decode b_M_carriesOut 140 = .ok (.aload_n 0, 1) := by decide +kernel
theorem d_M_carriesOut_141 : decode b_M_carriesOut 141 = .ok (.aload_n 0, 1) := by decide +kernel
theorem d_M_carriesOut_142 : decode b_M_carriesOut 142 = .ok (.getfield 219, 3) := by decide +kernel
theorem d_M_carriesOut_145 : decode b_M_carriesOut 145 = .ok (.invokevirtual 110, 3) := by decide +kernel
theorem d_M_carriesOut_148 : decode b_M_carriesOut 148 = .ok (.iconst 1, 1) := by decide +kernel
theorem d_M_carriesOut_149 : decode b_M_carriesOut 149 = .ok (.ireturn, 1) := by decide +kernel
theorem d_M_carriesOut_150 : decode b_M_carriesOut 150 = .ok (.aload_n 0, 1) := by decide +kernel
theorem d_M_carriesOut_151 : decode b_M_carriesOut 151 = .ok (.aload_n 0, 1) := by decide +kernel
theorem d_M_carriesOut_152 : decode b_M_carriesOut 152 = .ok (.getfield 219, 3) := by decide +kernel
theorem d_M_carriesOut_155 : decode b_M_carriesOut 155 = .ok (.invokevirtual 69, 3) := by decide +kernel
theorem d_M_carriesOut_158 : decode b_M_carriesOut 158 = .ok (.ifCond .ne 5, 3) := by decide +kernel
theorem d_M_carriesOut_161 : decode b_M_carriesOut 161 = .ok (.iconst 0, 1) := by decide +kernel
theorem d_M_carriesOut_162 : decode b_M_carriesOut 162 = .ok (.ireturn, 1) := by decide +kernel
theorem d_M_carriesOut_163 : decode b_M_carriesOut 163 = .ok (.aload_n 0, 1) := by decide +kernel
theorem d_M_carriesOut_164 : decode b_M_carriesOut 164 = .ok (.getfield 9, 3) := by decide +kernel
theorem d_M_carriesOut_167 : decode b_M_carriesOut 167 = .ok (.iconst 5, 1) := by decide +kernel
theorem d_M_carriesOut_168 : decode b_M_carriesOut 168 = .ok (.bipush 34, 2) := by decide +kernel
theorem d_M_carriesOut_170 : decode b_M_carriesOut 170 = .ok (.aload_n 0, 1) := by decide +kernel
theorem d_M_carriesOut_171 : decode b_M_carriesOut 171 = .ok (.getfield 219, 3) := by decide +kernel
theorem d_M_carriesOut_174 : decode b_M_carriesOut 174 = .ok (.imul, 1) := by decide +kernel
theorem d_M_carriesOut_175 : decode b_M_carriesOut 175 = .ok (.iadd, 1) := by decide +kernel
theorem d_M_carriesOut_176 : decode b_M_carriesOut 176 = .ok (.iconst 2, 1) := by decide +kernel
theorem d_M_carriesOut_177 : decode b_M_carriesOut 177 = .ok (.iadd, 1) := by decide +kernel
theorem d_M_carriesOut_178 : decode b_M_carriesOut 178 = .ok (.aload_n 0, 1) := by decide +kernel
theorem d_M_carriesOut_179 : decode b_M_carriesOut 179 = .ok (.getfield 226, 3) := by decide +kernel
theorem d_M_carriesOut_182 : decode b_M_carriesOut 182 = .ok (.bipush 99, 2) := by decide +kernel
theorem d_M_carriesOut_184 : decode b_M_carriesOut 184 = .ok (.if_icmp .ne 7, 3) := by decide +kernel
theorem d_M_carriesOut_187 : decode b_M_carriesOut 187 = .ok (.iconst 1, 1) := by decide +kernel
theorem d_M_carriesOut_188 : decode b_M_carriesOut 188 = .ok (.goto 4, 3) := by decide +kernel
theorem d_M_carriesOut_191 : decode b_M_carriesOut 191 = .ok (.iconst 0, 1) := by decide +kernel
theorem d_M_carriesOut_192 : decode b_M_carriesOut 192 = .ok (.iastore, 1) := by decide +kernel
theorem d_M_carriesOut_193 : decode b_M_carriesOut 193 = .ok (.iconst 1, 1) := by decide +kernel
theorem d_M_carriesOut_194 : decode b_M_carriesOut 194 = .ok (.ireturn, 1) := by decide +kernel
theorem d_M_sells_0 : decode b_M_sells 0 = .ok (.aload_n 0, 1) := by decide +kernel
theorem d_M_sells_1 : decode b_M_sells 1 = .ok (.aload_n 0, 1) := by decide +kernel
theorem d_M_sells_2 : decode b_M_sells 2 = .ok (.getfield 219, 3) := by decide +kernel
theorem d_M_sells_5 : decode b_M_sells 5 = .ok (.invokevirtual 93, 3) := by decide +kernel
theorem d_M_sells_8 : decode b_M_sells 8 = .ok (.ifCond .ne 5, 3) := by decide +kernel
theorem d_M_sells_11 : decode b_M_sells 11 = .ok (.iconst 0, 1) := by decide +kernel
theorem d_M_sells_12 : decode b_M_sells 12 = .ok (.ireturn, 1) := by decide +kernel
theorem d_M_sells_13 : decode b_M_sells 13 = .ok (.iconst 0, 1) := by decide +kernel
theorem d_M_sells_14 : decode b_M_sells 14 = .ok (.istore_n 1, 1) := by decide +kernel
theorem d_M_sells_15 : decode b_M_sells 15 = .ok (.iload_n 1, 1) := by decide +kernel
theorem d_M_sells_16 : decode b_M_sells 16 = .ok (.aload_n 0, 1) := by decide +kernel
theorem d_M_sells_17 : decode b_M_sells 17 = .ok (.getfield 230, 3) := by decide +kernel
theorem d_M_sells_20 : decode b_M_sells 20 = .ok (.if_icmp .ge 40, 3) := by decide +kernel
theorem d_M_sells_23 : decode b_M_sells 23 = .ok (.aload_n 0, 1) := by decide +kernel
theorem d_M_sells_24 : decode b_M_sells 24 = .ok (.aload_n 0, 1) := by decide +kernel
theorem d_M_sells_25 : decode b_M_sells 25 = .ok (.getfield 219, 3) := by decide +kernel
theorem d_M_sells_28 : decode b_M_sells 28 = .ok (.invokevirtual 130, 3) := by decide +kernel
theorem d_M_sells_31 : decode b_M_sells 31 = .ok (.ifCond .eq 5, 3) := by decide +kernel
theorem d_M_sells_34 : decode b_M_sells 34 = .ok (.iconst 0, 1) := by decide +kernel
theorem d_M_sells_35 : decode b_M_sells 35 = .ok (.ireturn, 1) := by decide +kernel
theorem d_M_sells_36 : decode b_M_sells 36 = .ok (.aload_n 0, 1) := by decide +kernel
theorem d_M_sells_37 : decode b_M_sells 37 = .ok (.aload_n 0, 1) := by decide +kernel
theorem d_M_sells_38 : decode b_M_sells 38 = .ok (.getfield 219, 3) := by decide +kernel
theorem d_M_sells_41 : decode b_M_sells 41 = .ok (.aload_n 0, 1) := by decide +kernel
theorem d_M_sells_42 : decode b_M_sells 42 = .ok (.aload_n 0, 1) := by decide +kernel
theorem d_M_sells_43 : decode b_M_sells 43 = .ok (.getfield 219, 3) := by decide +kernel
theorem d_M_sells_46 : decode b_M_sells 46 = .ok (.iconst 5, 1) := by decide +kernel
theorem d_M_sells_47 : decode b_M_sells 47 = .ok (.invokevirtual 83, 3) := by decide +kernel
theorem d_M_sells_50 : decode b_M_sells 50 = .ok (.invokevirtual 133, 3) := by decide +kernel
theorem d_M_sells_53 : decode b_M_sells 53 = .ok (.pop, 1) := by decide +kernel
theorem d_M_sells_54 : decode b_M_sells 54 = .ok (.iinc 1 1, 3) := by decide +kernel
theorem d_M_sells_57 : decode b_M_sells 57 = .ok (.goto (-42), 3) := by decide +kernel
theorem d_M_sells_60 : decode b_M_sells 60 = .ok (.iconst 1, 1) := by decide +kernel
theorem d_M_sells_61 : decode b_M_sells 61 = .ok (.ireturn, 1) := by decide +kernel
theorem d_M_errorPosition_0 : decode b_M_errorPosition 0 = .ok (.aload_n 0, 1) := by decide +kernel
theorem d_M_errorPosition_1 : decode b_M_errorPosition 1 = .ok (.aload_n 0, 1) := by decide +kernel
theorem d_M_errorPosition_2 : decode b_M_errorPosition 2 = .ok (.getfield 22, 3) := by decide +kernel
theorem d_M_errorPosition_5 : decode b_M_errorPosition 5 = .ok (.iconst (-1), 1) := by decide +kernel
theorem d_M_errorPosition_6 : decode b_M_errorPosition 6 = .ok (.if_icmp .ne 7, 3) := by decide +kernel
theorem d_M_errorPosition_9 : decode b_M_errorPosition 9 = .ok (.iconst 1, 1) := by decide +kernel
theorem d_M_errorPosition_10 : decode b_M_errorPosition 10 = .ok (.goto 4, 3) := by decide +kernel
theorem d_M_errorPosition_13 : decode b_M_errorPosition 13 = .ok (.iconst 0, 1) := by decide +kernel
theorem d_M_errorPosition_14 : decode b_M_errorPosition 14 = .ok (.putfield 33, 3) := by decide +kernel
theorem d_M_errorPosition_17 : decode b_M_errorPosition 17 = .ok (.aload_n 0, 1) := by decide +kernel
theorem d_M_errorPosition_18 : decode b_M_errorPosition 18 = .ok (.getfield 33, 3) := by decide +kernel
theorem d_M_errorPosition_21 : decode b_M_errorPosition 21 = .ok (.ifCond .ne 10, 3) := by decide +kernel
theorem d_M_errorPosition_24 : decode b_M_errorPosition 24 = .ok (.aload_n 0, 1) := by decide +kernel
theorem d_M_errorPosition_25 : decode b_M_errorPosition 25 = .ok (.getfield 22, 3) := by decide +kernel
theorem d_M_errorPosition_28 : decode b_M_errorPosition 28 = .ok (.goto 4, 3) := by decide +kernel
theorem d_M_errorPosition_31 : decode b_M_errorPosition 31 = .ok (.iconst 0, 1) := by decide +kernel
theorem d_M_errorPosition_32 : decode b_M_errorPosition 32 = .ok (.ireturn, 1) := by decide +kernel
theorem d_M_refusedOrder_0 : decode b_M_refusedOrder 0 = .ok (.aload_n 0, 1) := by decide +kernel
theorem d_M_refusedOrder_1 : decode b_M_refusedOrder 1 = .ok (.aload_n 0, 1) := by decide +kernel
theorem d_M_refusedOrder_2 : decode b_M_refusedOrder 2 = .ok (.getfield 26, 3) := by decide +kernel
theorem d_M_refusedOrder_5 : decode b_M_refusedOrder 5 = .ok (.iconst (-1), 1) := by decide +kernel
theorem d_M_refusedOrder_6 : decode b_M_refusedOrder 6 = .ok (.if_icmp .ne 7, 3) := by decide +kernel
theorem d_M_refusedOrder_9 : decode b_M_refusedOrder 9 = .ok (.iconst 1, 1) := by decide +kernel
theorem d_M_refusedOrder_10 : decode b_M_refusedOrder 10 = .ok (.goto 4, 3) := by decide +kernel
theorem d_M_refusedOrder_13 : decode b_M_refusedOrder 13 = .ok (.iconst 0, 1) := by decide +kernel
theorem d_M_refusedOrder_14 : decode b_M_refusedOrder 14 = .ok (.putfield 33, 3) := by decide +kernel
theorem d_M_refusedOrder_17 : decode b_M_refusedOrder 17 = .ok (.aload_n 0, 1) := by decide +kernel
theorem d_M_refusedOrder_18 : decode b_M_refusedOrder 18 = .ok (.getfield 33, 3) := by decide +kernel
theorem d_M_refusedOrder_21 : decode b_M_refusedOrder 21 = .ok (.ifCond .ne 10, 3) := by decide +kernel
theorem d_M_refusedOrder_24 : decode b_M_refusedOrder 24 = .ok (.aload_n 0, 1) := by decide +kernel
theorem d_M_refusedOrder_25 : decode b_M_refusedOrder 25 = .ok (.getfield 26, 3) := by decide +kernel
theorem d_M_refusedOrder_28 : decode b_M_refusedOrder 28 = .ok (.goto 4, 3) := by decide +kernel
theorem d_M_refusedOrder_31 : decode b_M_refusedOrder 31 = .ok (.iconst 0, 1) := by decide +kernel
theorem d_M_refusedOrder_32 : decode b_M_refusedOrder 32 = .ok (.ireturn, 1) := by decide +kernel
theorem d_M_undo_0 : decode b_M_undo 0 = .ok (.aload_n 0, 1) := by decide +kernel
theorem d_M_undo_1 : decode b_M_undo 1 = .ok (.iconst 0, 1) := by decide +kernel
theorem d_M_undo_2 : decode b_M_undo 2 = .ok (.putfield 33, 3) := by decide +kernel
theorem d_M_undo_5 : decode b_M_undo 5 = .ok (.aload_n 0, 1) := by decide +kernel
theorem d_M_undo_6 : decode b_M_undo 6 = .ok (.getfield 36, 3) := by decide +kernel
theorem d_M_undo_9 : decode b_M_undo 9 = .ok (.ifCond .ne 9, 3) := by decide +kernel
theorem d_M_undo_12 : decode b_M_undo 12 = .ok (.aload_n 0, 1) := by decide +kernel
theorem d_M_undo_13 : decode b_M_undo 13 = .ok (.iconst 1, 1) := by decide +kernel
theorem d_M_undo_14 : decode b_M_undo 14 = .ok (.invokevirtual 52, 3) := by decide +kernel
theorem d_M_undo_17 : decode b_M_undo 17 = .ok (.ireturn, 1) := by decide +kernel
theorem d_M_undo_18 : decode b_M_undo 18 = .ok (.aload_n 0, 1) := by decide +kernel
theorem d_M_undo_19 : decode b_M_undo 19 = .ok (.dup, 1) := by decide +kernel
theorem d_M_undo_20 : decode b_M_undo 20 = .ok (.getfield 36, 3) := by decide +kernel
theorem d_M_undo_23 : decode b_M_undo 23 = .ok (.iconst 1, 1) := by decide +kernel
theorem d_M_undo_24 : decode b_M_undo 24 = .ok (.isub, 1) := by decide +kernel
theorem d_M_undo_25 : decode b_M_undo 25 = .ok (.putfield 36, 3) := by decide +kernel
theorem d_M_undo_28 : decode b_M_undo 28 = .ok (.iconst 0, 1) := by decide +kernel
theorem d_M_undo_29 : decode b_M_undo 29 = .ok (.istore_n 1, 1) := by decide +kernel
theorem d_M_undo_30 : decode b_M_undo 30 = .ok (.iload_n 1, 1) := by decide +kernel
theorem d_M_undo_31 : decode b_M_undo 31 = .ok (.sipush 3561, 3) := by decide +kernel
theorem d_M_undo_34 : decode b_M_undo 34 = .ok (.if_icmp .ge 30, 3) := by decide +kernel
theorem d_M_undo_37 : decode b_M_undo 37 = .ok (.aload_n 0, 1) := by decide +kernel
theorem d_M_undo_38 : decode b_M_undo 38 = .ok (.getfield 9, 3) := by decide +kernel
theorem d_M_undo_41 : decode b_M_undo 41 = .ok (.iload_n 1, 1) := by decide +kernel
theorem d_M_undo_42 : decode b_M_undo 42 = .ok (.aload_n 0, 1) := by decide +kernel
theorem d_M_undo_43 : decode b_M_undo 43 = .ok (.getfield 13, 3) := by decide +kernel
theorem d_M_undo_46 : decode b_M_undo 46 = .ok (.sipush 3561, 3) := by decide +kernel
theorem d_M_undo_49 : decode b_M_undo 49 = .ok (.aload_n 0, 1) := by decide +kernel
theorem d_M_undo_50 : decode b_M_undo 50 = .ok (.getfield 36, 3) := by decide +kernel
theorem d_M_undo_53 : decode b_M_undo 53 = .ok (.imul, 1) := by decide +kernel
theorem d_M_undo_54 : decode b_M_undo 54 = .ok (.iload_n 1, 1) := by decide +kernel
theorem d_M_undo_55 : decode b_M_undo 55 = .ok (.iadd, 1) := by decide +kernel
theorem d_M_undo_56 : decode b_M_undo 56 = .ok (.iaload, 1) := by decide +kernel
theorem d_M_undo_57 : decode b_M_undo 57 = .ok (.iastore, 1) := by decide +kernel
theorem d_M_undo_58 : decode b_M_undo 58 = .ok (.iinc 1 1, 3) := by decide +kernel
theorem d_M_undo_61 : decode b_M_undo 61 = .ok (.goto (-31), 3) := by decide +kernel
theorem d_M_undo_64 : decode b_M_undo 64 = .ok (.aload_n 0, 1) := by decide +kernel
theorem d_M_undo_65 : decode b_M_undo 65 = .ok (.getfield 36, 3) := by decide +kernel
theorem d_M_undo_68 : decode b_M_undo 68 = .ok (.ireturn, 1) := by decide +kernel
theorem d_M_snapshot_0 : decode b_M_snapshot 0 = .ok (.aload_n 0, 1) := by decide +kernel
theorem d_M_snapshot_1 : decode b_M_snapshot 1 = .ok (.iconst 0, 1) := by decide +kernel
theorem d_M_snapshot_2 : decode b_M_snapshot 2 = .ok (.putfield 33, 3) := by decide +kernel
theorem d_M_snapshot_5 : decode b_M_snapshot 5 = .ok (.aload_n 0, 1) := by decide +kernel
theorem d_M_snapshot_6 : decode b_M_snapshot 6 = .ok (.iconst 1, 1) := by decide +kernel
theorem d_M_snapshot_7 : decode b_M_snapshot 7 = .ok (.putfield 249, 3) := by decide +kernel
theorem d_M_snapshot_10 : decode b_M_snapshot 10 = .ok (.iconst 0, 1) := by decide +kernel
theorem d_M_snapshot_11 : decode b_M_snapshot 11 = .ok (.istore_n 1, 1) := by decide +kernel
theorem d_M_snapshot_12 : decode b_M_snapshot 12 = .ok (.iload_n 1, 1) := by decide +kernel
theorem d_M_snapshot_13 : decode b_M_snapshot 13 = .ok (.sipush 3561, 3) := by decide +kernel
theorem d_M_snapshot_16 : decode b_M_snapshot 16 = .ok (.if_icmp .ge 21, 3) := by decide +kernel
theorem d_M_snapshot_19 : decode b_M_snapshot 19 = .ok (.aload_n 0, 1) := by decide +kernel
theorem d_M_snapshot_20 : decode b_M_snapshot 20 = .ok (.getfield 16, 3) := by decide +kernel
theorem d_M_snapshot_23 : decode b_M_snapshot 23 = .ok (.iload_n 1, 1) := by decide +kernel
theorem d_M_snapshot_24 : decode b_M_snapshot 24 = .ok (.aload_n 0, 1) := by decide +kernel
theorem d_M_snapshot_25 : decode b_M_snapshot 25 = .ok (.getfield 9, 3) := by decide +kernel
theorem d_M_snapshot_28 : decode b_M_snapshot 28 = .ok (.iload_n 1, 1) := by decide +kernel
theorem d_M_snapshot_29 : decode b_M_snapshot 29 = .ok (.iaload, 1) := by decide +kernel
theorem d_M_snapshot_30 : decode b_M_snapshot 30 = .ok (.iastore, 1) := by decide +kernel
theorem d_M_snapshot_31 : decode b_M_snapshot 31 = .ok (.iinc 1 1, 3) := by decide +kernel
theorem d_M_snapshot_34 : decode b_M_snapshot 34 = .ok (.goto (-22), 3) := by decide +kernel
theorem d_M_snapshot_37 : decode b_M_snapshot 37 = .ok (.aload_n 0, 1) := by decide +kernel
theorem d_M_snapshot_38 : decode b_M_snapshot 38 = .ok (.getfield 9, 3) := by decide +kernel
theorem d_M_snapshot_41 : decode b_M_snapshot 41 = .ok (.iconst 3, 1) := by decide +kernel
theorem d_M_snapshot_42 : decode b_M_snapshot 42 = .ok (.iaload, 1) := by decide +kernel
theorem d_M_snapshot_43 : decode b_M_snapshot 43 = .ok (.ireturn, 1) := by decide +kernel
theorem d_M_restore_0 : decode b_M_restore 0 = .ok (.aload_n 0, 1) := by decide +kernel
theorem d_M_restore_1 : decode b_M_restore 1 = .ok (.iconst 0, 1) := by decide +kernel
theorem d_M_restore_2 : decode b_M_restore 2 = .ok (.putfield 33, 3) := by decide +kernel
theorem d_M_restore_5 : decode b_M_restore 5 = .ok (.aload_n 0, 1) := by decide +kernel
theorem d_M_restore_6 : decode b_M_restore 6 = .ok (.getfield 249, 3) := by decide +kernel
theorem d_M_restore_9 : decode b_M_restore 9 = .ok (.ifCond .ne 9, 3) := by decide +kernel
theorem d_M_restore_12 : decode b_M_restore 12 = .ok (.aload_n 0, 1) := by decide +kernel
theorem d_M_restore_13 : decode b_M_restore 13 = .ok (.iconst 1, 1) := by decide +kernel
theorem d_M_restore_14 : decode b_M_restore 14 = .ok (.invokevirtual 52, 3) := by decide +kernel
theorem d_M_restore_17 : decode b_M_restore 17 = .ok (.ireturn, 1) := by decide +kernel
theorem d_M_restore_18 : decode b_M_restore 18 = .ok (.iconst 0, 1) := by decide +kernel
theorem d_M_restore_19 : decode b_M_restore 19 = .ok (.istore_n 1, 1) := by decide +kernel
theorem d_M_restore_20 : decode b_M_restore 20 = .ok (.iload_n 1, 1) := by decide +kernel
theorem d_M_restore_21 : decode b_M_restore 21 = .ok (.sipush 3561, 3) := by decide +kernel
theorem d_M_restore_24 : decode b_M_restore 24 = .ok (.if_icmp .ge 21, 3) := by decide +kernel
theorem d_M_restore_27 : decode b_M_restore 27 = .ok (.aload_n 0, 1) := by decide +kernel
theorem d_M_restore_28 : decode b_M_restore 28 = .ok (.getfield 9, 3) := by decide +kernel
theorem d_M_restore_31 : decode b_M_restore 31 = .ok (.iload_n 1, 1) := by decide +kernel
theorem d_M_restore_32 : decode b_M_restore 32 = .ok (.aload_n 0, 1) := by decide +kernel
theorem d_M_restore_33 : decode b_M_restore 33 = .ok (.getfield 16, 3) := by decide +kernel
theorem d_M_restore_36 : decode b_M_restore 36 = .ok (.iload_n 1, 1) := by decide +kernel
theorem d_M_restore_37 : decode b_M_restore 37 = .ok (.iaload, 1) := by decide +kernel
theorem d_M_restore_38 : decode b_M_restore 38 = .ok (.iastore, 1) := by decide +kernel
theorem d_M_restore_39 : decode b_M_restore 39 = .ok (.iinc 1 1, 3) := by decide +kernel
theorem d_M_restore_42 : decode b_M_restore 42 = .ok (.goto (-22), 3) := by decide +kernel
theorem d_M_restore_45 : decode b_M_restore 45 = .ok (.aload_n 0, 1) := by decide +kernel
theorem d_M_restore_46 : decode b_M_restore 46 = .ok (.iconst 0, 1) := by decide +kernel
theorem d_M_restore_47 : decode b_M_restore 47 = .ok (.putfield 36, 3) := by decide +kernel
theorem d_M_restore_50 : decode b_M_restore 50 = .ok (.aload_n 0, 1) := by decide +kernel
theorem d_M_restore_51 : decode b_M_restore 51 = .ok (.getfield 9, 3) := by decide +kernel
theorem d_M_restore_54 : decode b_M_restore 54 = .ok (.iconst 3, 1) := by decide +kernel
theorem d_M_restore_55 : decode b_M_restore 55 = .ok (.iaload, 1) := by decide +kernel
theorem d_M_restore_56 : decode b_M_restore 56 = .ok (.ireturn, 1) := by decide +kernel
