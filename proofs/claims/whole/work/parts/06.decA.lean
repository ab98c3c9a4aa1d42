theorem dX0_add_0 : decode cX0_add 0 = .ok (.aload_n 0, 1) := by decide +kernel
theorem dX0_add_1 : decode cX0_add 1 = .ok (.getfield 33, 3) := by decide +kernel
theorem dX0_add_4 : decode cX0_add 4 = .ok (.ifCond .lt 12, 3) := by decide +kernel
theorem dX0_add_7 : decode cX0_add 7 = .ok (.aload_n 0, 1) := by decide +kernel
theorem dX0_add_8 : decode cX0_add 8 = .ok (.getfield 33, 3) := by decide +kernel
theorem dX0_add_11 : decode cX0_add 11 = .ok (.bipush 82, 2) := by decide +kernel
theorem dX0_add_13 : decode cX0_add 13 = .ok (.if_icmp .lt 4, 3) := by decide +kernel
theorem dX0_add_16 : decode cX0_add 16 = .ok (.return_, 1) := by decide +kernel
theorem dX0_add_17 : decode cX0_add 17 = .ok (.aload_n 0, 1) := by decide +kernel
theorem dX0_add_18 : decode cX0_add 18 = .ok (.getfield 11, 3) := by decide +kernel
theorem dX0_add_21 : decode cX0_add 21 = .ok (.aload_n 0, 1) := by decide +kernel
theorem dX0_add_22 : decode cX0_add 22 = .ok (.getfield 33, 3) := by decide +kernel
theorem dX0_add_25 : decode cX0_add 25 = .ok (.iload_n 1, 1) := by decide +kernel
theorem dX0_add_26 : decode cX0_add 26 = .ok (.iastore, 1) := by decide +kernel
theorem dX0_add_27 : decode cX0_add 27 = .ok (.aload_n 0, 1) := by decide +kernel
theorem dX0_add_28 : decode cX0_add 28 = .ok (.getfield 15, 3) := by decide +kernel
theorem dX0_add_31 : decode cX0_add 31 = .ok (.aload_n 0, 1) := by decide +kernel
theorem dX0_add_32 : decode cX0_add 32 = .ok (.getfield 33, 3) := by decide +kernel
theorem dX0_add_35 : decode cX0_add 35 = .ok (.iload_n 2, 1) := by decide +kernel
theorem dX0_add_36 : decode cX0_add 36 = .ok (.iastore, 1) := by decide +kernel
theorem dX0_add_37 : decode cX0_add 37 = .ok (.aload_n 0, 1) := by decide +kernel
theorem dX0_add_38 : decode cX0_add 38 = .ok (.getfield 18, 3) := by decide +kernel
theorem dX0_add_41 : decode cX0_add 41 = .ok (.aload_n 0, 1) := by decide +kernel
theorem dX0_add_42 : decode cX0_add 42 = .ok (.getfield 33, 3) := by decide +kernel
theorem dX0_add_45 : decode cX0_add 45 = .ok (.iload_n 2, 1) := by decide +kernel
theorem dX0_add_46 : decode cX0_add 46 = .ok (.iload_n 3, 1) := by decide +kernel
theorem dX0_add_47 : decode cX0_add 47 = .ok (.iadd, 1) := by decide +kernel
theorem dX0_add_48 : decode cX0_add 48 = .ok (.iconst 1, 1) := by decide +kernel
theorem dX0_add_49 : decode cX0_add 49 = .ok (.isub, 1) := by decide +kernel
theorem dX0_add_50 : decode cX0_add 50 = .ok (.iastore, 1) := by decide +kernel
theorem dX0_add_51 : decode cX0_add 51 = .ok (.aload_n 0, 1) := by decide +kernel
theorem dX0_add_52 : decode cX0_add 52 = .ok (.getfield 21, 3) := by decide +kernel
theorem dX0_add_55 : decode cX0_add 55 = .ok (.aload_n 0, 1) := by decide +kernel
theorem dX0_add_56 : decode cX0_add 56 = .ok (.getfield 33, 3) := by decide +kernel
theorem dX0_add_59 : decode cX0_add 59 = .ok (.iload 4, 2) := by decide +kernel
theorem dX0_add_61 : decode cX0_add 61 = .ok (.iastore, 1) := by decide +kernel
theorem dX0_add_62 : decode cX0_add 62 = .ok (.aload_n 0, 1) := by decide +kernel
theorem dX0_add_63 : decode cX0_add 63 = .ok (.getfield 24, 3) := by decide +kernel
theorem dX0_add_66 : decode cX0_add 66 = .ok (.aload_n 0, 1) := by decide +kernel
theorem dX0_add_67 : decode cX0_add 67 = .ok (.getfield 33, 3) := by decide +kernel
theorem dX0_add_70 : decode cX0_add 70 = .ok (.iload 5, 2) := by decide +kernel
theorem dX0_add_72 : decode cX0_add 72 = .ok (.iastore, 1) := by decide +kernel
theorem dX0_add_73 : decode cX0_add 73 = .ok (.aload_n 0, 1) := by decide +kernel
theorem dX0_add_74 : decode cX0_add 74 = .ok (.getfield 27, 3) := by decide +kernel
theorem dX0_add_77 : decode cX0_add 77 = .ok (.aload_n 0, 1) := by decide +kernel
theorem dX0_add_78 : decode cX0_add 78 = .ok (.getfield 33, 3) := by decide +kernel
theorem dX0_add_81 : decode cX0_add 81 = .ok (.iload 6, 2) := by decide +kernel
theorem dX0_add_83 : decode cX0_add 83 = .ok (.iastore, 1) := by decide +kernel
theorem dX0_add_84 : decode cX0_add 84 = .ok (.aload_n 0, 1) := by decide +kernel
theorem dX0_add_85 : decode cX0_add 85 = .ok (.getfield 30, 3) := by decide +kernel
theorem dX0_add_88 : decode cX0_add 88 = .ok (.aload_n 0, 1) := by decide +kernel
theorem dX0_add_89 : decode cX0_add 89 = .ok (.getfield 33, 3) := by decide +kernel
theorem dX0_add_92 : decode cX0_add 92 = .ok (.iconst 0, 1) := by decide +kernel
theorem dX0_add_93 : decode cX0_add 93 = .ok (.iastore, 1) := by decide +kernel
theorem dX0_add_94 : decode cX0_add 94 = .ok (.aload_n 0, 1) := by decide +kernel
theorem dX0_add_95 : decode cX0_add 95 = .ok (.dup, 1) := by decide +kernel
theorem dX0_add_96 : decode cX0_add 96 = .ok (.getfield 33, 3) := by decide +kernel
theorem dX0_add_99 : decode cX0_add 99 = .ok (.iconst 1, 1) := by decide +kernel
theorem dX0_add_100 : decode cX0_add 100 = .ok (.iadd, 1) := by decide +kernel
theorem dX0_add_101 : decode cX0_add 101 = .ok (.putfield 33, 3) := by decide +kernel
theorem dX0_add_104 : decode cX0_add 104 = .ok (.return_, 1) := by decide +kernel
theorem dX0_has_0 : decode cX0_has 0 = .ok (.iload_n 1, 1) := by decide +kernel
theorem dX0_has_1 : decode cX0_has 1 = .ok (.ifCond .lt 43, 3) := by decide +kernel
theorem dX0_has_4 : decode cX0_has 4 = .ok (.iload_n 1, 1) := by decide +kernel
theorem dX0_has_5 : decode cX0_has 5 = .ok (.bipush 82, 2) := by decide +kernel
theorem dX0_has_7 : decode cX0_has 7 = .ok (.if_icmp .ge 37, 3) := by decide +kernel
theorem dX0_has_10 : decode cX0_has 10 = .ok (.aload_n 0, 1) := by decide +kernel
theorem dX0_has_11 : decode cX0_has 11 = .ok (.getfield 11, 3) := by decide +kernel
theorem dX0_has_14 : decode cX0_has 14 = .ok (.iload_n 1, 1) := by decide +kernel
theorem dX0_has_15 : decode cX0_has 15 = .ok (.iaload, 1) := by decide +kernel
theorem dX0_has_16 : decode cX0_has 16 = .ok (.iload_n 2, 1) := by decide +kernel
theorem dX0_has_17 : decode cX0_has 17 = .ok (.if_icmp .ne 27, 3) := by decide +kernel
theorem dX0_has_20 : decode cX0_has 20 = .ok (.aload_n 0, 1) := by decide +kernel
theorem dX0_has_21 : decode cX0_has 21 = .ok (.getfield 15, 3) := by decide +kernel
theorem dX0_has_24 : decode cX0_has 24 = .ok (.iload_n 1, 1) := by decide +kernel
theorem dX0_has_25 : decode cX0_has 25 = .ok (.iaload, 1) := by decide +kernel
theorem dX0_has_26 : decode cX0_has 26 = .ok (.iload_n 3, 1) := by decide +kernel
theorem dX0_has_27 : decode cX0_has 27 = .ok (.if_icmp .gt 17, 3) := by decide +kernel
theorem dX0_has_30 : decode cX0_has 30 = .ok (.iload_n 3, 1) := by decide +kernel
theorem dX0_has_31 : decode cX0_has 31 = .ok (.aload_n 0, 1) := by decide +kernel
theorem dX0_has_32 : decode cX0_has 32 = .ok (.getfield 18, 3) := by decide +kernel
theorem dX0_has_35 : decode cX0_has 35 = .ok (.iload_n 1, 1) := by decide +kernel
theorem dX0_has_36 : decode cX0_has 36 = .ok (.iaload, 1) := by decide +kernel
theorem dX0_has_37 : decode cX0_has 37 = .ok (.if_icmp .gt 7, 3) := by decide +kernel
theorem dX0_has_40 : decode cX0_has 40 = .ok (.iconst 1, 1) := by decide +kernel
theorem dX0_has_41 : decode cX0_has 41 = .ok (.goto 4, 3) := by decide +kernel
theorem dX0_has_44 : decode cX0_has 44 = .ok (.iconst 0, 1) := by decide +kernel
theorem dX0_has_45 : decode cX0_has 45 = .ok (.ireturn, 1) := by decide +kernel
theorem dX0_hold_0 : decode cX0_hold 0 = .ok (.iconst 0, 1) := by decide +kernel
theorem dX0_hold_1 : decode cX0_hold 1 = .ok (.istore_n 3, 1) := by decide +kernel
theorem dX0_hold_2 : decode cX0_hold 2 = .ok (.iload_n 3, 1) := by decide +kernel
theorem dX0_hold_3 : decode cX0_hold 3 = .ok (.aload_n 0, 1) := by decide +kernel
theorem dX0_hold_4 : decode cX0_hold 4 = .ok (.getfield 33, 3) := by decide +kernel
theorem dX0_hold_7 : decode cX0_hold 7 = .ok (.if_icmp .ge 27, 3) := by decide +kernel
theorem dX0_hold_10 : decode cX0_hold 10 = .ok (.iload_n 3, 1) := by decide +kernel
theorem dX0_hold_11 : decode cX0_hold 11 = .ok (.bipush 82, 2) := by decide +kernel
theorem dX0_hold_13 : decode cX0_hold 13 = .ok (.if_icmp .ge 21, 3) := by decide +kernel
theorem dX0_hold_16 : decode cX0_hold 16 = .ok (.aload_n 0, 1) := by decide +kernel
theorem dX0_hold_17 : decode cX0_hold 17 = .ok (.iload_n 3, 1) := by decide +kernel
theorem dX0_hold_18 : decode cX0_hold 18 = .ok (.iload_n 1, 1) := by decide +kernel
theorem dX0_hold_19 : decode cX0_hold 19 = .ok (.iload_n 2, 1) := by decide +kernel
theorem dX0_hold_20 : decode cX0_hold 20 = .ok (.invokevirtual 37, 3) := by decide +kernel
theorem dX0_hold_23 : decode cX0_hold 23 = .ok (.ifCond .eq 5, 3) := by decide +kernel
theorem dX0_hold_26 : decode cX0_hold 26 = .ok (.iconst 1, 1) := by decide +kernel
theorem dX0_hold_27 : decode cX0_hold 27 = .ok (.ireturn, 1) := by decide +kernel
theorem dX0_hold_28 : decode cX0_hold 28 = .ok (.iinc 3 1, 3) := by decide +kernel
theorem dX0_hold_31 : decode cX0_hold 31 = .ok (.goto (-29), 3) := by decide +kernel
theorem dX0_hold_34 : decode cX0_hold 34 = .ok (.iconst 0, 1) := by decide +kernel
theorem dX0_hold_35 : decode cX0_hold 35 = .ok (.ireturn, 1) := by decide +kernel
theorem dX0_firstFree_0 : decode cX0_firstFree 0 = .ok (.iload_n 2, 1) := by decide +kernel
theorem dX0_firstFree_1 : decode cX0_firstFree 1 = .ok (.istore_n 3, 1) := by decide +kernel
theorem dX0_firstFree_2 : decode cX0_firstFree 2 = .ok (.iconst 0, 1) := by decide +kernel
theorem dX0_firstFree_3 : decode cX0_firstFree 3 = .ok (.istore 4, 2) := by decide +kernel
theorem dX0_firstFree_5 : decode cX0_firstFree 5 = .ok (.iload 4, 2) := by decide +kernel
theorem dX0_firstFree_7 : decode cX0_firstFree 7 = .ok (.bipush 82, 2) := by decide +kernel
theorem dX0_firstFree_9 : decode cX0_firstFree 9 = .ok (.if_icmp .gt 28, 3) := by decide +kernel
theorem dX0_firstFree_12 : decode cX0_firstFree 12 = .ok (.aload_n 0, 1) := by decide +kernel
theorem dX0_firstFree_13 : decode cX0_firstFree 13 = .ok (.iload_n 1, 1) := by decide +kernel
theorem dX0_firstFree_14 : decode cX0_firstFree 14 = .ok (.iload_n 3, 1) := by decide +kernel
theorem dX0_firstFree_15 : decode cX0_firstFree 15 = .ok (.invokevirtual 41, 3) := by decide +kernel
theorem dX0_firstFree_18 : decode cX0_firstFree 18 = .ok (.istore 5, 2) := by decide +kernel
theorem dX0_firstFree_20 : decode cX0_firstFree 20 = .ok (.iload 5, 2) := by decide +kernel
theorem dX0_firstFree_22 : decode cX0_firstFree 22 = .ok (.iload_n 3, 1) := by decide +kernel
theorem dX0_firstFree_23 : decode cX0_firstFree 23 = .ok (.if_icmp .ne 5, 3) := by decide +kernel
theorem dX0_firstFree_26 : decode cX0_firstFree 26 = .ok (.iload_n 3, 1) := by decide +kernel
theorem dX0_firstFree_27 : decode cX0_firstFree 27 = .ok (.ireturn, 1) := by decide +kernel
theorem dX0_firstFree_28 : decode cX0_firstFree 28 = .ok (.iload 5, 2) := by decide +kernel
theorem dX0_firstFree_30 : decode cX0_firstFree 30 = .ok (.istore_n 3, 1) := by decide +kernel
theorem dX0_firstFree_31 : decode cX0_firstFree 31 = .ok (.iinc 4 1, 3) := by decide +kernel
theorem dX0_firstFree_34 : decode cX0_firstFree 34 = .ok (.goto (-29), 3) := by decide +kernel
theorem dX0_firstFree_37 : decode cX0_firstFree 37 = .ok (.iload_n 3, 1) := by decide +kernel
theorem dX0_firstFree_38 : decode cX0_firstFree 38 = .ok (.ireturn, 1) := by decide +kernel
theorem dX0_dayBehindBansOn_0 : decode cX0_dayBehindBansOn 0 = .ok (.iload_n 2, 1) := by decide +kernel
theorem dX0_dayBehindBansOn_1 : decode cX0_dayBehindBansOn 1 = .ok (.istore_n 3, 1) := by decide +kernel
theorem dX0_dayBehindBansOn_2 : decode cX0_dayBehindBansOn 2 = .ok (.iconst 0, 1) := by decide +kernel
theorem dX0_dayBehindBansOn_3 : decode cX0_dayBehindBansOn 3 = .ok (.istore 4, 2) := by decide +kernel
theorem dX0_dayBehindBansOn_5 : decode cX0_dayBehindBansOn 5 = .ok (.iload 4, 2) := by decide +kernel
theorem dX0_dayBehindBansOn_7 : decode cX0_dayBehindBansOn 7 = .ok (.aload_n 0, 1) := by decide +kernel
theorem dX0_dayBehindBansOn_8 : decode cX0_dayBehindBansOn 8 = .ok (.getfield 33, 3) := by decide +kernel
theorem dX0_dayBehindBansOn_11 : decode cX0_dayBehindBansOn 11 = .ok (.if_icmp .ge 41, 3) := by decide +kernel
theorem dX0_dayBehindBansOn_14 : decode cX0_dayBehindBansOn 14 = .ok (.iload 4, 2) := by decide +kernel
theorem dX0_dayBehindBansOn_16 : decode cX0_dayBehindBansOn 16 = .ok (.bipush 82, 2) := by decide +kernel
theorem dX0_dayBehindBansOn_18 : decode cX0_dayBehindBansOn 18 = .ok (.if_icmp .ge 34, 3) := by decide +kernel
theorem dX0_dayBehindBansOn_21 : decode cX0_dayBehindBansOn 21 = .ok (.aload_n 0, 1) := by decide +kernel
theorem dX0_dayBehindBansOn_22 : decode cX0_dayBehindBansOn 22 = .ok (.iload 4, 2) := by decide +kernel
theorem dX0_dayBehindBansOn_24 : decode cX0_dayBehindBansOn 24 = .ok (.iload_n 1, 1) := by decide +kernel
theorem dX0_dayBehindBansOn_25 : decode cX0_dayBehindBansOn 25 = .ok (.iload_n 2, 1) := by decide +kernel
theorem dX0_dayBehindBansOn_26 : decode cX0_dayBehindBansOn 26 = .ok (.invokevirtual 37, 3) := by decide +kernel
theorem dX0_dayBehindBansOn_29 : decode cX0_dayBehindBansOn 29 = .ok (.ifCond .eq 17, 3) := by decide +kernel
theorem dX0_dayBehindBansOn_32 : decode cX0_dayBehindBansOn 32 = .ok (.iload_n 3, 1) := by decide +kernel
theorem dX0_dayBehindBansOn_33 : decode cX0_dayBehindBansOn 33 = .ok (.aload_n 0, 1) := by decide +kernel
theorem dX0_dayBehindBansOn_34 : decode cX0_dayBehindBansOn 34 = .ok (.getfield 18, 3) := by decide +kernel
theorem dX0_dayBehindBansOn_37 : decode cX0_dayBehindBansOn 37 = .ok (.iload 4, 2) := by decide +kernel
theorem dX0_dayBehindBansOn_39 : decode cX0_dayBehindBansOn 39 = .ok (.iaload, 1) := by decide +kernel
theorem dX0_dayBehindBansOn_40 : decode cX0_dayBehindBansOn 40 = .ok (.iconst 1, 1) := by decide +kernel
theorem dX0_dayBehindBansOn_41 : decode cX0_dayBehindBansOn 41 = .ok (.iadd, 1) := by decide +kernel
theorem dX0_dayBehindBansOn_42 : decode cX0_dayBehindBansOn 42 = .ok (.invokestatic 45, 3) := by decide +kernel
theorem dX0_dayBehindBansOn_45 : decode cX0_dayBehindBansOn 45 = .ok (.istore_n 3, 1) := by decide +kernel
theorem dX0_dayBehindBansOn_46 : decode cX0_dayBehindBansOn 46 = .ok (.iinc 4 1, 3) := by decide +kernel
theorem dX0_dayBehindBansOn_49 : decode cX0_dayBehindBansOn 49 = .ok (.goto (-44), 3) := by decide +kernel
theorem dX0_dayBehindBansOn_52 : decode cX0_dayBehindBansOn 52 = .ok (.iload_n 3, 1) := by decide +kernel
theorem dX0_dayBehindBansOn_53 : decode cX0_dayBehindBansOn 53 = .ok (.ireturn, 1) := by decide +kernel
theorem dX0_daysBetween_0 : decode cX0_daysBetween 0 = .ok (.iconst 0, 1) := by decide +kernel
theorem dX0_daysBetween_1 : decode cX0_daysBetween 1 = .ok (.istore 4, 2) := by decide +kernel
theorem dX0_daysBetween_3 : decode cX0_daysBetween 3 = .ok (.iload_n 2, 1) := by decide +kernel
theorem dX0_daysBetween_4 : decode cX0_daysBetween 4 = .ok (.istore 5, 2) := by decide +kernel
theorem dX0_daysBetween_6 : decode cX0_daysBetween 6 = .ok (.iconst 0, 1) := by decide +kernel
theorem dX0_daysBetween_7 : decode cX0_daysBetween 7 = .ok (.istore 6, 2) := by decide +kernel
theorem dX0_daysBetween_9 : decode cX0_daysBetween 9 = .ok (.iload 6, 2) := by decide +kernel
theorem dX0_daysBetween_11 : decode cX0_daysBetween 11 = .ok (.bipush 83, 2) := by decide +kernel
theorem dX0_daysBetween_13 : decode cX0_daysBetween 13 = .ok (.if_icmp .gt 52, 3) := by decide +kernel
theorem dX0_daysBetween_16 : decode cX0_daysBetween 16 = .ok (.iload 5, 2) := by decide +kernel
theorem dX0_daysBetween_18 : decode cX0_daysBetween 18 = .ok (.iload_n 3, 1) := by decide +kernel
theorem dX0_daysBetween_19 : decode cX0_daysBetween 19 = .ok (.if_icmp .gt 46, 3) := by decide +kernel
theorem dX0_daysBetween_22 : decode cX0_daysBetween 22 = .ok (.aload_n 0, 1) := by decide +kernel
theorem dX0_daysBetween_23 : decode cX0_daysBetween 23 = .ok (.iload_n 1, 1) := by decide +kernel
theorem dX0_daysBetween_24 : decode cX0_daysBetween 24 = .ok (.iload 5, 2) := by decide +kernel
theorem dX0_daysBetween_26 : decode cX0_daysBetween 26 = .ok (.invokevirtual 50, 3) := by decide +kernel
theorem dX0_daysBetween_29 : decode cX0_daysBetween 29 = .ok (.istore 7, 2) := by decide +kernel
theorem dX0_daysBetween_31 : decode cX0_daysBetween 31 = .ok (.iload 4, 2) := by decide +kernel
theorem dX0_daysBetween_33 : decode cX0_daysBetween 33 = .ok (.iload 7, 2) := by decide +kernel
theorem dX0_daysBetween_35 : decode cX0_daysBetween 35 = .ok (.iload_n 3, 1) := by decide +kernel
theorem dX0_daysBetween_36 : decode cX0_daysBetween 36 = .ok (.iconst 1, 1) := by decide +kernel
theorem dX0_daysBetween_37 : decode cX0_daysBetween 37 = .ok (.iadd, 1) := by decide +kernel
theorem dX0_daysBetween_38 : decode cX0_daysBetween 38 = .ok (.invokestatic 53, 3) := by decide +kernel
theorem dX0_daysBetween_41 : decode cX0_daysBetween 41 = .ok (.iload 5, 2) := by decide +kernel
theorem dX0_daysBetween_43 : decode cX0_daysBetween 43 = .ok (.isub, 1) := by decide +kernel
theorem dX0_daysBetween_44 : decode cX0_daysBetween 44 = .ok (.iadd, 1) := by decide +kernel
theorem dX0_daysBetween_45 : decode cX0_daysBetween 45 = .ok (.istore 4, 2) := by decide +kernel
theorem dX0_daysBetween_47 : decode cX0_daysBetween 47 = .ok (.aload_n 0, 1) := by decide +kernel
theorem dX0_daysBetween_48 : decode cX0_daysBetween 48 = .ok (.iload_n 1, 1) := by decide +kernel
theorem dX0_daysBetween_49 : decode cX0_daysBetween 49 = .ok (.iload 7, 2) := by decide +kernel
theorem dX0_daysBetween_51 : decode cX0_daysBetween 51 = .ok (.iload_n 3, 1) := by decide +kernel
theorem dX0_daysBetween_52 : decode cX0_daysBetween 52 = .ok (.iconst 1, 1) := by decide +kernel
theorem dX0_daysBetween_53 : decode cX0_daysBetween 53 = .ok (.iadd, 1) := by decide +kernel
theorem dX0_daysBetween_54 : decode cX0_daysBetween 54 = .ok (.invokevirtual 56, 3) := by decide +kernel
theorem dX0_daysBetween_57 : decode cX0_daysBetween 57 = .ok (.istore 5, 2) := by decide +kernel
theorem dX0_daysBetween_59 : decode cX0_daysBetween 59 = .ok (.iinc 6 1, 3) := by decide +kernel
theorem dX0_daysBetween_62 : decode cX0_daysBetween 62 = .ok (.goto (-53), 3) := by decide +kernel
theorem dX0_daysBetween_65 : decode cX0_daysBetween 65 = .ok (.iload 4, 2) := by decide +kernel
theorem dX0_daysBetween_67 : decode cX0_daysBetween 67 = .ok (.ireturn, 1) := by decide +kernel
theorem dX0_nextFirstDay_0 : decode cX0_nextFirstDay 0 = .ok (.iload_n 3, 1) := by decide +kernel
theorem dX0_nextFirstDay_1 : decode cX0_nextFirstDay 1 = .ok (.istore 4, 2) := by decide +kernel
theorem dX0_nextFirstDay_3 : decode cX0_nextFirstDay 3 = .ok (.iconst 0, 1) := by decide +kernel
theorem dX0_nextFirstDay_4 : decode cX0_nextFirstDay 4 = .ok (.istore 5, 2) := by decide +kernel
theorem dX0_nextFirstDay_6 : decode cX0_nextFirstDay 6 = .ok (.iload 5, 2) := by decide +kernel
theorem dX0_nextFirstDay_8 : decode cX0_nextFirstDay 8 = .ok (.aload_n 0, 1) := by decide +kernel
theorem dX0_nextFirstDay_9 : decode cX0_nextFirstDay 9 = .ok (.getfield 33, 3) := by decide +kernel
theorem dX0_nextFirstDay_12 : decode cX0_nextFirstDay 12 = .ok (.if_icmp .ge 52, 3) := by decide +kernel
theorem dX0_nextFirstDay_15 : decode cX0_nextFirstDay 15 = .ok (.iload 5, 2) := by decide +kernel
theorem dX0_nextFirstDay_17 : decode cX0_nextFirstDay 17 = .ok (.bipush 82, 2) := by decide +kernel
theorem dX0_nextFirstDay_19 : decode cX0_nextFirstDay 19 = .ok (.if_icmp .ge 45, 3) := by decide +kernel
theorem dX0_nextFirstDay_22 : decode cX0_nextFirstDay 22 = .ok (.aload_n 0, 1) := by decide +kernel
theorem dX0_nextFirstDay_23 : decode cX0_nextFirstDay 23 = .ok (.getfield 11, 3) := by decide +kernel
theorem dX0_nextFirstDay_26 : decode cX0_nextFirstDay 26 = .ok (.iload 5, 2) := by decide +kernel
theorem dX0_nextFirstDay_28 : decode cX0_nextFirstDay 28 = .ok (.iaload, 1) := by decide +kernel
theorem dX0_nextFirstDay_29 : decode cX0_nextFirstDay 29 = .ok (.iload_n 1, 1) := by decide +kernel
theorem dX0_nextFirstDay_30 : decode cX0_nextFirstDay 30 = .ok (.if_icmp .ne 28, 3) := by decide +kernel
theorem dX0_nextFirstDay_33 : decode cX0_nextFirstDay 33 = .ok (.aload_n 0, 1) := by decide +kernel
theorem dX0_nextFirstDay_34 : decode cX0_nextFirstDay 34 = .ok (.getfield 15, 3) := by decide +kernel
theorem dX0_nextFirstDay_37 : decode cX0_nextFirstDay 37 = .ok (.iload 5, 2) := by decide +kernel
theorem dX0_nextFirstDay_39 : decode cX0_nextFirstDay 39 = .ok (.iaload, 1) := by decide +kernel
theorem dX0_nextFirstDay_40 : decode cX0_nextFirstDay 40 = .ok (.iload_n 2, 1) := by decide +kernel
theorem dX0_nextFirstDay_41 : decode cX0_nextFirstDay 41 = .ok (.if_icmp .le 17, 3) := by decide +kernel
theorem dX0_nextFirstDay_44 : decode cX0_nextFirstDay 44 = .ok (.iload 4, 2) := by decide +kernel
theorem dX0_nextFirstDay_46 : decode cX0_nextFirstDay 46 = .ok (.aload_n 0, 1) := by decide +kernel
theorem dX0_nextFirstDay_47 : decode cX0_nextFirstDay 47 = .ok (.getfield 15, 3) := by decide +kernel
theorem dX0_nextFirstDay_50 : decode cX0_nextFirstDay 50 = .ok (.iload 5, 2) := by decide +kernel
theorem dX0_nextFirstDay_52 : decode cX0_nextFirstDay 52 = .ok (.iaload, 1) := by decide +kernel
theorem dX0_nextFirstDay_53 : decode cX0_nextFirstDay 53 = .ok (.invokestatic 53, 3) := by decide +kernel
theorem dX0_nextFirstDay_56 : decode cX0_nextFirstDay 56 = .ok (.istore 4, 2) := by decide +kernel
theorem dX0_nextFirstDay_58 : decode cX0_nextFirstDay 58 = .ok (.iinc 5 1, 3) := by decide +kernel
theorem dX0_nextFirstDay_61 : decode cX0_nextFirstDay 61 = .ok (.goto (-55), 3) := by decide +kernel
theorem dX0_nextFirstDay_64 : decode cX0_nextFirstDay 64 = .ok (.iload 4, 2) := by decide +kernel
theorem dX0_nextFirstDay_66 : decode cX0_nextFirstDay 66 = .ok (.ireturn, 1) := by decide +kernel
theorem dX0_latestDay_0 : decode cX0_latestDay 0 = .ok (.iconst (-1), 1) := by decide +kernel
theorem dX0_latestDay_1 : decode cX0_latestDay 1 = .ok (.istore_n 2, 1) := by decide +kernel
theorem dX0_latestDay_2 : decode cX0_latestDay 2 = .ok (.iconst 0, 1) := by decide +kernel
theorem dX0_latestDay_3 : decode cX0_latestDay 3 = .ok (.istore_n 3, 1) := by decide +kernel
theorem dX0_latestDay_4 : decode cX0_latestDay 4 = .ok (.iload_n 3, 1) := by decide +kernel
theorem dX0_latestDay_5 : decode cX0_latestDay 5 = .ok (.aload_n 0, 1) := by decide +kernel
theorem dX0_latestDay_6 : decode cX0_latestDay 6 = .ok (.getfield 33, 3) := by decide +kernel
theorem dX0_latestDay_9 : decode cX0_latestDay 9 = .ok (.if_icmp .ge 36, 3) := by decide +kernel
theorem dX0_latestDay_12 : decode cX0_latestDay 12 = .ok (.iload_n 3, 1) := by decide +kernel
theorem dX0_latestDay_13 : decode cX0_latestDay 13 = .ok (.bipush 82, 2) := by decide +kernel
theorem dX0_latestDay_15 : decode cX0_latestDay 15 = .ok (.if_icmp .ge 30, 3) := by decide +kernel
theorem dX0_latestDay_18 : decode cX0_latestDay 18 = .ok (.aload_n 0, 1) := by decide +kernel
theorem dX0_latestDay_19 : decode cX0_latestDay 19 = .ok (.getfield 11, 3) := by decide +kernel
theorem dX0_latestDay_22 : decode cX0_latestDay 22 = .ok (.iload_n 3, 1) := by decide +kernel
theorem dX0_latestDay_23 : decode cX0_latestDay 23 = .ok (.iaload, 1) := by decide +kernel
theorem dX0_latestDay_24 : decode cX0_latestDay 24 = .ok (.iload_n 1, 1) := by decide +kernel
theorem dX0_latestDay_25 : decode cX0_latestDay 25 = .ok (.if_icmp .ne 14, 3) := by decide +kernel
theorem dX0_latestDay_28 : decode cX0_latestDay 28 = .ok (.iload_n 2, 1) := by decide +kernel
theorem dX0_latestDay_29 : decode cX0_latestDay 29 = .ok (.aload_n 0, 1) := by decide +kernel
theorem dX0_latestDay_30 : decode cX0_latestDay 30 = .ok (.getfield 18, 3) := by decide +kernel
theorem dX0_latestDay_33 : decode cX0_latestDay 33 = .ok (.iload_n 3, 1) := by decide +kernel
theorem dX0_latestDay_34 : decode cX0_latestDay 34 = .ok (.iaload, 1) := by decide +kernel
theorem dX0_latestDay_35 : decode cX0_latestDay 35 = .ok (.invokestatic 45, 3) := by decide +kernel
theorem dX0_latestDay_38 : decode cX0_latestDay 38 = .ok (.istore_n 2, 1) := by decide +kernel
theorem dX0_latestDay_39 : decode cX0_latestDay 39 = .ok (.iinc 3 1, 3) := by decide +kernel
theorem dX0_latestDay_42 : decode cX0_latestDay 42 = .ok (.goto (-38), 3) := by decide +kernel
theorem dX0_latestDay_45 : decode cX0_latestDay 45 = .ok (.iload_n 2, 1) := by decide +kernel
theorem dX0_latestDay_46 : decode cX0_latestDay 46 = .ok (.ireturn, 1) := by decide +kernel
theorem dX0_greatSince_0 : decode cX0_greatSince 0 = .ok (.iconst 0, 1) := by decide +kernel
theorem dX0_greatSince_1 : decode cX0_greatSince 1 = .ok (.istore_n 3, 1) := by decide +kernel
theorem dX0_greatSince_2 : decode cX0_greatSince 2 = .ok (.iconst 0, 1) := by decide +kernel
theorem dX0_greatSince_3 : decode cX0_greatSince 3 = .ok (.istore 4, 2) := by decide +kernel
theorem dX0_greatSince_5 : decode cX0_greatSince 5 = .ok (.iload 4, 2) := by decide +kernel
theorem dX0_greatSince_7 : decode cX0_greatSince 7 = .ok (.aload_n 0, 1) := by decide +kernel
theorem dX0_greatSince_8 : decode cX0_greatSince 8 = .ok (.getfield 33, 3) := by decide +kernel
theorem dX0_greatSince_11 : decode cX0_greatSince 11 = .ok (.if_icmp .ge 52, 3) := by decide +kernel
theorem dX0_greatSince_14 : decode cX0_greatSince 14 = .ok (.iload 4, 2) := by decide +kernel
theorem dX0_greatSince_16 : decode cX0_greatSince 16 = .ok (.bipush 82, 2) := by decide +kernel
theorem dX0_greatSince_18 : decode cX0_greatSince 18 = .ok (.if_icmp .ge 45, 3) := by decide +kernel
theorem dX0_greatSince_21 : decode cX0_greatSince 21 = .ok (.aload_n 0, 1) := by decide +kernel
theorem dX0_greatSince_22 : decode cX0_greatSince 22 = .ok (.getfield 11, 3) := by decide +kernel
theorem dX0_greatSince_25 : decode cX0_greatSince 25 = .ok (.iload 4, 2) := by decide +kernel
theorem dX0_greatSince_27 : decode cX0_greatSince 27 = .ok (.iaload, 1) := by decide +kernel
theorem dX0_greatSince_28 : decode cX0_greatSince 28 = .ok (.iload_n 1, 1) := by decide +kernel
theorem dX0_greatSince_29 : decode cX0_greatSince 29 = .ok (.if_icmp .ne 28, 3) := by decide +kernel
theorem dX0_greatSince_32 : decode cX0_greatSince 32 = .ok (.aload_n 0, 1) := by decide +kernel
theorem dX0_greatSince_33 : decode cX0_greatSince 33 = .ok (.getfield 27, 3) := by decide +kernel
theorem dX0_greatSince_36 : decode cX0_greatSince 36 = .ok (.iload 4, 2) := by decide +kernel
theorem dX0_greatSince_38 : decode cX0_greatSince 38 = .ok (.iaload, 1) := by decide +kernel
theorem dX0_greatSince_39 : decode cX0_greatSince 39 = .ok (.iconst 1, 1) := by decide +kernel
theorem dX0_greatSince_40 : decode cX0_greatSince 40 = .ok (.if_icmp .ne 17, 3) := by decide +kernel
theorem dX0_greatSince_43 : decode cX0_greatSince 43 = .ok (.aload_n 0, 1) := by decide +kernel
theorem dX0_greatSince_44 : decode cX0_greatSince 44 = .ok (.getfield 24, 3) := by decide +kernel
theorem dX0_greatSince_47 : decode cX0_greatSince 47 = .ok (.iload 4, 2) := by decide +kernel
theorem dX0_greatSince_49 : decode cX0_greatSince 49 = .ok (.iaload, 1) := by decide +kernel
theorem dX0_greatSince_50 : decode cX0_greatSince 50 = .ok (.iload_n 2, 1) := by decide +kernel
theorem dX0_greatSince_51 : decode cX0_greatSince 51 = .ok (.if_icmp .lt 6, 3) := by decide +kernel
theorem dX0_greatSince_54 : decode cX0_greatSince 54 = .ok (.iinc 3 1, 3) := by decide +kernel
theorem dX0_greatSince_57 : decode cX0_greatSince 57 = .ok (.iinc 4 1, 3) := by decide +kernel
theorem dX0_greatSince_60 : decode cX0_greatSince 60 = .ok (.goto (-55), 3) := by decide +kernel
theorem dX0_greatSince_63 : decode cX0_greatSince 63 = .ok (.iload_n 3, 1) := by decide +kernel
theorem dX0_greatSince_64 : decode cX0_greatSince 64 = .ok (.ireturn, 1) := by decide +kernel
theorem dX0_toShorten_0 : decode cX0_toShorten 0 = .ok (.iconst (-1), 1) := by decide +kernel
theorem dX0_toShorten_1 : decode cX0_toShorten 1 = .ok (.istore_n 3, 1) := by decide +kernel
theorem dX0_toShorten_2 : decode cX0_toShorten 2 = .ok (.iload_n 2, 1) := by decide +kernel
theorem dX0_toShorten_3 : decode cX0_toShorten 3 = .ok (.istore 4, 2) := by decide +kernel
theorem dX0_toShorten_5 : decode cX0_toShorten 5 = .ok (.iconst 0, 1) := by decide +kernel
theorem dX0_toShorten_6 : decode cX0_toShorten 6 = .ok (.istore 5, 2) := by decide +kernel
theorem dX0_toShorten_8 : decode cX0_toShorten 8 = .ok (.iload 5, 2) := by decide +kernel
theorem dX0_toShorten_10 : decode cX0_toShorten 10 = .ok (.aload_n 0, 1) := by decide +kernel
theorem dX0_toShorten_11 : decode cX0_toShorten 11 = .ok (.getfield 33, 3) := by decide +kernel
theorem dX0_toShorten_14 : decode cX0_toShorten 14 = .ok (.if_icmp .ge 61, 3) := by decide +kernel
theorem dX0_toShorten_17 : decode cX0_toShorten 17 = .ok (.iload 5, 2) := by decide +kernel
theorem dX0_toShorten_19 : decode cX0_toShorten 19 = .ok (.bipush 82, 2) := by decide +kernel
theorem dX0_toShorten_21 : decode cX0_toShorten 21 = .ok (.if_icmp .ge 54, 3) := by decide +kernel
theorem dX0_toShorten_24 : decode cX0_toShorten 24 = .ok (.aload_n 0, 1) := by decide +kernel
theorem dX0_toShorten_25 : decode cX0_toShorten 25 = .ok (.iload 5, 2) := by decide +kernel
theorem dX0_toShorten_27 : decode cX0_toShorten 27 = .ok (.iload_n 1, 1) := by decide +kernel
theorem dX0_toShorten_28 : decode cX0_toShorten 28 = .ok (.iload_n 2, 1) := by decide +kernel
theorem dX0_toShorten_29 : decode cX0_toShorten 29 = .ok (.invokevirtual 37, 3) := by decide +kernel
theorem dX0_toShorten_32 : decode cX0_toShorten 32 = .ok (.ifCond .eq 37, 3) := by decide +kernel
theorem dX0_toShorten_35 : decode cX0_toShorten 35 = .ok (.aload_n 0, 1) := by decide +kernel
theorem dX0_toShorten_36 : decode cX0_toShorten 36 = .ok (.getfield 30, 3) := by decide +kernel
theorem dX0_toShorten_39 : decode cX0_toShorten 39 = .ok (.iload 5, 2) := by decide +kernel
theorem dX0_toShorten_41 : decode cX0_toShorten 41 = .ok (.iaload, 1) := by decide +kernel
theorem dX0_toShorten_42 : decode cX0_toShorten 42 = .ok (.ifCond .ne 27, 3) := by decide +kernel
theorem dX0_toShorten_45 : decode cX0_toShorten 45 = .ok (.aload_n 0, 1) := by decide +kernel
theorem dX0_toShorten_46 : decode cX0_toShorten 46 = .ok (.getfield 18, 3) := by decide +kernel
theorem dX0_toShorten_49 : decode cX0_toShorten 49 = .ok (.iload 5, 2) := by decide +kernel
theorem dX0_toShorten_51 : decode cX0_toShorten 51 = .ok (.iaload, 1) := by decide +kernel
theorem dX0_toShorten_52 : decode cX0_toShorten 52 = .ok (.iload 4, 2) := by decide +kernel
theorem dX0_toShorten_54 : decode cX0_toShorten 54 = .ok (.if_icmp .lt 15, 3) := by decide +kernel
theorem dX0_toShorten_57 : decode cX0_toShorten 57 = .ok (.iload 5, 2) := by decide +kernel
theorem dX0_toShorten_59 : decode cX0_toShorten 59 = .ok (.istore_n 3, 1) := by decide +kernel
theorem dX0_toShorten_60 : decode cX0_toShorten 60 = .ok (.aload_n 0, 1) := by decide +kernel
theorem dX0_toShorten_61 : decode cX0_toShorten 61 = .ok (.getfield 18, 3) := by decide +kernel
theorem dX0_toShorten_64 : decode cX0_toShorten 64 = .ok (.iload 5, 2) := by decide +kernel
theorem dX0_toShorten_66 : decode cX0_toShorten 66 = .ok (.iaload, 1) := by decide +kernel
theorem dX0_toShorten_67 : decode cX0_toShorten 67 = .ok (.istore 4, 2) := by decide +kernel
theorem dX0_toShorten_69 : decode cX0_toShorten 69 = .ok (.iinc 5 1, 3) := by decide +kernel
theorem dX0_toShorten_72 : decode cX0_toShorten 72 = .ok (.goto (-64), 3) := by decide +kernel
theorem dX0_toShorten_75 : decode cX0_toShorten 75 = .ok (.iload_n 3, 1) := by decide +kernel
theorem dX0_toShorten_76 : decode cX0_toShorten 76 = .ok (.ireturn, 1) := by decide +kernel
theorem dX0_shorten_0 : decode cX0_shorten 0 = .ok (.iload_n 1, 1) := by decide +kernel
theorem dX0_shorten_1 : decode cX0_shorten 1 = .ok (.ifCond .lt 52, 3) := by decide +kernel
theorem dX0_shorten_4 : decode cX0_shorten 4 = .ok (.iload_n 1, 1) := by decide +kernel
theorem dX0_shorten_5 : decode cX0_shorten 5 = .ok (.bipush 82, 2) := by decide +kernel
theorem dX0_shorten_7 : decode cX0_shorten 7 = .ok (.if_icmp .ge 46, 3) := by decide +kernel
theorem dX0_shorten_10 : decode cX0_shorten 10 = .ok (.aload_n 0, 1) := by decide +kernel
theorem dX0_shorten_11 : decode cX0_shorten 11 = .ok (.getfield 18, 3) := by decide +kernel
theorem dX0_shorten_14 : decode cX0_shorten 14 = .ok (.iload_n 1, 1) := by decide +kernel
theorem dX0_shorten_15 : decode cX0_shorten 15 = .ok (.iaload, 1) := by decide +kernel
theorem dX0_shorten_16 : decode cX0_shorten 16 = .ok (.aload_n 0, 1) := by decide +kernel
theorem dX0_shorten_17 : decode cX0_shorten 17 = .ok (.getfield 15, 3) := by decide +kernel
theorem dX0_shorten_20 : decode cX0_shorten 20 = .ok (.iload_n 1, 1) := by decide +kernel
theorem dX0_shorten_21 : decode cX0_shorten 21 = .ok (.iaload, 1) := by decide +kernel
theorem dX0_shorten_22 : decode cX0_shorten 22 = .ok (.isub, 1) := by decide +kernel
theorem dX0_shorten_23 : decode cX0_shorten 23 = .ok (.iconst 1, 1) := by decide +kernel
theorem dX0_shorten_24 : decode cX0_shorten 24 = .ok (.iadd, 1) := by decide +kernel
theorem dX0_shorten_25 : decode cX0_shorten 25 = .ok (.istore_n 3, 1) := by decide +kernel
theorem dX0_shorten_26 : decode cX0_shorten 26 = .ok (.aload_n 0, 1) := by decide +kernel
theorem dX0_shorten_27 : decode cX0_shorten 27 = .ok (.getfield 18, 3) := by decide +kernel
theorem dX0_shorten_30 : decode cX0_shorten 30 = .ok (.iload_n 1, 1) := by decide +kernel
theorem dX0_shorten_31 : decode cX0_shorten 31 = .ok (.aload_n 0, 1) := by decide +kernel
theorem dX0_shorten_32 : decode cX0_shorten 32 = .ok (.getfield 18, 3) := by decide +kernel
theorem dX0_shorten_35 : decode cX0_shorten 35 = .ok (.iload_n 1, 1) := by decide +kernel
theorem dX0_shorten_36 : decode cX0_shorten 36 = .ok (.iaload, 1) := by decide +kernel
theorem dX0_shorten_37 : decode cX0_shorten 37 = .ok (.iload_n 3, 1) := by decide +kernel
theorem dX0_shorten_38 : decode cX0_shorten 38 = .ok (.iconst 4, 1) := by decide +kernel
theorem dX0_shorten_39 : decode cX0_shorten 39 = .ok (.idiv, 1) := by decide +kernel
theorem dX0_shorten_40 : decode cX0_shorten 40 = .ok (.isub, 1) := by decide +kernel
theorem dX0_shorten_41 : decode cX0_shorten 41 = .ok (.iload_n 2, 1) := by decide +kernel
theorem dX0_shorten_42 : decode cX0_shorten 42 = .ok (.invokestatic 45, 3) := by decide +kernel
theorem dX0_shorten_45 : decode cX0_shorten 45 = .ok (.iastore, 1) := by decide +kernel
theorem dX0_shorten_46 : decode cX0_shorten 46 = .ok (.aload_n 0, 1) := by decide +kernel
theorem dX0_shorten_47 : decode cX0_shorten 47 = .ok (.getfield 30, 3) := by decide +kernel
theorem dX0_shorten_50 : decode cX0_shorten 50 = .ok (.iload_n 1, 1) := by decide +kernel
theorem dX0_shorten_51 : decode cX0_shorten 51 = .ok (.iconst 1, 1) := by decide +kernel
theorem dX0_shorten_52 : decode cX0_shorten 52 = .ok (.iastore, 1) := by decide +kernel
theorem dX0_shorten_53 : decode cX0_shorten 53 = .ok (.return_, 1) := by decide +kernel
theorem dX0_givenTo_0 : decode cX0_givenTo 0 = .ok (.iconst 0, 1) := by decide +kernel
theorem dX0_givenTo_1 : decode cX0_givenTo 1 = .ok (.istore_n 2, 1) := by decide +kernel
theorem dX0_givenTo_2 : decode cX0_givenTo 2 = .ok (.iconst 0, 1) := by decide +kernel
theorem dX0_givenTo_3 : decode cX0_givenTo 3 = .ok (.istore_n 3, 1) := by decide +kernel
theorem dX0_givenTo_4 : decode cX0_givenTo 4 = .ok (.iload_n 3, 1) := by decide +kernel
theorem dX0_givenTo_5 : decode cX0_givenTo 5 = .ok (.aload_n 0, 1) := by decide +kernel
theorem dX0_givenTo_6 : decode cX0_givenTo 6 = .ok (.getfield 33, 3) := by decide +kernel
theorem dX0_givenTo_9 : decode cX0_givenTo 9 = .ok (.if_icmp .ge 28, 3) := by decide +kernel
theorem dX0_givenTo_12 : decode cX0_givenTo 12 = .ok (.iload_n 3, 1) := by decide +kernel
theorem dX0_givenTo_13 : decode cX0_givenTo 13 = .ok (.bipush 82, 2) := by decide +kernel
theorem dX0_givenTo_15 : decode cX0_givenTo 15 = .ok (.if_icmp .ge 22, 3) := by decide +kernel
theorem dX0_givenTo_18 : decode cX0_givenTo 18 = .ok (.aload_n 0, 1) := by decide +kernel
theorem dX0_givenTo_19 : decode cX0_givenTo 19 = .ok (.getfield 11, 3) := by decide +kernel
theorem dX0_givenTo_22 : decode cX0_givenTo 22 = .ok (.iload_n 3, 1) := by decide +kernel
theorem dX0_givenTo_23 : decode cX0_givenTo 23 = .ok (.iaload, 1) := by decide +kernel
theorem dX0_givenTo_24 : decode cX0_givenTo 24 = .ok (.iload_n 1, 1) := by decide +kernel
theorem dX0_givenTo_25 : decode cX0_givenTo 25 = .ok (.if_icmp .ne 6, 3) := by decide +kernel
theorem dX0_givenTo_28 : decode cX0_givenTo 28 = .ok (.iinc 2 1, 3) := by decide +kernel
theorem dX0_givenTo_31 : decode cX0_givenTo 31 = .ok (.iinc 3 1, 3) := by decide +kernel
theorem dX0_givenTo_34 : decode cX0_givenTo 34 = .ok (.goto (-30), 3) := by decide +kernel
theorem dX0_givenTo_37 : decode cX0_givenTo 37 = .ok (.iload_n 2, 1) := by decide +kernel
theorem dX0_givenTo_38 : decode cX0_givenTo 38 = .ok (.ireturn, 1) := by decide +kernel
theorem dX0_placeOf_0 : decode cX0_placeOf 0 = .ok (.iconst 0, 1) := by decide +kernel
theorem dX0_placeOf_1 : decode cX0_placeOf 1 = .ok (.istore_n 3, 1) := by decide +kernel
theorem dX0_placeOf_2 : decode cX0_placeOf 2 = .ok (.iconst 0, 1) := by decide +kernel
theorem dX0_placeOf_3 : decode cX0_placeOf 3 = .ok (.istore 4, 2) := by decide +kernel
theorem dX0_placeOf_5 : decode cX0_placeOf 5 = .ok (.iload 4, 2) := by decide +kernel
theorem dX0_placeOf_7 : decode cX0_placeOf 7 = .ok (.aload_n 0, 1) := by decide +kernel
theorem dX0_placeOf_8 : decode cX0_placeOf 8 = .ok (.getfield 33, 3) := by decide +kernel
theorem dX0_placeOf_11 : decode cX0_placeOf 11 = .ok (.if_icmp .ge 38, 3) := by decide +kernel
theorem dX0_placeOf_14 : decode cX0_placeOf 14 = .ok (.iload 4, 2) := by decide +kernel
theorem dX0_placeOf_16 : decode cX0_placeOf 16 = .ok (.bipush 82, 2) := by decide +kernel
theorem dX0_placeOf_18 : decode cX0_placeOf 18 = .ok (.if_icmp .ge 31, 3) := by decide +kernel
theorem dX0_placeOf_21 : decode cX0_placeOf 21 = .ok (.aload_n 0, 1) := by decide +kernel
theorem dX0_placeOf_22 : decode cX0_placeOf 22 = .ok (.getfield 11, 3) := by decide +kernel
theorem dX0_placeOf_25 : decode cX0_placeOf 25 = .ok (.iload 4, 2) := by decide +kernel
theorem dX0_placeOf_27 : decode cX0_placeOf 27 = .ok (.iaload, 1) := by decide +kernel
theorem dX0_placeOf_28 : decode cX0_placeOf 28 = .ok (.iload_n 1, 1) := by decide +kernel
theorem dX0_placeOf_29 : decode cX0_placeOf 29 = .ok (.if_icmp .ne 14, 3) := by decide +kernel
theorem dX0_placeOf_32 : decode cX0_placeOf 32 = .ok (.iload_n 3, 1) := by decide +kernel
theorem dX0_placeOf_33 : decode cX0_placeOf 33 = .ok (.iload_n 2, 1) := by decide +kernel
theorem dX0_placeOf_34 : decode cX0_placeOf 34 = .ok (.if_icmp .ne 6, 3) := by decide +kernel
theorem dX0_placeOf_37 : decode cX0_placeOf 37 = .ok (.iload 4, 2) := by decide +kernel
theorem dX0_placeOf_39 : decode cX0_placeOf 39 = .ok (.ireturn, 1) := by decide +kernel
theorem dX0_placeOf_40 : decode cX0_placeOf 40 = .ok (.iinc 3 1, 3) := by decide +kernel
theorem dX0_placeOf_43 : decode cX0_placeOf 43 = .ok (.iinc 4 1, 3) := by decide +kernel
theorem dX0_placeOf_46 : decode cX0_placeOf 46 = .ok (.goto (-41), 3) := by decide +kernel
theorem dX0_placeOf_49 : decode cX0_placeOf 49 = .ok (.iconst (-1), 1) := by decide +kernel
theorem dX0_placeOf_50 : decode cX0_placeOf 50 = .ok (.ireturn, 1) := by decide +kernel
theorem dX0_tellOf_0 : decode cX0_tellOf 0 = .ok (.iload_n 1, 1) := by decide +kernel
theorem dX0_tellOf_1 : decode cX0_tellOf 1 = .ok (.ifCond .lt 9, 3) := by decide +kernel
theorem dX0_tellOf_4 : decode cX0_tellOf 4 = .ok (.iload_n 1, 1) := by decide +kernel
theorem dX0_tellOf_5 : decode cX0_tellOf 5 = .ok (.bipush 82, 2) := by decide +kernel
theorem dX0_tellOf_7 : decode cX0_tellOf 7 = .ok (.if_icmp .lt 6, 3) := by decide +kernel
theorem dX0_tellOf_10 : decode cX0_tellOf 10 = .ok (.bipush (-4), 2) := by decide +kernel
theorem dX0_tellOf_12 : decode cX0_tellOf 12 = .ok (.ireturn, 1) := by decide +kernel
theorem dX0_tellOf_13 : decode cX0_tellOf 13 = .ok (.iload_n 2, 1) := by decide +kernel
theorem dX0_tellOf_14 : decode cX0_tellOf 14 = .ok (.tableswitch 67 0 3 #[30, 37, 53, 60], 30) := by decide +kernel
theorem dX0_tellOf_44 : decode cX0_tellOf 44 = .ok (.aload_n 0, 1) := by decide +kernel
theorem dX0_tellOf_45 : decode cX0_tellOf 45 = .ok (.getfield 15, 3) := by decide +kernel
theorem dX0_tellOf_48 : decode cX0_tellOf 48 = .ok (.iload_n 1, 1) := by decide +kernel
theorem dX0_tellOf_49 : decode cX0_tellOf 49 = .ok (.iaload, 1) := by decide +kernel
theorem dX0_tellOf_50 : decode cX0_tellOf 50 = .ok (.ireturn, 1) := by decide +kernel
theorem dX0_tellOf_51 : decode cX0_tellOf 51 = .ok (.aload_n 0, 1) := by decide +kernel
theorem dX0_tellOf_52 : decode cX0_tellOf 52 = .ok (.getfield 18, 3) := by decide +kernel
theorem dX0_tellOf_55 : decode cX0_tellOf 55 = .ok (.iload_n 1, 1) := by decide +kernel
theorem dX0_tellOf_56 : decode cX0_tellOf 56 = .ok (.iaload, 1) := by decide +kernel
theorem dX0_tellOf_57 : decode cX0_tellOf 57 = .ok (.aload_n 0, 1) := by decide +kernel
theorem dX0_tellOf_58 : decode cX0_tellOf 58 = .ok (.getfield 15, 3) := by decide +kernel
theorem dX0_tellOf_61 : decode cX0_tellOf 61 = .ok (.iload_n 1, 1) := by decide +kernel
theorem dX0_tellOf_62 : decode cX0_tellOf 62 = .ok (.iaload, 1) := by decide +kernel
theorem dX0_tellOf_63 : decode cX0_tellOf 63 = .ok (.isub, 1) := by decide +kernel
theorem dX0_tellOf_64 : decode cX0_tellOf 64 = .ok (.iconst 1, 1) := by decide +kernel
theorem dX0_tellOf_65 : decode cX0_tellOf 65 = .ok (.iadd, 1) := by decide +kernel
theorem dX0_tellOf_66 : decode cX0_tellOf 66 = .ok (.ireturn, 1) := by decide +kernel
theorem dX0_tellOf_67 : decode cX0_tellOf 67 = .ok (.aload_n 0, 1) := by decide +kernel
theorem dX0_tellOf_68 : decode cX0_tellOf 68 = .ok (.getfield 21, 3) := by decide +kernel
theorem dX0_tellOf_71 : decode cX0_tellOf 71 = .ok (.iload_n 1, 1) := by decide +kernel
theorem dX0_tellOf_72 : decode cX0_tellOf 72 = .ok (.iaload, 1) := by decide +kernel
theorem dX0_tellOf_73 : decode cX0_tellOf 73 = .ok (.ireturn, 1) := by decide +kernel
theorem dX0_tellOf_74 : decode cX0_tellOf 74 = .ok (.aload_n 0, 1) := by decide +kernel
theorem dX0_tellOf_75 : decode cX0_tellOf 75 = .ok (.getfield 27, 3) := by decide +kernel
theorem dX0_tellOf_78 : decode cX0_tellOf 78 = .ok (.iload_n 1, 1) := by decide +kernel
theorem dX0_tellOf_79 : decode cX0_tellOf 79 = .ok (.iaload, 1) := by decide +kernel
theorem dX0_tellOf_80 : decode cX0_tellOf 80 = .ok (.ireturn, 1) := by decide +kernel
theorem dX0_tellOf_81 : decode cX0_tellOf 81 = .ok (.aload_n 0, 1) := by decide +kernel
theorem dX0_tellOf_82 : decode cX0_tellOf 82 = .ok (.getfield 30, 3) := by decide +kernel
theorem dX0_tellOf_85 : decode cX0_tellOf 85 = .ok (.iload_n 1, 1) := by decide +kernel
theorem dX0_tellOf_86 : decode cX0_tellOf 86 = .ok (.iaload, 1) := by decide +kernel
theorem dX0_tellOf_87 : decode cX0_tellOf 87 = .ok (.ireturn, 1) := by decide +kernel
theorem dX1_note_0 : decode cX1_note 0 = .ok (.aload_n 0, 1) := by decide +kernel
theorem dX1_note_1 : decode cX1_note 1 = .ok (.getfield 21, 3) := by decide +kernel
theorem dX1_note_4 : decode cX1_note 4 = .ok (.bipush 6, 2) := by decide +kernel
theorem dX1_note_6 : decode cX1_note 6 = .ok (.if_icmp .lt 7, 3) := by decide +kernel
theorem dX1_note_9 : decode cX1_note 9 = .ok (.aload_n 0, 1) := by decide +kernel
theorem dX1_note_10 : decode cX1_note 10 = .ok (.invokevirtual 25, 3) := by decide +kernel
theorem dX1_note_13 : decode cX1_note 13 = .ok (.aload_n 0, 1) := by decide +kernel
theorem dX1_note_14 : decode cX1_note 14 = .ok (.getfield 21, 3) := by decide +kernel
theorem dX1_note_17 : decode cX1_note 17 = .ok (.ifCond .lt 52, 3) := by decide +kernel
theorem dX1_note_20 : decode cX1_note 20 = .ok (.aload_n 0, 1) := by decide +kernel
theorem dX1_note_21 : decode cX1_note 21 = .ok (.getfield 21, 3) := by decide +kernel
theorem dX1_note_24 : decode cX1_note 24 = .ok (.bipush 6, 2) := by decide +kernel
theorem dX1_note_26 : decode cX1_note 26 = .ok (.if_icmp .ge 43, 3) := by decide +kernel
theorem dX1_note_29 : decode cX1_note 29 = .ok (.aload_n 0, 1) := by decide +kernel
theorem dX1_note_30 : decode cX1_note 30 = .ok (.getfield 9, 3) := by decide +kernel
theorem dX1_note_33 : decode cX1_note 33 = .ok (.aload_n 0, 1) := by decide +kernel
theorem dX1_note_34 : decode cX1_note 34 = .ok (.getfield 21, 3) := by decide +kernel
theorem dX1_note_37 : decode cX1_note 37 = .ok (.iload_n 1, 1) := by decide +kernel
theorem dX1_note_38 : decode cX1_note 38 = .ok (.iastore, 1) := by decide +kernel
theorem dX1_note_39 : decode cX1_note 39 = .ok (.aload_n 0, 1) := by decide +kernel
theorem dX1_note_40 : decode cX1_note 40 = .ok (.getfield 15, 3) := by decide +kernel
theorem dX1_note_43 : decode cX1_note 43 = .ok (.aload_n 0, 1) := by decide +kernel
theorem dX1_note_44 : decode cX1_note 44 = .ok (.getfield 21, 3) := by decide +kernel
theorem dX1_note_47 : decode cX1_note 47 = .ok (.iload_n 2, 1) := by decide +kernel
theorem dX1_note_48 : decode cX1_note 48 = .ok (.iastore, 1) := by decide +kernel
theorem dX1_note_49 : decode cX1_note 49 = .ok (.aload_n 0, 1) := by decide +kernel
theorem dX1_note_50 : decode cX1_note 50 = .ok (.getfield 18, 3) := by decide +kernel
theorem dX1_note_53 : decode cX1_note 53 = .ok (.aload_n 0, 1) := by decide +kernel
theorem dX1_note_54 : decode cX1_note 54 = .ok (.getfield 21, 3) := by decide +kernel
theorem dX1_note_57 : decode cX1_note 57 = .ok (.iload_n 3, 1) := by decide +kernel
theorem dX1_note_58 : decode cX1_note 58 = .ok (.iastore, 1) := by decide +kernel
theorem dX1_note_59 : decode cX1_note 59 = .ok (.aload_n 0, 1) := by decide +kernel
theorem dX1_note_60 : decode cX1_note 60 = .ok (.dup, 1) := by decide +kernel
theorem dX1_note_61 : decode cX1_note 61 = .ok (.getfield 21, 3) := by decide +kernel
theorem dX1_note_64 : decode cX1_note 64 = .ok (.iconst 1, 1) := by decide +kernel
theorem dX1_note_65 : decode cX1_note 65 = .ok (.iadd, 1) := by decide +kernel
theorem dX1_note_66 : decode cX1_note 66 = .ok (.putfield 21, 3) := by decide +kernel
theorem dX1_note_69 : decode cX1_note 69 = .ok (.return_, 1) := by decide +kernel
theorem dX1_forgetOldest_0 : decode cX1_forgetOldest 0 = .ok (.iconst 1, 1) := by decide +kernel
theorem dX1_forgetOldest_1 : decode cX1_forgetOldest 1 = .ok (.istore_n 1, 1) := by decide +kernel
theorem dX1_forgetOldest_2 : decode cX1_forgetOldest 2 = .ok (.iload_n 1, 1) := by decide +kernel
theorem dX1_forgetOldest_3 : decode cX1_forgetOldest 3 = .ok (.bipush 6, 2) := by decide +kernel
theorem dX1_forgetOldest_5 : decode cX1_forgetOldest 5 = .ok (.if_icmp .ge 51, 3) := by decide +kernel
theorem dX1_forgetOldest_8 : decode cX1_forgetOldest 8 = .ok (.aload_n 0, 1) := by decide +kernel
theorem dX1_forgetOldest_9 : decode cX1_forgetOldest 9 = .ok (.getfield 9, 3) := by decide +kernel
theorem dX1_forgetOldest_12 : decode cX1_forgetOldest 12 = .ok (.iload_n 1, 1) := by decide +kernel
theorem dX1_forgetOldest_13 : decode cX1_forgetOldest 13 = .ok (.iconst 1, 1) := by decide +kernel
theorem dX1_forgetOldest_14 : decode cX1_forgetOldest 14 = .ok (.isub, 1) := by decide +kernel
theorem dX1_forgetOldest_15 : decode cX1_forgetOldest 15 = .ok (.aload_n 0, 1) := by decide +kernel
theorem dX1_forgetOldest_16 : decode cX1_forgetOldest 16 = .ok (.getfield 9, 3) := by decide +kernel
theorem dX1_forgetOldest_19 : decode cX1_forgetOldest 19 = .ok (.iload_n 1, 1) := by decide +kernel
theorem dX1_forgetOldest_20 : decode cX1_forgetOldest 20 = .ok (.iaload, 1) := by decide +kernel
theorem dX1_forgetOldest_21 : decode cX1_forgetOldest 21 = .ok (.iastore, 1) := by decide +kernel
theorem dX1_forgetOldest_22 : decode cX1_forgetOldest 22 = .ok (.aload_n 0, 1) := by decide +kernel
theorem dX1_forgetOldest_23 : decode cX1_forgetOldest 23 = .ok (.getfield 15, 3) := by decide +kernel
theorem dX1_forgetOldest_26 : decode cX1_forgetOldest 26 = .ok (.iload_n 1, 1) := by decide +kernel
theorem dX1_forgetOldest_27 : decode cX1_forgetOldest 27 = .ok (.iconst 1, 1) := by decide +kernel
theorem dX1_forgetOldest_28 : decode cX1_forgetOldest 28 = .ok (.isub, 1) := by decide +kernel
theorem dX1_forgetOldest_29 : decode cX1_forgetOldest 29 = .ok (.aload_n 0, 1) := by decide +kernel
theorem dX1_forgetOldest_30 : decode cX1_forgetOldest 30 = .ok (.getfield 15, 3) := by decide +kernel
theorem dX1_forgetOldest_33 : decode cX1_forgetOldest 33 = .ok (.iload_n 1, 1) := by decide +kernel
theorem dX1_forgetOldest_34 : decode cX1_forgetOldest 34 = .ok (.iaload, 1) := by decide +kernel
theorem dX1_forgetOldest_35 : decode cX1_forgetOldest 35 = .ok (.iastore, 1) := by decide +kernel
theorem dX1_forgetOldest_36 : decode cX1_forgetOldest 36 = .ok (.aload_n 0, 1) := by decide +kernel
theorem dX1_forgetOldest_37 : decode cX1_forgetOldest 37 = .ok (.getfield 18, 3) := by decide +kernel
theorem dX1_forgetOldest_40 : decode cX1_forgetOldest 40 = .ok (.iload_n 1, 1) := by decide +kernel
theorem dX1_forgetOldest_41 : decode cX1_forgetOldest 41 = .ok (.iconst 1, 1) := by decide +kernel
theorem dX1_forgetOldest_42 : decode cX1_forgetOldest 42 = .ok (.isub, 1) := by decide +kernel
theorem dX1_forgetOldest_43 : decode cX1_forgetOldest 43 = .ok (.aload_n 0, 1) := by decide +kernel
theorem dX1_forgetOldest_44 : decode cX1_forgetOldest 44 = .ok (.getfield 18, 3) := by decide +kernel
theorem dX1_forgetOldest_47 : decode cX1_forgetOldest 47 = .ok (.iload_n 1, 1) := by decide +kernel
theorem dX1_forgetOldest_48 : decode cX1_forgetOldest 48 = .ok (.iaload, 1) := by decide +kernel
theorem dX1_forgetOldest_49 : decode cX1_forgetOldest 49 = .ok (.iastore, 1) := by decide +kernel
theorem dX1_forgetOldest_50 : decode cX1_forgetOldest 50 = .ok (.iinc 1 1, 3) := by decide +kernel
theorem dX1_forgetOldest_53 : decode cX1_forgetOldest 53 = .ok (.goto (-51), 3) := by decide +kernel
theorem dX1_forgetOldest_56 : decode cX1_forgetOldest 56 = .ok (.aload_n 0, 1) := by decide +kernel
theorem dX1_forgetOldest_57 : decode cX1_forgetOldest 57 = .ok (.iconst 5, 1) := by decide +kernel
theorem dX1_forgetOldest_58 : decode cX1_forgetOldest 58 = .ok (.putfield 21, 3) := by decide +kernel
theorem dX1_forgetOldest_61 : decode cX1_forgetOldest 61 = .ok (.return_, 1) := by decide +kernel
theorem dX1_dropLast_0 : decode cX1_dropLast 0 = .ok (.aload_n 0, 1) := by decide +kernel
theorem dX1_dropLast_1 : decode cX1_dropLast 1 = .ok (.getfield 21, 3) := by decide +kernel
theorem dX1_dropLast_4 : decode cX1_dropLast 4 = .ok (.iconst 1, 1) := by decide +kernel
theorem dX1_dropLast_5 : decode cX1_dropLast 5 = .ok (.if_icmp .lt 12, 3) := by decide +kernel
theorem dX1_dropLast_8 : decode cX1_dropLast 8 = .ok (.aload_n 0, 1) := by decide +kernel
theorem dX1_dropLast_9 : decode cX1_dropLast 9 = .ok (.getfield 21, 3) := by decide +kernel
theorem dX1_dropLast_12 : decode cX1_dropLast 12 = .ok (.bipush 6, 2) := by decide +kernel
theorem dX1_dropLast_14 : decode cX1_dropLast 14 = .ok (.if_icmp .le 5, 3) := by decide +kernel
theorem dX1_dropLast_17 : decode cX1_dropLast 17 = .ok (.iconst 0, 1) := by decide +kernel
theorem dX1_dropLast_18 : decode cX1_dropLast 18 = .ok (.ireturn, 1) := by decide +kernel
theorem dX1_dropLast_19 : decode cX1_dropLast 19 = .ok (.aload_n 0, 1) := by decide +kernel
theorem dX1_dropLast_20 : decode cX1_dropLast 20 = .ok (.dup, 1) := by decide +kernel
theorem dX1_dropLast_21 : decode cX1_dropLast 21 = .ok (.getfield 21, 3) := by decide +kernel
theorem dX1_dropLast_24 : decode cX1_dropLast 24 = .ok (.iconst 1, 1) := by decide +kernel
theorem dX1_dropLast_25 : decode cX1_dropLast 25 = .ok (.isub, 1) := by decide +kernel
theorem dX1_dropLast_26 : decode cX1_dropLast 26 = .ok (.putfield 21, 3) := by decide +kernel
theorem dX1_dropLast_29 : decode cX1_dropLast 29 = .ok (.aload_n 0, 1) := by decide +kernel
theorem dX1_dropLast_30 : decode cX1_dropLast 30 = .ok (.aload_n 0, 1) := by decide +kernel
theorem dX1_dropLast_31 : decode cX1_dropLast 31 = .ok (.getfield 9, 3) := by decide +kernel
theorem dX1_dropLast_34 : decode cX1_dropLast 34 = .ok (.aload_n 0, 1) := by decide +kernel
theorem dX1_dropLast_35 : decode cX1_dropLast 35 = .ok (.getfield 21, 3) := by decide +kernel
theorem dX1_dropLast_38 : decode cX1_dropLast 38 = .ok (.iaload, 1) := by decide +kernel
theorem dX1_dropLast_39 : decode cX1_dropLast 39 = .ok (.putfield 28, 3) := by decide +kernel
theorem dX1_dropLast_42 : decode cX1_dropLast 42 = .ok (.aload_n 0, 1) := by decide +kernel
theorem dX1_dropLast_43 : decode cX1_dropLast 43 = .ok (.aload_n 0, 1) := by decide +kernel
theorem dX1_dropLast_44 : decode cX1_dropLast 44 = .ok (.getfield 15, 3) := by decide +kernel
theorem dX1_dropLast_47 : decode cX1_dropLast 47 = .ok (.aload_n 0, 1) := by decide +kernel
theorem dX1_dropLast_48 : decode cX1_dropLast 48 = .ok (.getfield 21, 3) := by decide +kernel
theorem dX1_dropLast_51 : decode cX1_dropLast 51 = .ok (.iaload, 1) := by decide +kernel
theorem dX1_dropLast_52 : decode cX1_dropLast 52 = .ok (.putfield 31, 3) := by decide +kernel
theorem dX1_dropLast_55 : decode cX1_dropLast 55 = .ok (.aload_n 0, 1) := by decide +kernel
theorem dX1_dropLast_56 : decode cX1_dropLast 56 = .ok (.aload_n 0, 1) := by decide +kernel
theorem dX1_dropLast_57 : decode cX1_dropLast 57 = .ok (.getfield 18, 3) := by decide +kernel
theorem dX1_dropLast_60 : decode cX1_dropLast 60 = .ok (.aload_n 0, 1) := by decide +kernel
theorem dX1_dropLast_61 : decode cX1_dropLast 61 = .ok (.getfield 21, 3) := by decide +kernel
theorem dX1_dropLast_64 : decode cX1_dropLast 64 = .ok (.iaload, 1) := by decide +kernel
theorem dX1_dropLast_65 : decode cX1_dropLast 65 = .ok (.putfield 34, 3) := by decide +kernel
theorem dX1_dropLast_68 : decode cX1_dropLast 68 = .ok (.iconst 1, 1) := by decide +kernel
theorem dX1_dropLast_69 : decode cX1_dropLast 69 = .ok (.ireturn, 1) := by decide +kernel
theorem dX2_isThere_0 : decode cX2_isThere 0 = .ok (.iload_n 1, 1) := by decide +kernel
theorem dX2_isThere_1 : decode cX2_isThere 1 = .ok (.ifCond .lt 21, 3) := by decide +kernel
theorem dX2_isThere_4 : decode cX2_isThere 4 = .ok (.iload_n 1, 1) := by decide +kernel
theorem dX2_isThere_5 : decode cX2_isThere 5 = .ok (.aload_n 0, 1) := by decide +kernel
theorem dX2_isThere_6 : decode cX2_isThere 6 = .ok (.getfield 48, 3) := by decide +kernel
theorem dX2_isThere_9 : decode cX2_isThere 9 = .ok (.if_icmp .ge 13, 3) := by decide +kernel
theorem dX2_isThere_12 : decode cX2_isThere 12 = .ok (.iload_n 1, 1) := by decide +kernel
theorem dX2_isThere_13 : decode cX2_isThere 13 = .ok (.bipush 41, 2) := by decide +kernel
theorem dX2_isThere_15 : decode cX2_isThere 15 = .ok (.if_icmp .ge 7, 3) := by decide +kernel
theorem dX2_isThere_18 : decode cX2_isThere 18 = .ok (.iconst 1, 1) := by decide +kernel
theorem dX2_isThere_19 : decode cX2_isThere 19 = .ok (.goto 4, 3) := by decide +kernel
theorem dX2_isThere_22 : decode cX2_isThere 22 = .ok (.iconst 0, 1) := by decide +kernel
theorem dX2_isThere_23 : decode cX2_isThere 23 = .ok (.ireturn, 1) := by decide +kernel
theorem dX2_isConviction_0 : decode cX2_isConviction 0 = .ok (.aload_n 0, 1) := by decide +kernel
theorem dX2_isConviction_1 : decode cX2_isConviction 1 = .ok (.iload_n 1, 1) := by decide +kernel
theorem dX2_isConviction_2 : decode cX2_isConviction 2 = .ok (.invokevirtual 52, 3) := by decide +kernel
theorem dX2_isConviction_5 : decode cX2_isConviction 5 = .ok (.ifCond .eq 16, 3) := by decide +kernel
theorem dX2_isConviction_8 : decode cX2_isConviction 8 = .ok (.aload_n 0, 1) := by decide +kernel
theorem dX2_isConviction_9 : decode cX2_isConviction 9 = .ok (.getfield 18, 3) := by decide +kernel
theorem dX2_isConviction_12 : decode cX2_isConviction 12 = .ok (.iload_n 1, 1) := by decide +kernel
theorem dX2_isConviction_13 : decode cX2_isConviction 13 = .ok (.iaload, 1) := by decide +kernel
theorem dX2_isConviction_14 : decode cX2_isConviction 14 = .ok (.ifCond .ne 7, 3) := by decide +kernel
theorem dX2_isConviction_17 : decode cX2_isConviction 17 = .ok (.iconst 1, 1) := by decide +kernel
theorem dX2_isConviction_18 : decode cX2_isConviction 18 = .ok (.goto 4, 3) := by decide +kernel
theorem dX2_isConviction_21 : decode cX2_isConviction 21 = .ok (.iconst 0, 1) := by decide +kernel
theorem dX2_isConviction_22 : decode cX2_isConviction 22 = .ok (.ireturn, 1) := by decide +kernel
theorem dX2_addConviction_0 : decode cX2_addConviction 0 = .ok (.aload_n 0, 1) := by decide +kernel
theorem dX2_addConviction_1 : decode cX2_addConviction 1 = .ok (.getfield 48, 3) := by decide +kernel
theorem dX2_addConviction_4 : decode cX2_addConviction 4 = .ok (.ifCond .lt 12, 3) := by decide +kernel
theorem dX2_addConviction_7 : decode cX2_addConviction 7 = .ok (.aload_n 0, 1) := by decide +kernel
theorem dX2_addConviction_8 : decode cX2_addConviction 8 = .ok (.getfield 48, 3) := by decide +kernel
theorem dX2_addConviction_11 : decode cX2_addConviction 11 = .ok (.bipush 41, 2) := by decide +kernel
theorem dX2_addConviction_13 : decode cX2_addConviction 13 = .ok (.if_icmp .lt 4, 3) := by decide +kernel
theorem dX2_addConviction_16 : decode cX2_addConviction 16 = .ok (.return_, 1) := by decide +kernel
theorem dX2_addConviction_17 : decode cX2_addConviction 17 = .ok (.aload_n 0, 1) := by decide +kernel
theorem dX2_addConviction_18 : decode cX2_addConviction 18 = .ok (.getfield 11, 3) := by decide +kernel
theorem dX2_addConviction_21 : decode cX2_addConviction 21 = .ok (.aload_n 0, 1) := by decide +kernel
theorem dX2_addConviction_22 : decode cX2_addConviction 22 = .ok (.getfield 48, 3) := by decide +kernel
theorem dX2_addConviction_25 : decode cX2_addConviction 25 = .ok (.iload_n 1, 1) := by decide +kernel
theorem dX2_addConviction_26 : decode cX2_addConviction 26 = .ok (.iastore, 1) := by decide +kernel
theorem dX2_addConviction_27 : decode cX2_addConviction 27 = .ok (.aload_n 0, 1) := by decide +kernel
theorem dX2_addConviction_28 : decode cX2_addConviction 28 = .ok (.getfield 15, 3) := by decide +kernel
theorem dX2_addConviction_31 : decode cX2_addConviction 31 = .ok (.aload_n 0, 1) := by decide +kernel
theorem dX2_addConviction_32 : decode cX2_addConviction 32 = .ok (.getfield 48, 3) := by decide +kernel
theorem dX2_addConviction_35 : decode cX2_addConviction 35 = .ok (.iload_n 2, 1) := by decide +kernel
theorem dX2_addConviction_36 : decode cX2_addConviction 36 = .ok (.iastore, 1) := by decide +kernel
theorem dX2_addConviction_37 : decode cX2_addConviction 37 = .ok (.aload_n 0, 1) := by decide +kernel
theorem dX2_addConviction_38 : decode cX2_addConviction 38 = .ok (.getfield 18, 3) := by decide +kernel
theorem dX2_addConviction_41 : decode cX2_addConviction 41 = .ok (.aload_n 0, 1) := by decide +kernel
theorem dX2_addConviction_42 : decode cX2_addConviction 42 = .ok (.getfield 48, 3) := by decide +kernel
theorem dX2_addConviction_45 : decode cX2_addConviction 45 = .ok (.iconst 0, 1) := by decide +kernel
theorem dX2_addConviction_46 : decode cX2_addConviction 46 = .ok (.iastore, 1) := by decide +kernel
theorem dX2_addConviction_47 : decode cX2_addConviction 47 = .ok (.aload_n 0, 1) := by decide +kernel
theorem dX2_addConviction_48 : decode cX2_addConviction 48 = .ok (.getfield 21, 3) := by decide +kernel
theorem dX2_addConviction_51 : decode cX2_addConviction 51 = .ok (.aload_n 0, 1) := by decide +kernel
theorem dX2_addConviction_52 : decode cX2_addConviction 52 = .ok (.getfield 48, 3) := by decide +kernel
theorem dX2_addConviction_55 : decode cX2_addConviction 55 = .ok (.iload_n 3, 1) := by decide +kernel
theorem dX2_addConviction_56 : decode cX2_addConviction 56 = .ok (.iastore, 1) := by decide +kernel
theorem dX2_addConviction_57 : decode cX2_addConviction 57 = .ok (.aload_n 0, 1) := by decide +kernel
theorem dX2_addConviction_58 : decode cX2_addConviction 58 = .ok (.getfield 24, 3) := by decide +kernel
theorem dX2_addConviction_61 : decode cX2_addConviction 61 = .ok (.aload_n 0, 1) := by decide +kernel
theorem dX2_addConviction_62 : decode cX2_addConviction 62 = .ok (.getfield 48, 3) := by decide +kernel
theorem dX2_addConviction_65 : decode cX2_addConviction 65 = .ok (.iload 4, 2) := by decide +kernel
theorem dX2_addConviction_67 : decode cX2_addConviction 67 = .ok (.iastore, 1) := by decide +kernel
theorem dX2_addConviction_68 : decode cX2_addConviction 68 = .ok (.aload_n 0, 1) := by decide +kernel
theorem dX2_addConviction_69 : decode cX2_addConviction 69 = .ok (.getfield 27, 3) := by decide +kernel
theorem dX2_addConviction_72 : decode cX2_addConviction 72 = .ok (.aload_n 0, 1) := by decide +kernel
theorem dX2_addConviction_73 : decode cX2_addConviction 73 = .ok (.getfield 48, 3) := by decide +kernel
theorem dX2_addConviction_76 : decode cX2_addConviction 76 = .ok (.iload 5, 2) := by decide +kernel
theorem dX2_addConviction_78 : decode cX2_addConviction 78 = .ok (.iastore, 1) := by decide +kernel
theorem dX2_addConviction_79 : decode cX2_addConviction 79 = .ok (.aload_n 0, 1) := by decide +kernel
theorem dX2_addConviction_80 : decode cX2_addConviction 80 = .ok (.getfield 30, 3) := by decide +kernel
theorem dX2_addConviction_83 : decode cX2_addConviction 83 = .ok (.aload_n 0, 1) := by decide +kernel
theorem dX2_addConviction_84 : decode cX2_addConviction 84 = .ok (.getfield 48, 3) := by decide +kernel
theorem dX2_addConviction_87 : decode cX2_addConviction 87 = .ok (.iload 6, 2) := by decide +kernel
theorem dX2_addConviction_89 : decode cX2_addConviction 89 = .ok (.iastore, 1) := by decide +kernel
theorem dX2_addConviction_90 : decode cX2_addConviction 90 = .ok (.aload_n 0, 1) := by decide +kernel
theorem dX2_addConviction_91 : decode cX2_addConviction 91 = .ok (.getfield 33, 3) := by decide +kernel
theorem dX2_addConviction_94 : decode cX2_addConviction 94 = .ok (.aload_n 0, 1) := by decide +kernel
theorem dX2_addConviction_95 : decode cX2_addConviction 95 = .ok (.getfield 48, 3) := by decide +kernel
theorem dX2_addConviction_98 : decode cX2_addConviction 98 = .ok (.iconst 0, 1) := by decide +kernel
theorem dX2_addConviction_99 : decode cX2_addConviction 99 = .ok (.iastore, 1) := by decide +kernel
theorem dX2_addConviction_100 : decode cX2_addConviction 100 = .ok (.aload_n 0, 1) := by decide +kernel
theorem dX2_addConviction_101 : decode cX2_addConviction 101 = .ok (.dup, 1) := by decide +kernel
theorem dX2_addConviction_102 : decode cX2_addConviction 102 = .ok (.getfield 48, 3) := by decide +kernel
theorem dX2_addConviction_105 : decode cX2_addConviction 105 = .ok (.iconst 1, 1) := by decide +kernel
theorem dX2_addConviction_106 : decode cX2_addConviction 106 = .ok (.iadd, 1) := by decide +kernel
theorem dX2_addConviction_107 : decode cX2_addConviction 107 = .ok (.putfield 48, 3) := by decide +kernel
theorem dX2_addConviction_110 : decode cX2_addConviction 110 = .ok (.return_, 1) := by decide +kernel
theorem dX2_addCourse_0 : decode cX2_addCourse 0 = .ok (.aload_n 0, 1) := by decide +kernel
theorem dX2_addCourse_1 : decode cX2_addCourse 1 = .ok (.getfield 48, 3) := by decide +kernel
theorem dX2_addCourse_4 : decode cX2_addCourse 4 = .ok (.ifCond .lt 12, 3) := by decide +kernel
theorem dX2_addCourse_7 : decode cX2_addCourse 7 = .ok (.aload_n 0, 1) := by decide +kernel
theorem dX2_addCourse_8 : decode cX2_addCourse 8 = .ok (.getfield 48, 3) := by decide +kernel
theorem dX2_addCourse_11 : decode cX2_addCourse 11 = .ok (.bipush 41, 2) := by decide +kernel
theorem dX2_addCourse_13 : decode cX2_addCourse 13 = .ok (.if_icmp .lt 4, 3) := by decide +kernel
theorem dX2_addCourse_16 : decode cX2_addCourse 16 = .ok (.return_, 1) := by decide +kernel
theorem dX2_addCourse_17 : decode cX2_addCourse 17 = .ok (.aload_n 0, 1) := by decide +kernel
theorem dX2_addCourse_18 : decode cX2_addCourse 18 = .ok (.getfield 11, 3) := by decide +kernel
theorem dX2_addCourse_21 : decode cX2_addCourse 21 = .ok (.aload_n 0, 1) := by decide +kernel
theorem dX2_addCourse_22 : decode cX2_addCourse 22 = .ok (.getfield 48, 3) := by decide +kernel
theorem dX2_addCourse_25 : decode cX2_addCourse 25 = .ok (.iload_n 1, 1) := by decide +kernel
theorem dX2_addCourse_26 : decode cX2_addCourse 26 = .ok (.iastore, 1) := by decide +kernel
theorem dX2_addCourse_27 : decode cX2_addCourse 27 = .ok (.aload_n 0, 1) := by decide +kernel
theorem dX2_addCourse_28 : decode cX2_addCourse 28 = .ok (.getfield 15, 3) := by decide +kernel
theorem dX2_addCourse_31 : decode cX2_addCourse 31 = .ok (.aload_n 0, 1) := by decide +kernel
theorem dX2_addCourse_32 : decode cX2_addCourse 32 = .ok (.getfield 48, 3) := by decide +kernel
theorem dX2_addCourse_35 : decode cX2_addCourse 35 = .ok (.iload_n 2, 1) := by decide +kernel
theorem dX2_addCourse_36 : decode cX2_addCourse 36 = .ok (.iastore, 1) := by decide +kernel
theorem dX2_addCourse_37 : decode cX2_addCourse 37 = .ok (.aload_n 0, 1) := by decide +kernel
theorem dX2_addCourse_38 : decode cX2_addCourse 38 = .ok (.getfield 18, 3) := by decide +kernel
theorem dX2_addCourse_41 : decode cX2_addCourse 41 = .ok (.aload_n 0, 1) := by decide +kernel
theorem dX2_addCourse_42 : decode cX2_addCourse 42 = .ok (.getfield 48, 3) := by decide +kernel
theorem dX2_addCourse_45 : decode cX2_addCourse 45 = .ok (.iload_n 3, 1) := by decide +kernel
theorem dX2_addCourse_46 : decode cX2_addCourse 46 = .ok (.iastore, 1) := by decide +kernel
theorem dX2_addCourse_47 : decode cX2_addCourse 47 = .ok (.aload_n 0, 1) := by decide +kernel
theorem dX2_addCourse_48 : decode cX2_addCourse 48 = .ok (.getfield 21, 3) := by decide +kernel
theorem dX2_addCourse_51 : decode cX2_addCourse 51 = .ok (.aload_n 0, 1) := by decide +kernel
theorem dX2_addCourse_52 : decode cX2_addCourse 52 = .ok (.getfield 48, 3) := by decide +kernel
theorem dX2_addCourse_55 : decode cX2_addCourse 55 = .ok (.iload_n 2, 1) := by decide +kernel
theorem dX2_addCourse_56 : decode cX2_addCourse 56 = .ok (.iastore, 1) := by decide +kernel
theorem dX2_addCourse_57 : decode cX2_addCourse 57 = .ok (.aload_n 0, 1) := by decide +kernel
theorem dX2_addCourse_58 : decode cX2_addCourse 58 = .ok (.dup, 1) := by decide +kernel
theorem dX2_addCourse_59 : decode cX2_addCourse 59 = .ok (.getfield 48, 3) := by decide +kernel
theorem dX2_addCourse_62 : decode cX2_addCourse 62 = .ok (.iconst 1, 1) := by decide +kernel
theorem dX2_addCourse_63 : decode cX2_addCourse 63 = .ok (.iadd, 1) := by decide +kernel
theorem dX2_addCourse_64 : decode cX2_addCourse 64 = .ok (.putfield 48, 3) := by decide +kernel
theorem dX2_addCourse_67 : decode cX2_addCourse 67 = .ok (.return_, 1) := by decide +kernel
theorem dX2_dropLast_0 : decode cX2_dropLast 0 = .ok (.aload_n 0, 1) := by decide +kernel
theorem dX2_dropLast_1 : decode cX2_dropLast 1 = .ok (.getfield 48, 3) := by decide +kernel
theorem dX2_dropLast_4 : decode cX2_dropLast 4 = .ok (.ifCond .le 13, 3) := by decide +kernel
theorem dX2_dropLast_7 : decode cX2_dropLast 7 = .ok (.aload_n 0, 1) := by decide +kernel
theorem dX2_dropLast_8 : decode cX2_dropLast 8 = .ok (.dup, 1) := by decide +kernel
theorem dX2_dropLast_9 : decode cX2_dropLast 9 = .ok (.getfield 48, 3) := by decide +kernel
theorem dX2_dropLast_12 : decode cX2_dropLast 12 = .ok (.iconst 1, 1) := by decide +kernel
theorem dX2_dropLast_13 : decode cX2_dropLast 13 = .ok (.isub, 1) := by decide +kernel
theorem dX2_dropLast_14 : decode cX2_dropLast 14 = .ok (.putfield 48, 3) := by decide +kernel
theorem dX2_dropLast_17 : decode cX2_dropLast 17 = .ok (.return_, 1) := by decide +kernel
theorem dX2_hasLightAfter_0 : decode cX2_hasLightAfter 0 = .ok (.iconst 0, 1) := by decide +kernel
theorem dX2_hasLightAfter_1 : decode cX2_hasLightAfter 1 = .ok (.istore_n 3, 1) := by decide +kernel
theorem dX2_hasLightAfter_2 : decode cX2_hasLightAfter 2 = .ok (.iload_n 3, 1) := by decide +kernel
theorem dX2_hasLightAfter_3 : decode cX2_hasLightAfter 3 = .ok (.aload_n 0, 1) := by decide +kernel
theorem dX2_hasLightAfter_4 : decode cX2_hasLightAfter 4 = .ok (.getfield 48, 3) := by decide +kernel
theorem dX2_hasLightAfter_7 : decode cX2_hasLightAfter 7 = .ok (.if_icmp .ge 47, 3) := by decide +kernel
theorem dX2_hasLightAfter_10 : decode cX2_hasLightAfter 10 = .ok (.iload_n 3, 1) := by decide +kernel
theorem dX2_hasLightAfter_11 : decode cX2_hasLightAfter 11 = .ok (.bipush 41, 2) := by decide +kernel
theorem dX2_hasLightAfter_13 : decode cX2_hasLightAfter 13 = .ok (.if_icmp .ge 41, 3) := by decide +kernel
theorem dX2_hasLightAfter_16 : decode cX2_hasLightAfter 16 = .ok (.aload_n 0, 1) := by decide +kernel
theorem dX2_hasLightAfter_17 : decode cX2_hasLightAfter 17 = .ok (.getfield 11, 3) := by decide +kernel
theorem dX2_hasLightAfter_20 : decode cX2_hasLightAfter 20 = .ok (.iload_n 3, 1) := by decide +kernel
theorem dX2_hasLightAfter_21 : decode cX2_hasLightAfter 21 = .ok (.iaload, 1) := by decide +kernel
theorem dX2_hasLightAfter_22 : decode cX2_hasLightAfter 22 = .ok (.iload_n 1, 1) := by decide +kernel
theorem dX2_hasLightAfter_23 : decode cX2_hasLightAfter 23 = .ok (.if_icmp .ne 25, 3) := by decide +kernel
theorem dX2_hasLightAfter_26 : decode cX2_hasLightAfter 26 = .ok (.aload_n 0, 1) := by decide +kernel
theorem dX2_hasLightAfter_27 : decode cX2_hasLightAfter 27 = .ok (.getfield 18, 3) := by decide +kernel
theorem dX2_hasLightAfter_30 : decode cX2_hasLightAfter 30 = .ok (.iload_n 3, 1) := by decide +kernel
theorem dX2_hasLightAfter_31 : decode cX2_hasLightAfter 31 = .ok (.iaload, 1) := by decide +kernel
theorem dX2_hasLightAfter_32 : decode cX2_hasLightAfter 32 = .ok (.iconst 1, 1) := by decide +kernel
theorem dX2_hasLightAfter_33 : decode cX2_hasLightAfter 33 = .ok (.if_icmp .ne 15, 3) := by decide +kernel
theorem dX2_hasLightAfter_36 : decode cX2_hasLightAfter 36 = .ok (.aload_n 0, 1) := by decide +kernel
theorem dX2_hasLightAfter_37 : decode cX2_hasLightAfter 37 = .ok (.getfield 15, 3) := by decide +kernel
theorem dX2_hasLightAfter_40 : decode cX2_hasLightAfter 40 = .ok (.iload_n 3, 1) := by decide +kernel
theorem dX2_hasLightAfter_41 : decode cX2_hasLightAfter 41 = .ok (.iaload, 1) := by decide +kernel
theorem dX2_hasLightAfter_42 : decode cX2_hasLightAfter 42 = .ok (.iload_n 2, 1) := by decide +kernel
theorem dX2_hasLightAfter_43 : decode cX2_hasLightAfter 43 = .ok (.if_icmp .le 5, 3) := by decide +kernel
theorem dX2_hasLightAfter_46 : decode cX2_hasLightAfter 46 = .ok (.iconst 1, 1) := by decide +kernel
theorem dX2_hasLightAfter_47 : decode cX2_hasLightAfter 47 = .ok (.ireturn, 1) := by decide +kernel
theorem dX2_hasLightAfter_48 : decode cX2_hasLightAfter 48 = .ok (.iinc 3 1, 3) := by decide +kernel
theorem dX2_hasLightAfter_51 : decode cX2_hasLightAfter 51 = .ok (.goto (-49), 3) := by decide +kernel
theorem dX2_hasLightAfter_54 : decode cX2_hasLightAfter 54 = .ok (.iconst 0, 1) := by decide +kernel
theorem dX2_hasLightAfter_55 : decode cX2_hasLightAfter 55 = .ok (.ireturn, 1) := by decide +kernel
theorem dX2_tell_0 : decode cX2_tell 0 = .ok (.aload_n 0, 1) := by decide +kernel
theorem dX2_tell_1 : decode cX2_tell 1 = .ok (.iload_n 2, 1) := by decide +kernel
theorem dX2_tell_2 : decode cX2_tell 2 = .ok (.invokevirtual 52, 3) := by decide +kernel
theorem dX2_tell_5 : decode cX2_tell 5 = .ok (.ifCond .ne 5, 3) := by decide +kernel
theorem dX2_tell_8 : decode cX2_tell 8 = .ok (.iconst 0, 1) := by decide +kernel
theorem dX2_tell_9 : decode cX2_tell 9 = .ok (.ireturn, 1) := by decide +kernel
theorem dX2_tell_10 : decode cX2_tell 10 = .ok (.iload_n 1, 1) := by decide +kernel
theorem dX2_tell_11 : decode cX2_tell 11 = .ok (.tableswitch 73 1 4 #[29, 40, 51, 62], 29) := by decide +kernel
theorem dX2_tell_40 : decode cX2_tell 40 = .ok (.aload_n 0, 1) := by decide +kernel
theorem dX2_tell_41 : decode cX2_tell 41 = .ok (.aload_n 0, 1) := by decide +kernel
theorem dX2_tell_42 : decode cX2_tell 42 = .ok (.getfield 33, 3) := by decide +kernel
theorem dX2_tell_45 : decode cX2_tell 45 = .ok (.iload_n 2, 1) := by decide +kernel
theorem dX2_tell_46 : decode cX2_tell 46 = .ok (.iload_n 3, 1) := by decide +kernel
theorem dX2_tell_47 : decode cX2_tell 47 = .ok (.invokevirtual 56, 3) := by decide +kernel
theorem dX2_tell_50 : decode cX2_tell 50 = .ok (.ireturn, 1) := by decide +kernel
theorem dX2_tell_51 : decode cX2_tell 51 = .ok (.aload_n 0, 1) := by decide +kernel
theorem dX2_tell_52 : decode cX2_tell 52 = .ok (.aload_n 0, 1) := by decide +kernel
theorem dX2_tell_53 : decode cX2_tell 53 = .ok (.getfield 27, 3) := by decide +kernel
theorem dX2_tell_56 : decode cX2_tell 56 = .ok (.iload_n 2, 1) := by decide +kernel
theorem dX2_tell_57 : decode cX2_tell 57 = .ok (.iload_n 3, 1) := by decide +kernel
theorem dX2_tell_58 : decode cX2_tell 58 = .ok (.invokevirtual 56, 3) := by decide +kernel
theorem dX2_tell_61 : decode cX2_tell 61 = .ok (.ireturn, 1) := by decide +kernel
theorem dX2_tell_62 : decode cX2_tell 62 = .ok (.aload_n 0, 1) := by decide +kernel
theorem dX2_tell_63 : decode cX2_tell 63 = .ok (.aload_n 0, 1) := by decide +kernel
theorem dX2_tell_64 : decode cX2_tell 64 = .ok (.getfield 21, 3) := by decide +kernel
theorem dX2_tell_67 : decode cX2_tell 67 = .ok (.iload_n 2, 1) := by decide +kernel
theorem dX2_tell_68 : decode cX2_tell 68 = .ok (.iload_n 3, 1) := by decide +kernel
theorem dX2_tell_69 : decode cX2_tell 69 = .ok (.invokevirtual 56, 3) := by decide +kernel
theorem dX2_tell_72 : decode cX2_tell 72 = .ok (.ireturn, 1) := by decide +kernel
theorem dX2_tell_73 : decode cX2_tell 73 = .ok (.aload_n 0, 1) := by decide +kernel
theorem dX2_tell_74 : decode cX2_tell 74 = .ok (.aload_n 0, 1) := by decide +kernel
theorem dX2_tell_75 : decode cX2_tell 75 = .ok (.getfield 30, 3) := by decide +kernel
theorem dX2_tell_78 : decode cX2_tell 78 = .ok (.iload_n 2, 1) := by decide +kernel
theorem dX2_tell_79 : decode cX2_tell 79 = .ok (.iload_n 3, 1) := by decide +kernel
theorem dX2_tell_80 : decode cX2_tell 80 = .ok (.invokevirtual 56, 3) := by decide +kernel
theorem dX2_tell_83 : decode cX2_tell 83 = .ok (.ireturn, 1) := by decide +kernel
theorem dX2_tell_84 : decode cX2_tell 84 = .ok (.iconst 0, 1) := by decide +kernel
theorem dX2_tell_85 : decode cX2_tell 85 = .ok (.ireturn, 1) := by decide +kernel
theorem dX2_swap_0 : decode cX2_swap 0 = .ok (.iload_n 2, 1) := by decide +kernel
theorem dX2_swap_1 : decode cX2_swap 1 = .ok (.ifCond .lt 9, 3) := by decide +kernel
theorem dX2_swap_4 : decode cX2_swap 4 = .ok (.iload_n 2, 1) := by decide +kernel
theorem dX2_swap_5 : decode cX2_swap 5 = .ok (.aload_n 1, 1) := by decide +kernel
theorem dX2_swap_6 : decode cX2_swap 6 = .ok (.arraylength, 1) := by decide +kernel
theorem dX2_swap_7 : decode cX2_swap 7 = .ok (.if_icmp .lt 5, 3) := by decide +kernel
theorem dX2_swap_10 : decode cX2_swap 10 = .ok (.iconst 0, 1) := by decide +kernel
theorem dX2_swap_11 : decode cX2_swap 11 = .ok (.ireturn, 1) := by decide +kernel
theorem dX2_swap_12 : decode cX2_swap 12 = .ok (.aload_n 1, 1) := by decide +kernel
theorem dX2_swap_13 : decode cX2_swap 13 = .ok (.iload_n 2, 1) := by decide +kernel
theorem dX2_swap_14 : decode cX2_swap 14 = .ok (.iaload, 1) := by decide +kernel
theorem dX2_swap_15 : decode cX2_swap 15 = .ok (.istore 4, 2) := by decide +kernel
theorem dX2_swap_17 : decode cX2_swap 17 = .ok (.aload_n 1, 1) := by decide +kernel
theorem dX2_swap_18 : decode cX2_swap 18 = .ok (.iload_n 2, 1) := by decide +kernel
theorem dX2_swap_19 : decode cX2_swap 19 = .ok (.iload_n 3, 1) := by decide +kernel
theorem dX2_swap_20 : decode cX2_swap 20 = .ok (.iastore, 1) := by decide +kernel
theorem dX2_swap_21 : decode cX2_swap 21 = .ok (.iload 4, 2) := by decide +kernel
theorem dX2_swap_23 : decode cX2_swap 23 = .ok (.ireturn, 1) := by decide +kernel
theorem dX2_tellOf_0 : decode cX2_tellOf 0 = .ok (.aload_n 0, 1) := by decide +kernel
theorem dX2_tellOf_1 : decode cX2_tellOf 1 = .ok (.iload_n 1, 1) := by decide +kernel
theorem dX2_tellOf_2 : decode cX2_tellOf 2 = .ok (.invokevirtual 52, 3) := by decide +kernel
theorem dX2_tellOf_5 : decode cX2_tellOf 5 = .ok (.ifCond .ne 6, 3) := by decide +kernel
theorem dX2_tellOf_8 : decode cX2_tellOf 8 = .ok (.bipush (-4), 2) := by decide +kernel
theorem dX2_tellOf_10 : decode cX2_tellOf 10 = .ok (.ireturn, 1) := by decide +kernel
theorem dX2_tellOf_11 : decode cX2_tellOf 11 = .ok (.iload_n 2, 1) := by decide +kernel
theorem dX2_tellOf_12 : decode cX2_tellOf 12 = .ok (.tableswitch 110 0 10 #[60, 67, 74, 110, 110, 110, 110, 110, 110, 81, 88], 60) := by decide +kernel
theorem dX2_tellOf_72 : decode cX2_tellOf 72 = .ok (.aload_n 0, 1) := by decide +kernel
theorem dX2_tellOf_73 : decode cX2_tellOf 73 = .ok (.getfield 11, 3) := by decide +kernel
theorem dX2_tellOf_76 : decode cX2_tellOf 76 = .ok (.iload_n 1, 1) := by decide +kernel
theorem dX2_tellOf_77 : decode cX2_tellOf 77 = .ok (.iaload, 1) := by decide +kernel
theorem dX2_tellOf_78 : decode cX2_tellOf 78 = .ok (.ireturn, 1) := by decide +kernel
theorem dX2_tellOf_79 : decode cX2_tellOf 79 = .ok (.aload_n 0, 1) := by decide +kernel
theorem dX2_tellOf_80 : decode cX2_tellOf 80 = .ok (.getfield 15, 3) := by decide +kernel
theorem dX2_tellOf_83 : decode cX2_tellOf 83 = .ok (.iload_n 1, 1) := by decide +kernel
theorem dX2_tellOf_84 : decode cX2_tellOf 84 = .ok (.iaload, 1) := by decide +kernel
theorem dX2_tellOf_85 : decode cX2_tellOf 85 = .ok (.ireturn, 1) := by decide +kernel
theorem dX2_tellOf_86 : decode cX2_tellOf 86 = .ok (.aload_n 0, 1) := by decide +kernel
theorem dX2_tellOf_87 : decode cX2_tellOf 87 = .ok (.getfield 18, 3) := by decide +kernel
theorem dX2_tellOf_90 : decode cX2_tellOf 90 = .ok (.iload_n 1, 1) := by decide +kernel
theorem dX2_tellOf_91 : decode cX2_tellOf 91 = .ok (.iaload, 1) := by decide +kernel
theorem dX2_tellOf_92 : decode cX2_tellOf 92 = .ok (.ireturn, 1) := by decide +kernel
theorem dX2_tellOf_93 : decode cX2_tellOf 93 = .ok (.aload_n 0, 1) := by decide +kernel
theorem dX2_tellOf_94 : decode cX2_tellOf 94 = .ok (.getfield 39, 3) := by decide +kernel
theorem dX2_tellOf_97 : decode cX2_tellOf 97 = .ok (.iload_n 1, 1) := by decide +kernel
theorem dX2_tellOf_98 : decode cX2_tellOf 98 = .ok (.iaload, 1) := by decide +kernel
theorem dX2_tellOf_99 : decode cX2_tellOf 99 = .ok (.ireturn, 1) := by decide +kernel
theorem dX2_tellOf_100 : decode cX2_tellOf 100 = .ok (.aload_n 0, 1) := by decide +kernel
theorem dX2_tellOf_101 : decode cX2_tellOf 101 = .ok (.getfield 18, 3) := by decide +kernel
theorem dX2_tellOf_104 : decode cX2_tellOf 104 = .ok (.iload_n 1, 1) := by decide +kernel
theorem dX2_tellOf_105 : decode cX2_tellOf 105 = .ok (.iaload, 1) := by decide +kernel
theorem dX2_tellOf_106 : decode cX2_tellOf 106 = .ok (.iconst 2, 1) := by decide +kernel
theorem dX2_tellOf_107 : decode cX2_tellOf 107 = .ok (.if_icmp .ne 12, 3) := by decide +kernel
theorem dX2_tellOf_110 : decode cX2_tellOf 110 = .ok (.aload_n 0, 1) := by decide +kernel
theorem dX2_tellOf_111 : decode cX2_tellOf 111 = .ok (.getfield 42, 3) := by decide +kernel
theorem dX2_tellOf_114 : decode cX2_tellOf 114 = .ok (.iload_n 1, 1) := by decide +kernel
theorem dX2_tellOf_115 : decode cX2_tellOf 115 = .ok (.iaload, 1) := by decide +kernel
theorem dX2_tellOf_116 : decode cX2_tellOf 116 = .ok (.goto 5, 3) := by decide +kernel
theorem dX2_tellOf_119 : decode cX2_tellOf 119 = .ok (.bipush (-4), 2) := by decide +kernel
theorem dX2_tellOf_121 : decode cX2_tellOf 121 = .ok (.ireturn, 1) := by decide +kernel
theorem dX2_tellOf_122 : decode cX2_tellOf 122 = .ok (.aload_n 0, 1) := by decide +kernel
theorem dX2_tellOf_123 : decode cX2_tellOf 123 = .ok (.getfield 18, 3) := by decide +kernel
theorem dX2_tellOf_126 : decode cX2_tellOf 126 = .ok (.iload_n 1, 1) := by decide +kernel
theorem dX2_tellOf_127 : decode cX2_tellOf 127 = .ok (.iaload, 1) := by decide +kernel
theorem dX2_tellOf_128 : decode cX2_tellOf 128 = .ok (.ifCond .ne 12, 3) := by decide +kernel
theorem dX2_tellOf_131 : decode cX2_tellOf 131 = .ok (.aload_n 0, 1) := by decide +kernel
theorem dX2_tellOf_132 : decode cX2_tellOf 132 = .ok (.iload_n 1, 1) := by decide +kernel
theorem dX2_tellOf_133 : decode cX2_tellOf 133 = .ok (.iload_n 2, 1) := by decide +kernel
theorem dX2_tellOf_134 : decode cX2_tellOf 134 = .ok (.invokevirtual 60, 3) := by decide +kernel
theorem dX2_tellOf_137 : decode cX2_tellOf 137 = .ok (.goto 5, 3) := by decide +kernel
theorem dX2_tellOf_140 : decode cX2_tellOf 140 = .ok (.bipush (-4), 2) := by decide +kernel
theorem dX2_tellOf_142 : decode cX2_tellOf 142 = .ok (.ireturn, 1) := by decide +kernel
theorem dX2_tellOfConviction_0 : decode cX2_tellOfConviction 0 = .ok (.aload_n 0, 1) := by decide +kernel
theorem dX2_tellOfConviction_1 : decode cX2_tellOfConviction 1 = .ok (.iload_n 1, 1) := by decide +kernel
theorem dX2_tellOfConviction_2 : decode cX2_tellOfConviction 2 = .ok (.invokevirtual 52, 3) := by decide +kernel
theorem dX2_tellOfConviction_5 : decode cX2_tellOfConviction 5 = .ok (.ifCond .ne 6, 3) := by decide +kernel
theorem dX2_tellOfConviction_8 : decode cX2_tellOfConviction 8 = .ok (.bipush (-4), 2) := by decide +kernel
theorem dX2_tellOfConviction_10 : decode cX2_tellOfConviction 10 = .ok (.ireturn, 1) := by decide +kernel
theorem dX2_tellOfConviction_11 : decode cX2_tellOfConviction 11 = .ok (.iload_n 2, 1) := by decide +kernel
theorem dX2_tellOfConviction_12 : decode cX2_tellOfConviction 12 = .ok (.tableswitch 82 3 8 #[40, 47, 54, 61, 68, 75], 40) := by decide +kernel
theorem dX2_tellOfConviction_52 : decode cX2_tellOfConviction 52 = .ok (.aload_n 0, 1) := by decide +kernel
theorem dX2_tellOfConviction_53 : decode cX2_tellOfConviction 53 = .ok (.getfield 21, 3) := by decide +kernel
theorem dX2_tellOfConviction_56 : decode cX2_tellOfConviction 56 = .ok (.iload_n 1, 1) := by decide +kernel
theorem dX2_tellOfConviction_57 : decode cX2_tellOfConviction 57 = .ok (.iaload, 1) := by decide +kernel
theorem dX2_tellOfConviction_58 : decode cX2_tellOfConviction 58 = .ok (.ireturn, 1) := by decide +kernel
theorem dX2_tellOfConviction_59 : decode cX2_tellOfConviction 59 = .ok (.aload_n 0, 1) := by decide +kernel
theorem dX2_tellOfConviction_60 : decode cX2_tellOfConviction 60 = .ok (.getfield 24, 3) := by decide +kernel
theorem dX2_tellOfConviction_63 : decode cX2_tellOfConviction 63 = .ok (.iload_n 1, 1) := by decide +kernel
theorem dX2_tellOfConviction_64 : decode cX2_tellOfConviction 64 = .ok (.iaload, 1) := by decide +kernel
theorem dX2_tellOfConviction_65 : decode cX2_tellOfConviction 65 = .ok (.ireturn, 1) := by decide +kernel
theorem dX2_tellOfConviction_66 : decode cX2_tellOfConviction 66 = .ok (.aload_n 0, 1) := by decide +kernel
theorem dX2_tellOfConviction_67 : decode cX2_tellOfConviction 67 = .ok (.getfield 27, 3) := by decide +kernel
theorem dX2_tellOfConviction_70 : decode cX2_tellOfConviction 70 = .ok (.iload_n 1, 1) := by decide +kernel
theorem dX2_tellOfConviction_71 : decode cX2_tellOfConviction 71 = .ok (.iaload, 1) := by decide +kernel
theorem dX2_tellOfConviction_72 : decode cX2_tellOfConviction 72 = .ok (.ireturn, 1) := by decide +kernel
theorem dX2_tellOfConviction_73 : decode cX2_tellOfConviction 73 = .ok (.aload_n 0, 1) := by decide +kernel
theorem dX2_tellOfConviction_74 : decode cX2_tellOfConviction 74 = .ok (.getfield 30, 3) := by decide +kernel
theorem dX2_tellOfConviction_77 : decode cX2_tellOfConviction 77 = .ok (.iload_n 1, 1) := by decide +kernel
theorem dX2_tellOfConviction_78 : decode cX2_tellOfConviction 78 = .ok (.iaload, 1) := by decide +kernel
theorem dX2_tellOfConviction_79 : decode cX2_tellOfConviction 79 = .ok (.ireturn, 1) := by decide +kernel
theorem dX2_tellOfConviction_80 : decode cX2_tellOfConviction 80 = .ok (.aload_n 0, 1) := by decide +kernel
theorem dX2_tellOfConviction_81 : decode cX2_tellOfConviction 81 = .ok (.getfield 33, 3) := by decide +kernel
theorem dX2_tellOfConviction_84 : decode cX2_tellOfConviction 84 = .ok (.iload_n 1, 1) := by decide +kernel
theorem dX2_tellOfConviction_85 : decode cX2_tellOfConviction 85 = .ok (.iaload, 1) := by decide +kernel
theorem dX2_tellOfConviction_86 : decode cX2_tellOfConviction 86 = .ok (.ireturn, 1) := by decide +kernel
theorem dX2_tellOfConviction_87 : decode cX2_tellOfConviction 87 = .ok (.aload_n 0, 1) := by decide +kernel
theorem dX2_tellOfConviction_88 : decode cX2_tellOfConviction 88 = .ok (.getfield 36, 3) := by decide +kernel
theorem dX2_tellOfConviction_91 : decode cX2_tellOfConviction 91 = .ok (.iload_n 1, 1) := by decide +kernel
theorem dX2_tellOfConviction_92 : decode cX2_tellOfConviction 92 = .ok (.iaload, 1) := by decide +kernel
theorem dX2_tellOfConviction_93 : decode cX2_tellOfConviction 93 = .ok (.ireturn, 1) := by decide +kernel
theorem dX2_tellOfConviction_94 : decode cX2_tellOfConviction 94 = .ok (.bipush (-4), 2) := by decide +kernel
theorem dX2_tellOfConviction_96 : decode cX2_tellOfConviction 96 = .ok (.ireturn, 1) := by decide +kernel
theorem dX2_clearMarks_0 : decode cX2_clearMarks 0 = .ok (.aload_n 0, 1) := by decide +kernel
theorem dX2_clearMarks_1 : decode cX2_clearMarks 1 = .ok (.iload_n 1, 1) := by decide +kernel
theorem dX2_clearMarks_2 : decode cX2_clearMarks 2 = .ok (.invokevirtual 52, 3) := by decide +kernel
theorem dX2_clearMarks_5 : decode cX2_clearMarks 5 = .ok (.ifCond .eq 46, 3) := by decide +kernel
theorem dX2_clearMarks_8 : decode cX2_clearMarks 8 = .ok (.aload_n 0, 1) := by decide +kernel
theorem dX2_clearMarks_9 : decode cX2_clearMarks 9 = .ok (.getfield 36, 3) := by decide +kernel
theorem dX2_clearMarks_12 : decode cX2_clearMarks 12 = .ok (.iload_n 1, 1) := by decide +kernel
theorem dX2_clearMarks_13 : decode cX2_clearMarks 13 = .ok (.iconst 0, 1) := by decide +kernel
theorem dX2_clearMarks_14 : decode cX2_clearMarks 14 = .ok (.iastore, 1) := by decide +kernel
theorem dX2_clearMarks_15 : decode cX2_clearMarks 15 = .ok (.aload_n 0, 1) := by decide +kernel
theorem dX2_clearMarks_16 : decode cX2_clearMarks 16 = .ok (.getfield 39, 3) := by decide +kernel
theorem dX2_clearMarks_19 : decode cX2_clearMarks 19 = .ok (.iload_n 1, 1) := by decide +kernel
theorem dX2_clearMarks_20 : decode cX2_clearMarks 20 = .ok (.iconst 0, 1) := by decide +kernel
theorem dX2_clearMarks_21 : decode cX2_clearMarks 21 = .ok (.iastore, 1) := by decide +kernel
theorem dX2_clearMarks_22 : decode cX2_clearMarks 22 = .ok (.aload_n 0, 1) := by decide +kernel
theorem dX2_clearMarks_23 : decode cX2_clearMarks 23 = .ok (.getfield 42, 3) := by decide +kernel
theorem dX2_clearMarks_26 : decode cX2_clearMarks 26 = .ok (.iload_n 1, 1) := by decide +kernel
theorem dX2_clearMarks_27 : decode cX2_clearMarks 27 = .ok (.iconst 0, 1) := by decide +kernel
theorem dX2_clearMarks_28 : decode cX2_clearMarks 28 = .ok (.iastore, 1) := by decide +kernel
theorem dX2_clearMarks_29 : decode cX2_clearMarks 29 = .ok (.aload_n 0, 1) := by decide +kernel
theorem dX2_clearMarks_30 : decode cX2_clearMarks 30 = .ok (.getfield 45, 3) := by decide +kernel
theorem dX2_clearMarks_33 : decode cX2_clearMarks 33 = .ok (.iload_n 1, 1) := by decide +kernel
theorem dX2_clearMarks_34 : decode cX2_clearMarks 34 = .ok (.aload_n 0, 1) := by decide +kernel
theorem dX2_clearMarks_35 : decode cX2_clearMarks 35 = .ok (.getfield 18, 3) := by decide +kernel
theorem dX2_clearMarks_38 : decode cX2_clearMarks 38 = .ok (.iload_n 1, 1) := by decide +kernel
theorem dX2_clearMarks_39 : decode cX2_clearMarks 39 = .ok (.iaload, 1) := by decide +kernel
theorem dX2_clearMarks_40 : decode cX2_clearMarks 40 = .ok (.iconst 1, 1) := by decide +kernel
theorem dX2_clearMarks_41 : decode cX2_clearMarks 41 = .ok (.if_icmp .ne 8, 3) := by decide +kernel
theorem dX2_clearMarks_44 : decode cX2_clearMarks 44 = .ok (.bipush (-3), 2) := by decide +kernel
theorem dX2_clearMarks_46 : decode cX2_clearMarks 46 = .ok (.goto 4, 3) := by decide +kernel
theorem dX2_clearMarks_49 : decode cX2_clearMarks 49 = .ok (.iconst 0, 1) := by decide +kernel
theorem dX2_clearMarks_50 : decode cX2_clearMarks 50 = .ok (.iastore, 1) := by decide +kernel
theorem dX2_clearMarks_51 : decode cX2_clearMarks 51 = .ok (.return_, 1) := by decide +kernel
theorem dX2_spend_0 : decode cX2_spend 0 = .ok (.iconst 0, 1) := by decide +kernel
theorem dX2_spend_1 : decode cX2_spend 1 = .ok (.istore_n 3, 1) := by decide +kernel
theorem dX2_spend_2 : decode cX2_spend 2 = .ok (.iload_n 3, 1) := by decide +kernel
theorem dX2_spend_3 : decode cX2_spend 3 = .ok (.iload_n 2, 1) := by decide +kernel
theorem dX2_spend_4 : decode cX2_spend 4 = .ok (.if_icmp .ge 39, 3) := by decide +kernel
theorem dX2_spend_7 : decode cX2_spend 7 = .ok (.iload_n 3, 1) := by decide +kernel
theorem dX2_spend_8 : decode cX2_spend 8 = .ok (.bipush 41, 2) := by decide +kernel
theorem dX2_spend_10 : decode cX2_spend 10 = .ok (.if_icmp .ge 33, 3) := by decide +kernel
theorem dX2_spend_13 : decode cX2_spend 13 = .ok (.aload_n 0, 1) := by decide +kernel
theorem dX2_spend_14 : decode cX2_spend 14 = .ok (.getfield 11, 3) := by decide +kernel
theorem dX2_spend_17 : decode cX2_spend 17 = .ok (.iload_n 3, 1) := by decide +kernel
theorem dX2_spend_18 : decode cX2_spend 18 = .ok (.iaload, 1) := by decide +kernel
theorem dX2_spend_19 : decode cX2_spend 19 = .ok (.iload_n 1, 1) := by decide +kernel
theorem dX2_spend_20 : decode cX2_spend 20 = .ok (.if_icmp .ne 17, 3) := by decide +kernel
theorem dX2_spend_23 : decode cX2_spend 23 = .ok (.aload_n 0, 1) := by decide +kernel
theorem dX2_spend_24 : decode cX2_spend 24 = .ok (.getfield 39, 3) := by decide +kernel
theorem dX2_spend_27 : decode cX2_spend 27 = .ok (.iload_n 3, 1) := by decide +kernel
theorem dX2_spend_28 : decode cX2_spend 28 = .ok (.iconst 1, 1) := by decide +kernel
theorem dX2_spend_29 : decode cX2_spend 29 = .ok (.iastore, 1) := by decide +kernel
theorem dX2_spend_30 : decode cX2_spend 30 = .ok (.aload_n 0, 1) := by decide +kernel
theorem dX2_spend_31 : decode cX2_spend 31 = .ok (.getfield 45, 3) := by decide +kernel
theorem dX2_spend_34 : decode cX2_spend 34 = .ok (.iload_n 3, 1) := by decide +kernel
theorem dX2_spend_35 : decode cX2_spend 35 = .ok (.iconst 0, 1) := by decide +kernel
theorem dX2_spend_36 : decode cX2_spend 36 = .ok (.iastore, 1) := by decide +kernel
theorem dX2_spend_37 : decode cX2_spend 37 = .ok (.iinc 3 1, 3) := by decide +kernel
theorem dX2_spend_40 : decode cX2_spend 40 = .ok (.goto (-38), 3) := by decide +kernel
theorem dX2_spend_43 : decode cX2_spend 43 = .ok (.return_, 1) := by decide +kernel
theorem dX2_weigh_0 : decode cX2_weigh 0 = .ok (.iconst 0, 1) := by decide +kernel
theorem dX2_weigh_1 : decode cX2_weigh 1 = .ok (.istore 5, 2) := by decide +kernel
theorem dX2_weigh_3 : decode cX2_weigh 3 = .ok (.iconst 0, 1) := by decide +kernel
theorem dX2_weigh_4 : decode cX2_weigh 4 = .ok (.istore 6, 2) := by decide +kernel
theorem dX2_weigh_6 : decode cX2_weigh 6 = .ok (.iload 6, 2) := by decide +kernel
theorem dX2_weigh_8 : decode cX2_weigh 8 = .ok (.iload_n 2, 1) := by decide +kernel
theorem dX2_weigh_9 : decode cX2_weigh 9 = .ok (.if_icmp .ge 62, 3) := by decide +kernel
theorem dX2_weigh_12 : decode cX2_weigh 12 = .ok (.iload 6, 2) := by decide +kernel
theorem dX2_weigh_14 : decode cX2_weigh 14 = .ok (.bipush 41, 2) := by decide +kernel
theorem dX2_weigh_16 : decode cX2_weigh 16 = .ok (.if_icmp .ge 55, 3) := by decide +kernel
theorem dX2_weigh_19 : decode cX2_weigh 19 = .ok (.aload_n 0, 1) := by decide +kernel
theorem dX2_weigh_20 : decode cX2_weigh 20 = .ok (.getfield 21, 3) := by decide +kernel
theorem dX2_weigh_23 : decode cX2_weigh 23 = .ok (.iload 6, 2) := by decide +kernel
theorem dX2_weigh_25 : decode cX2_weigh 25 = .ok (.iaload, 1) := by decide +kernel
theorem dX2_weigh_26 : decode cX2_weigh 26 = .ok (.iload_n 3, 1) := by decide +kernel
theorem dX2_weigh_27 : decode cX2_weigh 27 = .ok (.isub, 1) := by decide +kernel
theorem dX2_weigh_28 : decode cX2_weigh 28 = .ok (.istore 7, 2) := by decide +kernel
theorem dX2_weigh_30 : decode cX2_weigh 30 = .ok (.aload_n 0, 1) := by decide +kernel
theorem dX2_weigh_31 : decode cX2_weigh 31 = .ok (.getfield 11, 3) := by decide +kernel
theorem dX2_weigh_34 : decode cX2_weigh 34 = .ok (.iload 6, 2) := by decide +kernel
theorem dX2_weigh_36 : decode cX2_weigh 36 = .ok (.iaload, 1) := by decide +kernel
theorem dX2_weigh_37 : decode cX2_weigh 37 = .ok (.iload_n 1, 1) := by decide +kernel
theorem dX2_weigh_38 : decode cX2_weigh 38 = .ok (.if_icmp .ne 27, 3) := by decide +kernel
theorem dX2_weigh_41 : decode cX2_weigh 41 = .ok (.iload 7, 2) := by decide +kernel
theorem dX2_weigh_43 : decode cX2_weigh 43 = .ok (.ifCond .lt 22, 3) := by decide +kernel
theorem dX2_weigh_46 : decode cX2_weigh 46 = .ok (.iload 7, 2) := by decide +kernel
theorem dX2_weigh_48 : decode cX2_weigh 48 = .ok (.iload 4, 2) := by decide +kernel
theorem dX2_weigh_50 : decode cX2_weigh 50 = .ok (.if_icmp .ge 15, 3) := by decide +kernel
theorem dX2_weigh_53 : decode cX2_weigh 53 = .ok (.iload 5, 2) := by decide +kernel
theorem dX2_weigh_55 : decode cX2_weigh 55 = .ok (.aload_n 0, 1) := by decide +kernel
theorem dX2_weigh_56 : decode cX2_weigh 56 = .ok (.getfield 45, 3) := by decide +kernel
theorem dX2_weigh_59 : decode cX2_weigh 59 = .ok (.iload 6, 2) := by decide +kernel
theorem dX2_weigh_61 : decode cX2_weigh 61 = .ok (.iaload, 1) := by decide +kernel
theorem dX2_weigh_62 : decode cX2_weigh 62 = .ok (.iadd, 1) := by decide +kernel
theorem dX2_weigh_63 : decode cX2_weigh 63 = .ok (.istore 5, 2) := by decide +kernel
theorem dX2_weigh_65 : decode cX2_weigh 65 = .ok (.iinc 6 1, 3) := by decide +kernel
theorem dX2_weigh_68 : decode cX2_weigh 68 = .ok (.goto (-62), 3) := by decide +kernel
theorem dX2_weigh_71 : decode cX2_weigh 71 = .ok (.iload 5, 2) := by decide +kernel
theorem dX2_weigh_73 : decode cX2_weigh 73 = .ok (.ireturn, 1) := by decide +kernel
theorem dX3_reckonAll_0 : decode cX3_reckonAll 0 = .ok (.aload_n 0, 1) := by decide +kernel
theorem dX3_reckonAll_1 : decode cX3_reckonAll 1 = .ok (.getfield 19, 3) := by decide +kernel
theorem dX3_reckonAll_4 : decode cX3_reckonAll 4 = .ok (.iconst 0, 1) := by decide +kernel
theorem dX3_reckonAll_5 : decode cX3_reckonAll 5 = .ok (.putfield 23, 3) := by decide +kernel
theorem dX3_reckonAll_8 : decode cX3_reckonAll 8 = .ok (.aload_n 0, 1) := by decide +kernel
theorem dX3_reckonAll_9 : decode cX3_reckonAll 9 = .ok (.iconst 0, 1) := by decide +kernel
theorem dX3_reckonAll_10 : decode cX3_reckonAll 10 = .ok (.putfield 29, 3) := by decide +kernel
theorem dX3_reckonAll_13 : decode cX3_reckonAll 13 = .ok (.iconst 0, 1) := by decide +kernel
theorem dX3_reckonAll_14 : decode cX3_reckonAll 14 = .ok (.istore_n 1, 1) := by decide +kernel
theorem dX3_reckonAll_15 : decode cX3_reckonAll 15 = .ok (.iload_n 1, 1) := by decide +kernel
theorem dX3_reckonAll_16 : decode cX3_reckonAll 16 = .ok (.aload_n 0, 1) := by decide +kernel
theorem dX3_reckonAll_17 : decode cX3_reckonAll 17 = .ok (.getfield 15, 3) := by decide +kernel
theorem dX3_reckonAll_20 : decode cX3_reckonAll 20 = .ok (.getfield 32, 3) := by decide +kernel
theorem dX3_reckonAll_23 : decode cX3_reckonAll 23 = .ok (.if_icmp .ge 13, 3) := by decide +kernel
theorem dX3_reckonAll_26 : decode cX3_reckonAll 26 = .ok (.aload_n 0, 1) := by decide +kernel
theorem dX3_reckonAll_27 : decode cX3_reckonAll 27 = .ok (.invokevirtual 35, 3) := by decide +kernel
theorem dX3_reckonAll_30 : decode cX3_reckonAll 30 = .ok (.iinc 1 1, 3) := by decide +kernel
theorem dX3_reckonAll_33 : decode cX3_reckonAll 33 = .ok (.goto (-18), 3) := by decide +kernel
theorem dX3_reckonAll_36 : decode cX3_reckonAll 36 = .ok (.return_, 1) := by decide +kernel
theorem dX3_reckonNext_0 : decode cX3_reckonNext 0 = .ok (.aload_n 0, 1) := by decide +kernel
theorem dX3_reckonNext_1 : decode cX3_reckonNext 1 = .ok (.getfield 29, 3) := by decide +kernel
theorem dX3_reckonNext_4 : decode cX3_reckonNext 4 = .ok (.istore_n 1, 1) := by decide +kernel
theorem dX3_reckonNext_5 : decode cX3_reckonNext 5 = .ok (.aload_n 0, 1) := by decide +kernel
theorem dX3_reckonNext_6 : decode cX3_reckonNext 6 = .ok (.getfield 15, 3) := by decide +kernel
theorem dX3_reckonNext_9 : decode cX3_reckonNext 9 = .ok (.iload_n 1, 1) := by decide +kernel
theorem dX3_reckonNext_10 : decode cX3_reckonNext 10 = .ok (.invokevirtual 38, 3) := by decide +kernel
theorem dX3_reckonNext_13 : decode cX3_reckonNext 13 = .ok (.ifCond .ne 4, 3) := by decide +kernel
theorem dX3_reckonNext_16 : decode cX3_reckonNext 16 = .ok (.return_, 1) := by decide +kernel
theorem dX3_reckonNext_17 : decode cX3_reckonNext 17 = .ok (.aload_n 0, 1) := by decide +kernel
theorem dX3_reckonNext_18 : decode cX3_reckonNext 18 = .ok (.dup, 1) := by decide +kernel
theorem dX3_reckonNext_19 : decode cX3_reckonNext 19 = .ok (.getfield 29, 3) := by decide +kernel
theorem dX3_reckonNext_22 : decode cX3_reckonNext 22 = .ok (.iconst 1, 1) := by decide +kernel
theorem dX3_reckonNext_23 : decode cX3_reckonNext 23 = .ok (.iadd, 1) := by decide +kernel
theorem dX3_reckonNext_24 : decode cX3_reckonNext 24 = .ok (.putfield 29, 3) := by decide +kernel
theorem dX3_reckonNext_27 : decode cX3_reckonNext 27 = .ok (.aload_n 0, 1) := by decide +kernel
theorem dX3_reckonNext_28 : decode cX3_reckonNext 28 = .ok (.getfield 15, 3) := by decide +kernel
theorem dX3_reckonNext_31 : decode cX3_reckonNext 31 = .ok (.iload_n 1, 1) := by decide +kernel
theorem dX3_reckonNext_32 : decode cX3_reckonNext 32 = .ok (.invokevirtual 42, 3) := by decide +kernel
theorem dX3_reckonNext_35 : decode cX3_reckonNext 35 = .ok (.aload_n 0, 1) := by decide +kernel
theorem dX3_reckonNext_36 : decode cX3_reckonNext 36 = .ok (.getfield 15, 3) := by decide +kernel
theorem dX3_reckonNext_39 : decode cX3_reckonNext 39 = .ok (.getfield 46, 3) := by decide +kernel
theorem dX3_reckonNext_42 : decode cX3_reckonNext 42 = .ok (.iload_n 1, 1) := by decide +kernel
theorem dX3_reckonNext_43 : decode cX3_reckonNext 43 = .ok (.iaload, 1) := by decide +kernel
theorem dX3_reckonNext_44 : decode cX3_reckonNext 44 = .ok (.iconst 2, 1) := by decide +kernel
theorem dX3_reckonNext_45 : decode cX3_reckonNext 45 = .ok (.if_icmp .ne 11, 3) := by decide +kernel
theorem dX3_reckonNext_48 : decode cX3_reckonNext 48 = .ok (.aload_n 0, 1) := by decide +kernel
theorem dX3_reckonNext_49 : decode cX3_reckonNext 49 = .ok (.iload_n 1, 1) := by decide +kernel
theorem dX3_reckonNext_50 : decode cX3_reckonNext 50 = .ok (.invokevirtual 50, 3) := by decide +kernel
theorem dX3_reckonNext_53 : decode cX3_reckonNext 53 = .ok (.goto 32, 3) := by decide +kernel
theorem dX3_reckonNext_56 : decode cX3_reckonNext 56 = .ok (.aload_n 0, 1) := by decide +kernel
theorem dX3_reckonNext_57 : decode cX3_reckonNext 57 = .ok (.getfield 15, 3) := by decide +kernel
theorem dX3_reckonNext_60 : decode cX3_reckonNext 60 = .ok (.getfield 46, 3) := by decide +kernel
theorem dX3_reckonNext_63 : decode cX3_reckonNext 63 = .ok (.iload_n 1, 1) := by decide +kernel
theorem dX3_reckonNext_64 : decode cX3_reckonNext 64 = .ok (.iaload, 1) := by decide +kernel
theorem dX3_reckonNext_65 : decode cX3_reckonNext 65 = .ok (.ifCond .ne 20, 3) := by decide +kernel
theorem dX3_reckonNext_68 : decode cX3_reckonNext 68 = .ok (.aload_n 0, 1) := by decide +kernel
theorem dX3_reckonNext_69 : decode cX3_reckonNext 69 = .ok (.getfield 15, 3) := by decide +kernel
theorem dX3_reckonNext_72 : decode cX3_reckonNext 72 = .ok (.getfield 53, 3) := by decide +kernel
theorem dX3_reckonNext_75 : decode cX3_reckonNext 75 = .ok (.iload_n 1, 1) := by decide +kernel
theorem dX3_reckonNext_76 : decode cX3_reckonNext 76 = .ok (.iaload, 1) := by decide +kernel
theorem dX3_reckonNext_77 : decode cX3_reckonNext 77 = .ok (.ifCond .ne 8, 3) := by decide +kernel
theorem dX3_reckonNext_80 : decode cX3_reckonNext 80 = .ok (.aload_n 0, 1) := by decide +kernel
theorem dX3_reckonNext_81 : decode cX3_reckonNext 81 = .ok (.iload_n 1, 1) := by decide +kernel
theorem dX3_reckonNext_82 : decode cX3_reckonNext 82 = .ok (.invokevirtual 56, 3) := by decide +kernel
theorem dX3_reckonNext_85 : decode cX3_reckonNext 85 = .ok (.return_, 1) := by decide +kernel
theorem dX3_reckonLong_0 : decode cX3_reckonLong 0 = .ok (.aload_n 0, 1) := by decide +kernel
theorem dX3_reckonLong_1 : decode cX3_reckonLong 1 = .ok (.getfield 15, 3) := by decide +kernel
theorem dX3_reckonLong_4 : decode cX3_reckonLong 4 = .ok (.iload_n 1, 1) := by decide +kernel
theorem dX3_reckonLong_5 : decode cX3_reckonLong 5 = .ok (.invokevirtual 38, 3) := by decide +kernel
theorem dX3_reckonLong_8 : decode cX3_reckonLong 8 = .ok (.ifCond .ne 4, 3) := by decide +kernel
theorem dX3_reckonLong_11 : decode cX3_reckonLong 11 = .ok (.return_, 1) := by decide +kernel
theorem dX3_reckonLong_12 : decode cX3_reckonLong 12 = .ok (.aload_n 0, 1) := by decide +kernel
theorem dX3_reckonLong_13 : decode cX3_reckonLong 13 = .ok (.getfield 15, 3) := by decide +kernel
theorem dX3_reckonLong_16 : decode cX3_reckonLong 16 = .ok (.getfield 59, 3) := by decide +kernel
theorem dX3_reckonLong_19 : decode cX3_reckonLong 19 = .ok (.iload_n 1, 1) := by decide +kernel
theorem dX3_reckonLong_20 : decode cX3_reckonLong 20 = .ok (.iaload, 1) := by decide +kernel
theorem dX3_reckonLong_21 : decode cX3_reckonLong 21 = .ok (.istore_n 2, 1) := by decide +kernel
theorem dX3_reckonLong_22 : decode cX3_reckonLong 22 = .ok (.aload_n 0, 1) := by decide +kernel
theorem dX3_reckonLong_23 : decode cX3_reckonLong 23 = .ok (.getfield 19, 3) := by decide +kernel
theorem dX3_reckonLong_26 : decode cX3_reckonLong 26 = .ok (.aload_n 0, 1) := by decide +kernel
theorem dX3_reckonLong_27 : decode cX3_reckonLong 27 = .ok (.getfield 15, 3) := by decide +kernel
theorem dX3_reckonLong_30 : decode cX3_reckonLong 30 = .ok (.getfield 62, 3) := by decide +kernel
theorem dX3_reckonLong_33 : decode cX3_reckonLong 33 = .ok (.iload_n 1, 1) := by decide +kernel
theorem dX3_reckonLong_34 : decode cX3_reckonLong 34 = .ok (.iaload, 1) := by decide +kernel
theorem dX3_reckonLong_35 : decode cX3_reckonLong 35 = .ok (.iload_n 2, 1) := by decide +kernel
theorem dX3_reckonLong_36 : decode cX3_reckonLong 36 = .ok (.invokevirtual 65, 3) := by decide +kernel
theorem dX3_reckonLong_39 : decode cX3_reckonLong 39 = .ok (.istore_n 3, 1) := by decide +kernel
theorem dX3_reckonLong_40 : decode cX3_reckonLong 40 = .ok (.iload_n 3, 1) := by decide +kernel
theorem dX3_reckonLong_41 : decode cX3_reckonLong 41 = .ok (.ifCond .ge 16, 3) := by decide +kernel
theorem dX3_reckonLong_44 : decode cX3_reckonLong 44 = .ok (.aload_n 0, 1) := by decide +kernel
theorem dX3_reckonLong_45 : decode cX3_reckonLong 45 = .ok (.getfield 15, 3) := by decide +kernel
theorem dX3_reckonLong_48 : decode cX3_reckonLong 48 = .ok (.getfield 69, 3) := by decide +kernel
theorem dX3_reckonLong_51 : decode cX3_reckonLong 51 = .ok (.iload_n 1, 1) := by decide +kernel
theorem dX3_reckonLong_52 : decode cX3_reckonLong 52 = .ok (.iconst 1, 1) := by decide +kernel
theorem dX3_reckonLong_53 : decode cX3_reckonLong 53 = .ok (.iastore, 1) := by decide +kernel
theorem dX3_reckonLong_54 : decode cX3_reckonLong 54 = .ok (.goto 12, 3) := by decide +kernel
theorem dX3_reckonLong_57 : decode cX3_reckonLong 57 = .ok (.aload_n 0, 1) := by decide +kernel
theorem dX3_reckonLong_58 : decode cX3_reckonLong 58 = .ok (.getfield 19, 3) := by decide +kernel
theorem dX3_reckonLong_61 : decode cX3_reckonLong 61 = .ok (.iload_n 3, 1) := by decide +kernel
theorem dX3_reckonLong_62 : decode cX3_reckonLong 62 = .ok (.iload_n 2, 1) := by decide +kernel
theorem dX3_reckonLong_63 : decode cX3_reckonLong 63 = .ok (.invokevirtual 72, 3) := by decide +kernel
theorem dX3_reckonLong_66 : decode cX3_reckonLong 66 = .ok (.return_, 1) := by decide +kernel
theorem dX3_reckonConviction_0 : decode cX3_reckonConviction 0 = .ok (.aload_n 0, 1) := by decide +kernel
theorem dX3_reckonConviction_1 : decode cX3_reckonConviction 1 = .ok (.getfield 15, 3) := by decide +kernel
theorem dX3_reckonConviction_4 : decode cX3_reckonConviction 4 = .ok (.iload_n 1, 1) := by decide +kernel
theorem dX3_reckonConviction_5 : decode cX3_reckonConviction 5 = .ok (.invokevirtual 38, 3) := by decide +kernel
theorem dX3_reckonConviction_8 : decode cX3_reckonConviction 8 = .ok (.ifCond .ne 4, 3) := by decide +kernel
theorem dX3_reckonConviction_11 : decode cX3_reckonConviction 11 = .ok (.return_, 1) := by decide +kernel
theorem dX3_reckonConviction_12 : decode cX3_reckonConviction 12 = .ok (.aload_n 0, 1) := by decide +kernel
theorem dX3_reckonConviction_13 : decode cX3_reckonConviction 13 = .ok (.getfield 15, 3) := by decide +kernel
theorem dX3_reckonConviction_16 : decode cX3_reckonConviction 16 = .ok (.getfield 62, 3) := by decide +kernel
theorem dX3_reckonConviction_19 : decode cX3_reckonConviction 19 = .ok (.iload_n 1, 1) := by decide +kernel
theorem dX3_reckonConviction_20 : decode cX3_reckonConviction 20 = .ok (.iaload, 1) := by decide +kernel
theorem dX3_reckonConviction_21 : decode cX3_reckonConviction 21 = .ok (.istore_n 2, 1) := by decide +kernel
theorem dX3_reckonConviction_22 : decode cX3_reckonConviction 22 = .ok (.aload_n 0, 1) := by decide +kernel
theorem dX3_reckonConviction_23 : decode cX3_reckonConviction 23 = .ok (.getfield 15, 3) := by decide +kernel
theorem dX3_reckonConviction_26 : decode cX3_reckonConviction 26 = .ok (.getfield 59, 3) := by decide +kernel
theorem dX3_reckonConviction_29 : decode cX3_reckonConviction 29 = .ok (.iload_n 1, 1) := by decide +kernel
theorem dX3_reckonConviction_30 : decode cX3_reckonConviction 30 = .ok (.iaload, 1) := by decide +kernel
theorem dX3_reckonConviction_31 : decode cX3_reckonConviction 31 = .ok (.istore_n 3, 1) := by decide +kernel
theorem dX3_reckonConviction_32 : decode cX3_reckonConviction 32 = .ok (.aload_n 0, 1) := by decide +kernel
theorem dX3_reckonConviction_33 : decode cX3_reckonConviction 33 = .ok (.getfield 15, 3) := by decide +kernel
theorem dX3_reckonConviction_36 : decode cX3_reckonConviction 36 = .ok (.getfield 76, 3) := by decide +kernel
theorem dX3_reckonConviction_39 : decode cX3_reckonConviction 39 = .ok (.iload_n 1, 1) := by decide +kernel
theorem dX3_reckonConviction_40 : decode cX3_reckonConviction 40 = .ok (.iaload, 1) := by decide +kernel
theorem dX3_reckonConviction_41 : decode cX3_reckonConviction 41 = .ok (.istore 4, 2) := by decide +kernel
theorem dX3_reckonConviction_43 : decode cX3_reckonConviction 43 = .ok (.aload_n 0, 1) := by decide +kernel
theorem dX3_reckonConviction_44 : decode cX3_reckonConviction 44 = .ok (.getfield 19, 3) := by decide +kernel
theorem dX3_reckonConviction_47 : decode cX3_reckonConviction 47 = .ok (.iload_n 2, 1) := by decide +kernel
theorem dX3_reckonConviction_48 : decode cX3_reckonConviction 48 = .ok (.iload 4, 2) := by decide +kernel
theorem dX3_reckonConviction_50 : decode cX3_reckonConviction 50 = .ok (.invokevirtual 79, 3) := by decide +kernel
theorem dX3_reckonConviction_53 : decode cX3_reckonConviction 53 = .ok (.istore 5, 2) := by decide +kernel
theorem dX3_reckonConviction_55 : decode cX3_reckonConviction 55 = .ok (.aload_n 0, 1) := by decide +kernel
theorem dX3_reckonConviction_56 : decode cX3_reckonConviction 56 = .ok (.getfield 15, 3) := by decide +kernel
theorem dX3_reckonConviction_59 : decode cX3_reckonConviction 59 = .ok (.getfield 83, 3) := by decide +kernel
theorem dX3_reckonConviction_62 : decode cX3_reckonConviction 62 = .ok (.iload_n 1, 1) := by decide +kernel
theorem dX3_reckonConviction_63 : decode cX3_reckonConviction 63 = .ok (.iload 5, 2) := by decide +kernel
theorem dX3_reckonConviction_65 : decode cX3_reckonConviction 65 = .ok (.ifCond .eq 7, 3) := by decide +kernel
theorem dX3_reckonConviction_68 : decode cX3_reckonConviction 68 = .ok (.iconst 1, 1) := by decide +kernel
theorem dX3_reckonConviction_69 : decode cX3_reckonConviction 69 = .ok (.goto 4, 3) := by decide +kernel
theorem dX3_reckonConviction_72 : decode cX3_reckonConviction 72 = .ok (.iconst 0, 1) := by decide +kernel
theorem dX3_reckonConviction_73 : decode cX3_reckonConviction 73 = .ok (.iastore, 1) := by decide +kernel
theorem dX3_reckonConviction_74 : decode cX3_reckonConviction 74 = .ok (.aload_n 0, 1) := by decide +kernel
theorem dX3_reckonConviction_75 : decode cX3_reckonConviction 75 = .ok (.getfield 15, 3) := by decide +kernel
theorem dX3_reckonConviction_78 : decode cX3_reckonConviction 78 = .ok (.getfield 86, 3) := by decide +kernel
theorem dX3_reckonConviction_81 : decode cX3_reckonConviction 81 = .ok (.iload_n 1, 1) := by decide +kernel
theorem dX3_reckonConviction_82 : decode cX3_reckonConviction 82 = .ok (.iload 5, 2) := by decide +kernel
theorem dX3_reckonConviction_84 : decode cX3_reckonConviction 84 = .ok (.ifCond .eq 17, 3) := by decide +kernel
theorem dX3_reckonConviction_87 : decode cX3_reckonConviction 87 = .ok (.iconst 2, 1) := by decide +kernel
theorem dX3_reckonConviction_88 : decode cX3_reckonConviction 88 = .ok (.aload_n 0, 1) := by decide +kernel
theorem dX3_reckonConviction_89 : decode cX3_reckonConviction 89 = .ok (.getfield 15, 3) := by decide +kernel
theorem dX3_reckonConviction_92 : decode cX3_reckonConviction 92 = .ok (.getfield 89, 3) := by decide +kernel
theorem dX3_reckonConviction_95 : decode cX3_reckonConviction 95 = .ok (.iload_n 1, 1) := by decide +kernel
theorem dX3_reckonConviction_96 : decode cX3_reckonConviction 96 = .ok (.iaload, 1) := by decide +kernel
theorem dX3_reckonConviction_97 : decode cX3_reckonConviction 97 = .ok (.imul, 1) := by decide +kernel
theorem dX3_reckonConviction_98 : decode cX3_reckonConviction 98 = .ok (.goto 12, 3) := by decide +kernel
theorem dX3_reckonConviction_101 : decode cX3_reckonConviction 101 = .ok (.aload_n 0, 1) := by decide +kernel
theorem dX3_reckonConviction_102 : decode cX3_reckonConviction 102 = .ok (.getfield 15, 3) := by decide +kernel
theorem dX3_reckonConviction_105 : decode cX3_reckonConviction 105 = .ok (.getfield 89, 3) := by decide +kernel
theorem dX3_reckonConviction_108 : decode cX3_reckonConviction 108 = .ok (.iload_n 1, 1) := by decide +kernel
theorem dX3_reckonConviction_109 : decode cX3_reckonConviction 109 = .ok (.iaload, 1) := by decide +kernel
theorem dX3_reckonConviction_110 : decode cX3_reckonConviction 110 = .ok (.iastore, 1) := by decide +kernel
theorem dX3_reckonConviction_111 : decode cX3_reckonConviction 111 = .ok (.aload_n 0, 1) := by decide +kernel
theorem dX3_reckonConviction_112 : decode cX3_reckonConviction 112 = .ok (.getfield 9, 3) := by decide +kernel
theorem dX3_reckonConviction_115 : decode cX3_reckonConviction 115 = .ok (.aload_n 0, 1) := by decide +kernel
theorem dX3_reckonConviction_116 : decode cX3_reckonConviction 116 = .ok (.getfield 15, 3) := by decide +kernel
theorem dX3_reckonConviction_119 : decode cX3_reckonConviction 119 = .ok (.getfield 92, 3) := by decide +kernel
theorem dX3_reckonConviction_122 : decode cX3_reckonConviction 122 = .ok (.iload_n 1, 1) := by decide +kernel
theorem dX3_reckonConviction_123 : decode cX3_reckonConviction 123 = .ok (.iaload, 1) := by decide +kernel
theorem dX3_reckonConviction_124 : decode cX3_reckonConviction 124 = .ok (.invokevirtual 95, 3) := by decide +kernel
theorem dX3_reckonConviction_127 : decode cX3_reckonConviction 127 = .ok (.istore 6, 2) := by decide +kernel
theorem dX3_reckonConviction_129 : decode cX3_reckonConviction 129 = .ok (.iload 6, 2) := by decide +kernel
theorem dX3_reckonConviction_131 : decode cX3_reckonConviction 131 = .ok (.ifCond .le 17, 3) := by decide +kernel
theorem dX3_reckonConviction_134 : decode cX3_reckonConviction 134 = .ok (.aload_n 0, 1) := by decide +kernel
theorem dX3_reckonConviction_135 : decode cX3_reckonConviction 135 = .ok (.getfield 19, 3) := by decide +kernel
theorem dX3_reckonConviction_138 : decode cX3_reckonConviction 138 = .ok (.iload_n 2, 1) := by decide +kernel
theorem dX3_reckonConviction_139 : decode cX3_reckonConviction 139 = .ok (.iload_n 3, 1) := by decide +kernel
theorem dX3_reckonConviction_140 : decode cX3_reckonConviction 140 = .ok (.iload 6, 2) := by decide +kernel
theorem dX3_reckonConviction_142 : decode cX3_reckonConviction 142 = .ok (.iload_n 1, 1) := by decide +kernel
theorem dX3_reckonConviction_143 : decode cX3_reckonConviction 143 = .ok (.iload_n 3, 1) := by decide +kernel
theorem dX3_reckonConviction_144 : decode cX3_reckonConviction 144 = .ok (.iconst 0, 1) := by decide +kernel
theorem dX3_reckonConviction_145 : decode cX3_reckonConviction 145 = .ok (.invokevirtual 101, 3) := by decide +kernel
theorem dX3_reckonConviction_148 : decode cX3_reckonConviction 148 = .ok (.aload_n 0, 1) := by decide +kernel
theorem dX3_reckonConviction_149 : decode cX3_reckonConviction 149 = .ok (.getfield 15, 3) := by decide +kernel
theorem dX3_reckonConviction_152 : decode cX3_reckonConviction 152 = .ok (.getfield 105, 3) := by decide +kernel
theorem dX3_reckonConviction_155 : decode cX3_reckonConviction 155 = .ok (.iload_n 1, 1) := by decide +kernel
theorem dX3_reckonConviction_156 : decode cX3_reckonConviction 156 = .ok (.iaload, 1) := by decide +kernel
theorem dX3_reckonConviction_157 : decode cX3_reckonConviction 157 = .ok (.ifCond .ne 28, 3) := by decide +kernel
theorem dX3_reckonConviction_160 : decode cX3_reckonConviction 160 = .ok (.aload_n 0, 1) := by decide +kernel
theorem dX3_reckonConviction_161 : decode cX3_reckonConviction 161 = .ok (.iload_n 2, 1) := by decide +kernel
theorem dX3_reckonConviction_162 : decode cX3_reckonConviction 162 = .ok (.iload 4, 2) := by decide +kernel
theorem dX3_reckonConviction_164 : decode cX3_reckonConviction 164 = .ok (.invokevirtual 108, 3) := by decide +kernel
theorem dX3_reckonConviction_167 : decode cX3_reckonConviction 167 = .ok (.aload_n 0, 1) := by decide +kernel
theorem dX3_reckonConviction_168 : decode cX3_reckonConviction 168 = .ok (.getfield 9, 3) := by decide +kernel
theorem dX3_reckonConviction_171 : decode cX3_reckonConviction 171 = .ok (.iconst 1, 1) := by decide +kernel
theorem dX3_reckonConviction_172 : decode cX3_reckonConviction 172 = .ok (.invokevirtual 111, 3) := by decide +kernel
theorem dX3_reckonConviction_175 : decode cX3_reckonConviction 175 = .ok (.if_icmp .lt 10, 3) := by decide +kernel
theorem dX3_reckonConviction_178 : decode cX3_reckonConviction 178 = .ok (.aload_n 0, 1) := by decide +kernel
theorem dX3_reckonConviction_179 : decode cX3_reckonConviction 179 = .ok (.iload_n 2, 1) := by decide +kernel
theorem dX3_reckonConviction_180 : decode cX3_reckonConviction 180 = .ok (.iload_n 1, 1) := by decide +kernel
theorem dX3_reckonConviction_181 : decode cX3_reckonConviction 181 = .ok (.iload_n 3, 1) := by decide +kernel
theorem dX3_reckonConviction_182 : decode cX3_reckonConviction 182 = .ok (.invokevirtual 114, 3) := by decide +kernel
theorem dX3_reckonConviction_185 : decode cX3_reckonConviction 185 = .ok (.return_, 1) := by decide +kernel
theorem dX3_giveGreatBan_0 : decode cX3_giveGreatBan 0 = .ok (.aload_n 0, 1) := by decide +kernel
theorem dX3_giveGreatBan_1 : decode cX3_giveGreatBan 1 = .ok (.getfield 19, 3) := by decide +kernel
theorem dX3_giveGreatBan_4 : decode cX3_giveGreatBan 4 = .ok (.iload_n 1, 1) := by decide +kernel
theorem dX3_giveGreatBan_5 : decode cX3_giveGreatBan 5 = .ok (.iload_n 3, 1) := by decide +kernel
theorem dX3_giveGreatBan_6 : decode cX3_giveGreatBan 6 = .ok (.aload_n 0, 1) := by decide +kernel
theorem dX3_giveGreatBan_7 : decode cX3_giveGreatBan 7 = .ok (.getfield 9, 3) := by decide +kernel
theorem dX3_giveGreatBan_10 : decode cX3_giveGreatBan 10 = .ok (.iconst 3, 1) := by decide +kernel
theorem dX3_giveGreatBan_11 : decode cX3_giveGreatBan 11 = .ok (.invokevirtual 111, 3) := by decide +kernel
theorem dX3_giveGreatBan_14 : decode cX3_giveGreatBan 14 = .ok (.isub, 1) := by decide +kernel
theorem dX3_giveGreatBan_15 : decode cX3_giveGreatBan 15 = .ok (.invokevirtual 118, 3) := by decide +kernel
theorem dX3_giveGreatBan_18 : decode cX3_giveGreatBan 18 = .ok (.istore 4, 2) := by decide +kernel
theorem dX3_giveGreatBan_20 : decode cX3_giveGreatBan 20 = .ok (.iload 4, 2) := by decide +kernel
theorem dX3_giveGreatBan_22 : decode cX3_giveGreatBan 22 = .ok (.ifCond .ne 7, 3) := by decide +kernel
theorem dX3_giveGreatBan_25 : decode cX3_giveGreatBan 25 = .ok (.iconst 1, 1) := by decide +kernel
theorem dX3_giveGreatBan_26 : decode cX3_giveGreatBan 26 = .ok (.goto 14, 3) := by decide +kernel
theorem dX3_giveGreatBan_29 : decode cX3_giveGreatBan 29 = .ok (.iload 4, 2) := by decide +kernel
theorem dX3_giveGreatBan_31 : decode cX3_giveGreatBan 31 = .ok (.iconst 1, 1) := by decide +kernel
theorem dX3_giveGreatBan_32 : decode cX3_giveGreatBan 32 = .ok (.if_icmp .ne 7, 3) := by decide +kernel
theorem dX3_giveGreatBan_35 : decode cX3_giveGreatBan 35 = .ok (.iconst 2, 1) := by decide +kernel
theorem dX3_giveGreatBan_36 : decode cX3_giveGreatBan 36 = .ok (.goto 4, 3) := by decide +kernel
theorem dX3_giveGreatBan_39 : decode cX3_giveGreatBan 39 = .ok (.iconst 4, 1) := by decide +kernel
theorem dX3_giveGreatBan_40 : decode cX3_giveGreatBan 40 = .ok (.istore 5, 2) := by decide +kernel
theorem dX3_giveGreatBan_42 : decode cX3_giveGreatBan 42 = .ok (.iload_n 3, 1) := by decide +kernel
theorem dX3_giveGreatBan_43 : decode cX3_giveGreatBan 43 = .ok (.aload_n 0, 1) := by decide +kernel
theorem dX3_giveGreatBan_44 : decode cX3_giveGreatBan 44 = .ok (.getfield 19, 3) := by decide +kernel
theorem dX3_giveGreatBan_47 : decode cX3_giveGreatBan 47 = .ok (.iload_n 1, 1) := by decide +kernel
theorem dX3_giveGreatBan_48 : decode cX3_giveGreatBan 48 = .ok (.invokevirtual 121, 3) := by decide +kernel
theorem dX3_giveGreatBan_51 : decode cX3_giveGreatBan 51 = .ok (.iconst 1, 1) := by decide +kernel
theorem dX3_giveGreatBan_52 : decode cX3_giveGreatBan 52 = .ok (.iadd, 1) := by decide +kernel
theorem dX3_giveGreatBan_53 : decode cX3_giveGreatBan 53 = .ok (.invokestatic 124, 3) := by decide +kernel
theorem dX3_giveGreatBan_56 : decode cX3_giveGreatBan 56 = .ok (.istore 6, 2) := by decide +kernel
theorem dX3_giveGreatBan_58 : decode cX3_giveGreatBan 58 = .ok (.aload_n 0, 1) := by decide +kernel
theorem dX3_giveGreatBan_59 : decode cX3_giveGreatBan 59 = .ok (.getfield 19, 3) := by decide +kernel
theorem dX3_giveGreatBan_62 : decode cX3_giveGreatBan 62 = .ok (.iload_n 1, 1) := by decide +kernel
theorem dX3_giveGreatBan_63 : decode cX3_giveGreatBan 63 = .ok (.iload 6, 2) := by decide +kernel
theorem dX3_giveGreatBan_65 : decode cX3_giveGreatBan 65 = .ok (.iload 5, 2) := by decide +kernel
theorem dX3_giveGreatBan_67 : decode cX3_giveGreatBan 67 = .ok (.aload_n 0, 1) := by decide +kernel
theorem dX3_giveGreatBan_68 : decode cX3_giveGreatBan 68 = .ok (.getfield 9, 3) := by decide +kernel
theorem dX3_giveGreatBan_71 : decode cX3_giveGreatBan 71 = .ok (.iconst 2, 1) := by decide +kernel
theorem dX3_giveGreatBan_72 : decode cX3_giveGreatBan 72 = .ok (.invokevirtual 111, 3) := by decide +kernel
theorem dX3_giveGreatBan_75 : decode cX3_giveGreatBan 75 = .ok (.imul, 1) := by decide +kernel
theorem dX3_giveGreatBan_76 : decode cX3_giveGreatBan 76 = .ok (.iload_n 2, 1) := by decide +kernel
theorem dX3_giveGreatBan_77 : decode cX3_giveGreatBan 77 = .ok (.iload_n 3, 1) := by decide +kernel
theorem dX3_giveGreatBan_78 : decode cX3_giveGreatBan 78 = .ok (.iconst 1, 1) := by decide +kernel
theorem dX3_giveGreatBan_79 : decode cX3_giveGreatBan 79 = .ok (.invokevirtual 101, 3) := by decide +kernel
theorem dX3_giveGreatBan_82 : decode cX3_giveGreatBan 82 = .ok (.aload_n 0, 1) := by decide +kernel
theorem dX3_giveGreatBan_83 : decode cX3_giveGreatBan 83 = .ok (.getfield 15, 3) := by decide +kernel
theorem dX3_giveGreatBan_86 : decode cX3_giveGreatBan 86 = .ok (.iload_n 1, 1) := by decide +kernel
theorem dX3_giveGreatBan_87 : decode cX3_giveGreatBan 87 = .ok (.aload_n 0, 1) := by decide +kernel
theorem dX3_giveGreatBan_88 : decode cX3_giveGreatBan 88 = .ok (.getfield 29, 3) := by decide +kernel
theorem dX3_giveGreatBan_91 : decode cX3_giveGreatBan 91 = .ok (.invokevirtual 129, 3) := by decide +kernel
theorem dX3_giveGreatBan_94 : decode cX3_giveGreatBan 94 = .ok (.return_, 1) := by decide +kernel
theorem dX3_heaviest_0 : decode cX3_heaviest 0 = .ok (.aload_n 0, 1) := by decide +kernel
theorem dX3_heaviest_1 : decode cX3_heaviest 1 = .ok (.getfield 9, 3) := by decide +kernel
theorem dX3_heaviest_4 : decode cX3_heaviest 4 = .ok (.iconst 0, 1) := by decide +kernel
theorem dX3_heaviest_5 : decode cX3_heaviest 5 = .ok (.invokevirtual 111, 3) := by decide +kernel
theorem dX3_heaviest_8 : decode cX3_heaviest 8 = .ok (.istore_n 3, 1) := by decide +kernel
theorem dX3_heaviest_9 : decode cX3_heaviest 9 = .ok (.iload_n 2, 1) := by decide +kernel
theorem dX3_heaviest_10 : decode cX3_heaviest 10 = .ok (.iload_n 3, 1) := by decide +kernel
theorem dX3_heaviest_11 : decode cX3_heaviest 11 = .ok (.isub, 1) := by decide +kernel
theorem dX3_heaviest_12 : decode cX3_heaviest 12 = .ok (.iconst 1, 1) := by decide +kernel
theorem dX3_heaviest_13 : decode cX3_heaviest 13 = .ok (.iadd, 1) := by decide +kernel
theorem dX3_heaviest_14 : decode cX3_heaviest 14 = .ok (.istore 4, 2) := by decide +kernel
theorem dX3_heaviest_16 : decode cX3_heaviest 16 = .ok (.aload_n 0, 1) := by decide +kernel
theorem dX3_heaviest_17 : decode cX3_heaviest 17 = .ok (.getfield 15, 3) := by decide +kernel
theorem dX3_heaviest_20 : decode cX3_heaviest 20 = .ok (.iload_n 1, 1) := by decide +kernel
theorem dX3_heaviest_21 : decode cX3_heaviest 21 = .ok (.aload_n 0, 1) := by decide +kernel
theorem dX3_heaviest_22 : decode cX3_heaviest 22 = .ok (.getfield 29, 3) := by decide +kernel
theorem dX3_heaviest_25 : decode cX3_heaviest 25 = .ok (.iload 4, 2) := by decide +kernel
theorem dX3_heaviest_27 : decode cX3_heaviest 27 = .ok (.iload_n 3, 1) := by decide +kernel
theorem dX3_heaviest_28 : decode cX3_heaviest 28 = .ok (.invokevirtual 132, 3) := by decide +kernel
theorem dX3_heaviest_31 : decode cX3_heaviest 31 = .ok (.istore 5, 2) := by decide +kernel
theorem dX3_heaviest_33 : decode cX3_heaviest 33 = .ok (.iconst 0, 1) := by decide +kernel
theorem dX3_heaviest_34 : decode cX3_heaviest 34 = .ok (.istore 6, 2) := by decide +kernel
theorem dX3_heaviest_36 : decode cX3_heaviest 36 = .ok (.iload 6, 2) := by decide +kernel
theorem dX3_heaviest_38 : decode cX3_heaviest 38 = .ok (.aload_n 0, 1) := by decide +kernel
theorem dX3_heaviest_39 : decode cX3_heaviest 39 = .ok (.getfield 29, 3) := by decide +kernel
theorem dX3_heaviest_42 : decode cX3_heaviest 42 = .ok (.if_icmp .ge 109, 3) := by decide +kernel
theorem dX3_heaviest_45 : decode cX3_heaviest 45 = .ok (.iload 6, 2) := by decide +kernel
theorem dX3_heaviest_47 : decode cX3_heaviest 47 = .ok (.bipush 41, 2) := by decide +kernel
theorem dX3_heaviest_49 : decode cX3_heaviest 49 = .ok (.if_icmp .ge 102, 3) := by decide +kernel
theorem dX3_heaviest_52 : decode cX3_heaviest 52 = .ok (.aload_n 0, 1) := by decide +kernel
theorem dX3_heaviest_53 : decode cX3_heaviest 53 = .ok (.getfield 15, 3) := by decide +kernel
theorem dX3_heaviest_56 : decode cX3_heaviest 56 = .ok (.getfield 46, 3) := by decide +kernel
theorem dX3_heaviest_59 : decode cX3_heaviest 59 = .ok (.iload 6, 2) := by decide +kernel
theorem dX3_heaviest_61 : decode cX3_heaviest 61 = .ok (.iaload, 1) := by decide +kernel
theorem dX3_heaviest_62 : decode cX3_heaviest 62 = .ok (.ifCond .ne 20, 3) := by decide +kernel
theorem dX3_heaviest_65 : decode cX3_heaviest 65 = .ok (.aload_n 0, 1) := by decide +kernel
theorem dX3_heaviest_66 : decode cX3_heaviest 66 = .ok (.getfield 15, 3) := by decide +kernel
theorem dX3_heaviest_69 : decode cX3_heaviest 69 = .ok (.getfield 76, 3) := by decide +kernel
theorem dX3_heaviest_72 : decode cX3_heaviest 72 = .ok (.iload 6, 2) := by decide +kernel
theorem dX3_heaviest_74 : decode cX3_heaviest 74 = .ok (.iaload, 1) := by decide +kernel
theorem dX3_heaviest_75 : decode cX3_heaviest 75 = .ok (.iload_n 3, 1) := by decide +kernel
theorem dX3_heaviest_76 : decode cX3_heaviest 76 = .ok (.isub, 1) := by decide +kernel
theorem dX3_heaviest_77 : decode cX3_heaviest 77 = .ok (.iconst 1, 1) := by decide +kernel
theorem dX3_heaviest_78 : decode cX3_heaviest 78 = .ok (.iadd, 1) := by decide +kernel
theorem dX3_heaviest_79 : decode cX3_heaviest 79 = .ok (.goto 15, 3) := by decide +kernel
theorem dX3_heaviest_82 : decode cX3_heaviest 82 = .ok (.aload_n 0, 1) := by decide +kernel
theorem dX3_heaviest_83 : decode cX3_heaviest 83 = .ok (.getfield 15, 3) := by decide +kernel
theorem dX3_heaviest_86 : decode cX3_heaviest 86 = .ok (.getfield 59, 3) := by decide +kernel
theorem dX3_heaviest_89 : decode cX3_heaviest 89 = .ok (.iload 6, 2) := by decide +kernel
theorem dX3_heaviest_91 : decode cX3_heaviest 91 = .ok (.iaload, 1) := by decide +kernel
theorem dX3_heaviest_92 : decode cX3_heaviest 92 = .ok (.iconst 1, 1) := by decide +kernel
theorem dX3_heaviest_93 : decode cX3_heaviest 93 = .ok (.iadd, 1) := by decide +kernel
theorem dX3_heaviest_94 : decode cX3_heaviest 94 = .ok (.istore 7, 2) := by decide +kernel
theorem dX3_heaviest_96 : decode cX3_heaviest 96 = .ok (.aload_n 0, 1) := by decide +kernel
theorem dX3_heaviest_97 : decode cX3_heaviest 97 = .ok (.getfield 15, 3) := by decide +kernel
theorem dX3_heaviest_100 : decode cX3_heaviest 100 = .ok (.getfield 62, 3) := by decide +kernel
theorem dX3_heaviest_103 : decode cX3_heaviest 103 = .ok (.iload 6, 2) := by decide +kernel
theorem dX3_heaviest_105 : decode cX3_heaviest 105 = .ok (.iaload, 1) := by decide +kernel
theorem dX3_heaviest_106 : decode cX3_heaviest 106 = .ok (.iload_n 1, 1) := by decide +kernel
theorem dX3_heaviest_107 : decode cX3_heaviest 107 = .ok (.if_icmp .ne 38, 3) := by decide +kernel
theorem dX3_heaviest_110 : decode cX3_heaviest 110 = .ok (.iload 7, 2) := by decide +kernel
theorem dX3_heaviest_112 : decode cX3_heaviest 112 = .ok (.iload 4, 2) := by decide +kernel
theorem dX3_heaviest_114 : decode cX3_heaviest 114 = .ok (.if_icmp .le 31, 3) := by decide +kernel
theorem dX3_heaviest_117 : decode cX3_heaviest 117 = .ok (.iload 7, 2) := by decide +kernel
theorem dX3_heaviest_119 : decode cX3_heaviest 119 = .ok (.iload_n 2, 1) := by decide +kernel
theorem dX3_heaviest_120 : decode cX3_heaviest 120 = .ok (.if_icmp .gt 25, 3) := by decide +kernel
theorem dX3_heaviest_123 : decode cX3_heaviest 123 = .ok (.iload 5, 2) := by decide +kernel
theorem dX3_heaviest_125 : decode cX3_heaviest 125 = .ok (.aload_n 0, 1) := by decide +kernel
theorem dX3_heaviest_126 : decode cX3_heaviest 126 = .ok (.getfield 15, 3) := by decide +kernel
theorem dX3_heaviest_129 : decode cX3_heaviest 129 = .ok (.iload_n 1, 1) := by decide +kernel
theorem dX3_heaviest_130 : decode cX3_heaviest 130 = .ok (.aload_n 0, 1) := by decide +kernel
theorem dX3_heaviest_131 : decode cX3_heaviest 131 = .ok (.getfield 29, 3) := by decide +kernel
theorem dX3_heaviest_134 : decode cX3_heaviest 134 = .ok (.iload 7, 2) := by decide +kernel
theorem dX3_heaviest_136 : decode cX3_heaviest 136 = .ok (.iload_n 3, 1) := by decide +kernel
theorem dX3_heaviest_137 : decode cX3_heaviest 137 = .ok (.invokevirtual 132, 3) := by decide +kernel
theorem dX3_heaviest_140 : decode cX3_heaviest 140 = .ok (.invokestatic 124, 3) := by decide +kernel
theorem dX3_heaviest_143 : decode cX3_heaviest 143 = .ok (.istore 5, 2) := by decide +kernel
theorem dX3_heaviest_145 : decode cX3_heaviest 145 = .ok (.iinc 6 1, 3) := by decide +kernel
theorem dX3_heaviest_148 : decode cX3_heaviest 148 = .ok (.goto (-112), 3) := by decide +kernel
theorem dX3_heaviest_151 : decode cX3_heaviest 151 = .ok (.iload 5, 2) := by decide +kernel
theorem dX3_heaviest_153 : decode cX3_heaviest 153 = .ok (.ireturn, 1) := by decide +kernel
theorem dX4_add_0 : decode cX4_add 0 = .ok (.aload_n 0, 1) := by decide +kernel
theorem dX4_add_1 : decode cX4_add 1 = .ok (.getfield 15, 3) := by decide +kernel
theorem dX4_add_4 : decode cX4_add 4 = .ok (.ifCond .lt 13, 3) := by decide +kernel
theorem dX4_add_7 : decode cX4_add 7 = .ok (.aload_n 0, 1) := by decide +kernel
theorem dX4_add_8 : decode cX4_add 8 = .ok (.getfield 15, 3) := by decide +kernel
theorem dX4_add_11 : decode cX4_add 11 = .ok (.sipush 200, 3) := by decide +kernel
theorem dX4_add_14 : decode cX4_add 14 = .ok (.if_icmp .lt 5, 3) := by decide +kernel
theorem dX4_add_17 : decode cX4_add 17 = .ok (.iconst 0, 1) := by decide +kernel
theorem dX4_add_18 : decode cX4_add 18 = .ok (.ireturn, 1) := by decide +kernel
theorem dX4_add_19 : decode cX4_add 19 = .ok (.aload_n 0, 1) := by decide +kernel
theorem dX4_add_20 : decode cX4_add 20 = .ok (.getfield 9, 3) := by decide +kernel
theorem dX4_add_23 : decode cX4_add 23 = .ok (.aload_n 0, 1) := by decide +kernel
theorem dX4_add_24 : decode cX4_add 24 = .ok (.getfield 15, 3) := by decide +kernel
theorem dX4_add_27 : decode cX4_add 27 = .ok (.iload_n 1, 1) := by decide +kernel
theorem dX4_add_28 : decode cX4_add 28 = .ok (.iastore, 1) := by decide +kernel
theorem dX4_add_29 : decode cX4_add 29 = .ok (.aload_n 0, 1) := by decide +kernel
theorem dX4_add_30 : decode cX4_add 30 = .ok (.dup, 1) := by decide +kernel
theorem dX4_add_31 : decode cX4_add 31 = .ok (.getfield 15, 3) := by decide +kernel
theorem dX4_add_34 : decode cX4_add 34 = .ok (.iconst 1, 1) := by decide +kernel
theorem dX4_add_35 : decode cX4_add 35 = .ok (.iadd, 1) := by decide +kernel
theorem dX4_add_36 : decode cX4_add 36 = .ok (.putfield 15, 3) := by decide +kernel
theorem dX4_add_39 : decode cX4_add 39 = .ok (.iconst 1, 1) := by decide +kernel
theorem dX4_add_40 : decode cX4_add 40 = .ok (.ireturn, 1) := by decide +kernel
theorem dX4_clear_0 : decode cX4_clear 0 = .ok (.aload_n 0, 1) := by decide +kernel
theorem dX4_clear_1 : decode cX4_clear 1 = .ok (.iconst 0, 1) := by decide +kernel
theorem dX4_clear_2 : decode cX4_clear 2 = .ok (.putfield 15, 3) := by decide +kernel
theorem dX4_clear_5 : decode cX4_clear 5 = .ok (.return_, 1) := by decide +kernel
theorem dX4_readInto_0 : decode cX4_readInto 0 = .ok (.aload_n 1, 1) := by decide +kernel
theorem dX4_readInto_1 : decode cX4_readInto 1 = .ok (.invokevirtual 19, 3) := by decide +kernel
theorem dX4_readInto_4 : decode cX4_readInto 4 = .ok (.aload_n 0, 1) := by decide +kernel
theorem dX4_readInto_5 : decode cX4_readInto 5 = .ok (.iconst 0, 1) := by decide +kernel
theorem dX4_readInto_6 : decode cX4_readInto 6 = .ok (.putfield 24, 3) := by decide +kernel
theorem dX4_readInto_9 : decode cX4_readInto 9 = .ok (.aload_n 0, 1) := by decide +kernel
theorem dX4_readInto_10 : decode cX4_readInto 10 = .ok (.iconst 0, 1) := by decide +kernel
theorem dX4_readInto_11 : decode cX4_readInto 11 = .ok (.putfield 27, 3) := by decide +kernel
theorem dX4_readInto_14 : decode cX4_readInto 14 = .ok (.iconst 0, 1) := by decide +kernel
theorem dX4_readInto_15 : decode cX4_readInto 15 = .ok (.istore_n 2, 1) := by decide +kernel
theorem dX4_readInto_16 : decode cX4_readInto 16 = .ok (.iload_n 2, 1) := by decide +kernel
theorem dX4_readInto_17 : decode cX4_readInto 17 = .ok (.sipush 200, 3) := by decide +kernel
theorem dX4_readInto_20 : decode cX4_readInto 20 = .ok (.if_icmp .ge 40, 3) := by decide +kernel
theorem dX4_readInto_23 : decode cX4_readInto 23 = .ok (.aload_n 0, 1) := by decide +kernel
theorem dX4_readInto_24 : decode cX4_readInto 24 = .ok (.getfield 24, 3) := by decide +kernel
theorem dX4_readInto_27 : decode cX4_readInto 27 = .ok (.aload_n 0, 1) := by decide +kernel
theorem dX4_readInto_28 : decode cX4_readInto 28 = .ok (.getfield 15, 3) := by decide +kernel
theorem dX4_readInto_31 : decode cX4_readInto 31 = .ok (.if_icmp .ge 29, 3) := by decide +kernel
theorem dX4_readInto_34 : decode cX4_readInto 34 = .ok (.aload_n 0, 1) := by decide +kernel
theorem dX4_readInto_35 : decode cX4_readInto 35 = .ok (.getfield 27, 3) := by decide +kernel
theorem dX4_readInto_38 : decode cX4_readInto 38 = .ok (.ifCond .ne 22, 3) := by decide +kernel
theorem dX4_readInto_41 : decode cX4_readInto 41 = .ok (.aload_n 0, 1) := by decide +kernel
theorem dX4_readInto_42 : decode cX4_readInto 42 = .ok (.aload_n 0, 1) := by decide +kernel
theorem dX4_readInto_43 : decode cX4_readInto 43 = .ok (.getfield 24, 3) := by decide +kernel
theorem dX4_readInto_46 : decode cX4_readInto 46 = .ok (.putfield 30, 3) := by decide +kernel
theorem dX4_readInto_49 : decode cX4_readInto 49 = .ok (.aload_n 0, 1) := by decide +kernel
theorem dX4_readInto_50 : decode cX4_readInto 50 = .ok (.aload_n 1, 1) := by decide +kernel
theorem dX4_readInto_51 : decode cX4_readInto 51 = .ok (.invokevirtual 33, 3) := by decide +kernel
theorem dX4_readInto_54 : decode cX4_readInto 54 = .ok (.iinc 2 1, 3) := by decide +kernel
theorem dX4_readInto_57 : decode cX4_readInto 57 = .ok (.goto (-41), 3) := by decide +kernel
theorem dX4_readInto_60 : decode cX4_readInto 60 = .ok (.return_, 1) := by decide +kernel
theorem dX4_readItem_0 : decode cX4_readItem 0 = .ok (.aload_n 0, 1) := by decide +kernel
theorem dX4_readItem_1 : decode cX4_readItem 1 = .ok (.invokevirtual 37, 3) := by decide +kernel
theorem dX4_readItem_4 : decode cX4_readItem 4 = .ok (.istore_n 2, 1) := by decide +kernel
theorem dX4_readItem_5 : decode cX4_readItem 5 = .ok (.aload_n 0, 1) := by decide +kernel
theorem dX4_readItem_6 : decode cX4_readItem 6 = .ok (.dup, 1) := by decide +kernel
theorem dX4_readItem_7 : decode cX4_readItem 7 = .ok (.getfield 24, 3) := by decide +kernel
theorem dX4_readItem_10 : decode cX4_readItem 10 = .ok (.iconst 1, 1) := by decide +kernel
theorem dX4_readItem_11 : decode cX4_readItem 11 = .ok (.iadd, 1) := by decide +kernel
theorem dX4_readItem_12 : decode cX4_readItem 12 = .ok (.putfield 24, 3) := by decide +kernel
theorem dX4_readItem_15 : decode cX4_readItem 15 = .ok (.iload_n 2, 1) := by decide +kernel
theorem dX4_readItem_16 : decode cX4_readItem 16 = .ok (.lookupswitch 125 #[(98, 80), (107, 117), (108, 70), (109, 90), (115, 100), (119, 60)], 60) := by decide +kernel
theorem dX4_readItem_76 : decode cX4_readItem 76 = .ok (.aload_n 0, 1) := by decide +kernel
theorem dX4_readItem_77 : decode cX4_readItem 77 = .ok (.aload_n 1, 1) := by decide +kernel
theorem dX4_readItem_78 : decode cX4_readItem 78 = .ok (.iconst 0, 1) := by decide +kernel
theorem dX4_readItem_79 : decode cX4_readItem 79 = .ok (.iconst 3, 1) := by decide +kernel
theorem dX4_readItem_80 : decode cX4_readItem 80 = .ok (.invokevirtual 41, 3) := by decide +kernel
theorem dX4_readItem_83 : decode cX4_readItem 83 = .ok (.goto 63, 3) := by decide +kernel
theorem dX4_readItem_86 : decode cX4_readItem 86 = .ok (.aload_n 0, 1) := by decide +kernel
theorem dX4_readItem_87 : decode cX4_readItem 87 = .ok (.aload_n 1, 1) := by decide +kernel
theorem dX4_readItem_88 : decode cX4_readItem 88 = .ok (.iconst 1, 1) := by decide +kernel
theorem dX4_readItem_89 : decode cX4_readItem 89 = .ok (.iconst 2, 1) := by decide +kernel
theorem dX4_readItem_90 : decode cX4_readItem 90 = .ok (.invokevirtual 41, 3) := by decide +kernel
theorem dX4_readItem_93 : decode cX4_readItem 93 = .ok (.goto 53, 3) := by decide +kernel
theorem dX4_readItem_96 : decode cX4_readItem 96 = .ok (.aload_n 0, 1) := by decide +kernel
theorem dX4_readItem_97 : decode cX4_readItem 97 = .ok (.aload_n 1, 1) := by decide +kernel
theorem dX4_readItem_98 : decode cX4_readItem 98 = .ok (.iconst 2, 1) := by decide +kernel
theorem dX4_readItem_99 : decode cX4_readItem 99 = .ok (.iconst 2, 1) := by decide +kernel
theorem dX4_readItem_100 : decode cX4_readItem 100 = .ok (.invokevirtual 41, 3) := by decide +kernel
theorem dX4_readItem_103 : decode cX4_readItem 103 = .ok (.goto 43, 3) := by decide +kernel
theorem dX4_readItem_106 : decode cX4_readItem 106 = .ok (.aload_n 0, 1) := by decide +kernel
theorem dX4_readItem_107 : decode cX4_readItem 107 = .ok (.aload_n 1, 1) := by decide +kernel
theorem dX4_readItem_108 : decode cX4_readItem 108 = .ok (.iconst 3, 1) := by decide +kernel
theorem dX4_readItem_109 : decode cX4_readItem 109 = .ok (.iconst 3, 1) := by decide +kernel
theorem dX4_readItem_110 : decode cX4_readItem 110 = .ok (.invokevirtual 41, 3) := by decide +kernel
theorem dX4_readItem_113 : decode cX4_readItem 113 = .ok (.goto 33, 3) := by decide +kernel
theorem dX4_readItem_116 : decode cX4_readItem 116 = .ok (.aload_n 0, 1) := by decide +kernel
theorem dX4_readItem_117 : decode cX4_readItem 117 = .ok (.aload_n 1, 1) := by decide +kernel
theorem dX4_readItem_118 : decode cX4_readItem 118 = .ok (.iconst 4, 1) := by decide +kernel
theorem dX4_readItem_119 : decode cX4_readItem 119 = .ok (.iconst 3, 1) := by decide +kernel
theorem dX4_readItem_120 : decode cX4_readItem 120 = .ok (.invokevirtual 41, 3) := by decide +kernel
theorem dX4_readItem_123 : decode cX4_readItem 123 = .ok (.aload_n 0, 1) := by decide +kernel
theorem dX4_readItem_124 : decode cX4_readItem 124 = .ok (.aload_n 1, 1) := by decide +kernel
theorem dX4_readItem_125 : decode cX4_readItem 125 = .ok (.iconst 5, 1) := by decide +kernel
theorem dX4_readItem_126 : decode cX4_readItem 126 = .ok (.iconst 3, 1) := by decide +kernel
theorem dX4_readItem_127 : decode cX4_readItem 127 = .ok (.invokevirtual 41, 3) := by decide +kernel
theorem dX4_readItem_130 : decode cX4_readItem 130 = .ok (.goto 16, 3) := by decide +kernel
theorem dX4_readItem_133 : decode cX4_readItem 133 = .ok (.aload_n 0, 1) := by decide +kernel
theorem dX4_readItem_134 : decode cX4_readItem 134 = .ok (.aload_n 1, 1) := by decide +kernel
theorem dX4_readItem_135 : decode cX4_readItem 135 = .ok (.invokevirtual 45, 3) := by decide +kernel
theorem dX4_readItem_138 : decode cX4_readItem 138 = .ok (.goto 8, 3) := by decide +kernel
theorem dX4_readItem_141 : decode cX4_readItem 141 = .ok (.aload_n 0, 1) := by decide +kernel
theorem dX4_readItem_142 : decode cX4_readItem 142 = .ok (.iconst 3, 1) := by decide +kernel
theorem dX4_readItem_143 : decode cX4_readItem 143 = .ok (.putfield 27, 3) := by decide +kernel
theorem dX4_readItem_146 : decode cX4_readItem 146 = .ok (.aload_n 0, 1) := by decide +kernel
theorem dX4_readItem_147 : decode cX4_readItem 147 = .ok (.invokevirtual 48, 3) := by decide +kernel
theorem dX4_readItem_150 : decode cX4_readItem 150 = .ok (.return_, 1) := by decide +kernel
theorem dX4_peek_0 : decode cX4_peek 0 = .ok (.aload_n 0, 1) := by decide +kernel
theorem dX4_peek_1 : decode cX4_peek 1 = .ok (.getfield 24, 3) := by decide +kernel
theorem dX4_peek_4 : decode cX4_peek 4 = .ok (.ifCond .lt 36, 3) := by decide +kernel
theorem dX4_peek_7 : decode cX4_peek 7 = .ok (.aload_n 0, 1) := by decide +kernel
theorem dX4_peek_8 : decode cX4_peek 8 = .ok (.getfield 24, 3) := by decide +kernel
theorem dX4_peek_11 : decode cX4_peek 11 = .ok (.aload_n 0, 1) := by decide +kernel
theorem dX4_peek_12 : decode cX4_peek 12 = .ok (.getfield 15, 3) := by decide +kernel
theorem dX4_peek_15 : decode cX4_peek 15 = .ok (.if_icmp .ge 25, 3) := by decide +kernel
theorem dX4_peek_18 : decode cX4_peek 18 = .ok (.aload_n 0, 1) := by decide +kernel
theorem dX4_peek_19 : decode cX4_peek 19 = .ok (.getfield 24, 3) := by decide +kernel
theorem dX4_peek_22 : decode cX4_peek 22 = .ok (.sipush 200, 3) := by decide +kernel
theorem dX4_peek_25 : decode cX4_peek 25 = .ok (.if_icmp .ge 15, 3) := by decide +kernel
theorem dX4_peek_28 : decode cX4_peek 28 = .ok (.aload_n 0, 1) := by decide +kernel
theorem dX4_peek_29 : decode cX4_peek 29 = .ok (.getfield 9, 3) := by decide +kernel
theorem dX4_peek_32 : decode cX4_peek 32 = .ok (.aload_n 0, 1) := by decide +kernel
theorem dX4_peek_33 : decode cX4_peek 33 = .ok (.getfield 24, 3) := by decide +kernel
theorem dX4_peek_36 : decode cX4_peek 36 = .ok (.iaload, 1) := by decide +kernel
theorem dX4_peek_37 : decode cX4_peek 37 = .ok (.goto 4, 3) := by decide +kernel
theorem dX4_peek_40 : decode cX4_peek 40 = .ok (.iconst 0, 1) := by decide +kernel
theorem dX4_peek_41 : decode cX4_peek 41 = .ok (.ireturn, 1) := by decide +kernel
theorem dX4_readRule_0 : decode cX4_readRule 0 = .ok (.aload_n 0, 1) := by decide +kernel
theorem dX4_readRule_1 : decode cX4_readRule 1 = .ok (.iload_n 3, 1) := by decide +kernel
theorem dX4_readRule_2 : decode cX4_readRule 2 = .ok (.invokevirtual 51, 3) := by decide +kernel
theorem dX4_readRule_5 : decode cX4_readRule 5 = .ok (.istore 4, 2) := by decide +kernel
theorem dX4_readRule_7 : decode cX4_readRule 7 = .ok (.aload_n 0, 1) := by decide +kernel
theorem dX4_readRule_8 : decode cX4_readRule 8 = .ok (.getfield 27, 3) := by decide +kernel
theorem dX4_readRule_11 : decode cX4_readRule 11 = .ok (.ifCond .eq 4, 3) := by decide +kernel
theorem dX4_readRule_14 : decode cX4_readRule 14 = .ok (.return_, 1) := by decide +kernel
theorem dX4_readRule_15 : decode cX4_readRule 15 = .ok (.aload_n 1, 1) := by decide +kernel
theorem dX4_readRule_16 : decode cX4_readRule 16 = .ok (.iload_n 2, 1) := by decide +kernel
theorem dX4_readRule_17 : decode cX4_readRule 17 = .ok (.iload 4, 2) := by decide +kernel
theorem dX4_readRule_19 : decode cX4_readRule 19 = .ok (.invokevirtual 55, 3) := by decide +kernel
theorem dX4_readRule_22 : decode cX4_readRule 22 = .ok (.ifCond .eq 13, 3) := by decide +kernel
theorem dX4_readRule_25 : decode cX4_readRule 25 = .ok (.aload_n 1, 1) := by decide +kernel
theorem dX4_readRule_26 : decode cX4_readRule 26 = .ok (.iload_n 2, 1) := by decide +kernel
theorem dX4_readRule_27 : decode cX4_readRule 27 = .ok (.iload 4, 2) := by decide +kernel
theorem dX4_readRule_29 : decode cX4_readRule 29 = .ok (.invokevirtual 59, 3) := by decide +kernel
theorem dX4_readRule_32 : decode cX4_readRule 32 = .ok (.goto 8, 3) := by decide +kernel
theorem dX4_readRule_35 : decode cX4_readRule 35 = .ok (.aload_n 0, 1) := by decide +kernel
theorem dX4_readRule_36 : decode cX4_readRule 36 = .ok (.iconst 2, 1) := by decide +kernel
theorem dX4_readRule_37 : decode cX4_readRule 37 = .ok (.putfield 27, 3) := by decide +kernel
theorem dX4_readRule_40 : decode cX4_readRule 40 = .ok (.return_, 1) := by decide +kernel
theorem dX4_readCode_0 : decode cX4_readCode 0 = .ok (.aload_n 1, 1) := by decide +kernel
theorem dX4_readCode_1 : decode cX4_readCode 1 = .ok (.getfield 63, 3) := by decide +kernel
theorem dX4_readCode_4 : decode cX4_readCode 4 = .ok (.bipush 6, 2) := by decide +kernel
theorem dX4_readCode_6 : decode cX4_readCode 6 = .ok (.if_icmp .lt 9, 3) := by decide +kernel
theorem dX4_readCode_9 : decode cX4_readCode 9 = .ok (.aload_n 0, 1) := by decide +kernel
theorem dX4_readCode_10 : decode cX4_readCode 10 = .ok (.iconst 3, 1) := by decide +kernel
theorem dX4_readCode_11 : decode cX4_readCode 11 = .ok (.putfield 27, 3) := by decide +kernel
theorem dX4_readCode_14 : decode cX4_readCode 14 = .ok (.return_, 1) := by decide +kernel
theorem dX4_readCode_15 : decode cX4_readCode 15 = .ok (.aload_n 0, 1) := by decide +kernel
theorem dX4_readCode_16 : decode cX4_readCode 16 = .ok (.iconst 1, 1) := by decide +kernel
theorem dX4_readCode_17 : decode cX4_readCode 17 = .ok (.invokevirtual 51, 3) := by decide +kernel
theorem dX4_readCode_20 : decode cX4_readCode 20 = .ok (.istore_n 2, 1) := by decide +kernel
theorem dX4_readCode_21 : decode cX4_readCode 21 = .ok (.aload_n 0, 1) := by decide +kernel
theorem dX4_readCode_22 : decode cX4_readCode 22 = .ok (.getfield 27, 3) := by decide +kernel
theorem dX4_readCode_25 : decode cX4_readCode 25 = .ok (.ifCond .ne 12, 3) := by decide +kernel
theorem dX4_readCode_28 : decode cX4_readCode 28 = .ok (.iload_n 2, 1) := by decide +kernel
theorem dX4_readCode_29 : decode cX4_readCode 29 = .ok (.ifCond .ne 8, 3) := by decide +kernel
theorem dX4_readCode_32 : decode cX4_readCode 32 = .ok (.aload_n 0, 1) := by decide +kernel
theorem dX4_readCode_33 : decode cX4_readCode 33 = .ok (.iconst 2, 1) := by decide +kernel
theorem dX4_readCode_34 : decode cX4_readCode 34 = .ok (.putfield 27, 3) := by decide +kernel
theorem dX4_readCode_37 : decode cX4_readCode 37 = .ok (.aload_n 0, 1) := by decide +kernel
theorem dX4_readCode_38 : decode cX4_readCode 38 = .ok (.iconst 2, 1) := by decide +kernel
theorem dX4_readCode_39 : decode cX4_readCode 39 = .ok (.invokevirtual 51, 3) := by decide +kernel
theorem dX4_readCode_42 : decode cX4_readCode 42 = .ok (.istore_n 3, 1) := by decide +kernel
theorem dX4_readCode_43 : decode cX4_readCode 43 = .ok (.aload_n 0, 1) := by decide +kernel
theorem dX4_readCode_44 : decode cX4_readCode 44 = .ok (.getfield 27, 3) := by decide +kernel
theorem dX4_readCode_47 : decode cX4_readCode 47 = .ok (.ifCond .ne 9, 3) := by decide +kernel
theorem dX4_readCode_50 : decode cX4_readCode 50 = .ok (.aload_n 1, 1) := by decide +kernel
theorem dX4_readCode_51 : decode cX4_readCode 51 = .ok (.iload_n 2, 1) := by decide +kernel
theorem dX4_readCode_52 : decode cX4_readCode 52 = .ok (.iload_n 3, 1) := by decide +kernel
theorem dX4_readCode_53 : decode cX4_readCode 53 = .ok (.invokevirtual 66, 3) := by decide +kernel
theorem dX4_readCode_56 : decode cX4_readCode 56 = .ok (.return_, 1) := by decide +kernel
theorem dX4_readNumber_0 : decode cX4_readNumber 0 = .ok (.iconst 0, 1) := by decide +kernel
theorem dX4_readNumber_1 : decode cX4_readNumber 1 = .ok (.istore_n 2, 1) := by decide +kernel
theorem dX4_readNumber_2 : decode cX4_readNumber 2 = .ok (.iconst 0, 1) := by decide +kernel
theorem dX4_readNumber_3 : decode cX4_readNumber 3 = .ok (.istore_n 3, 1) := by decide +kernel
theorem dX4_readNumber_4 : decode cX4_readNumber 4 = .ok (.iload_n 3, 1) := by decide +kernel
theorem dX4_readNumber_5 : decode cX4_readNumber 5 = .ok (.iload_n 1, 1) := by decide +kernel
theorem dX4_readNumber_6 : decode cX4_readNumber 6 = .ok (.if_icmp .ge 65, 3) := by decide +kernel
theorem dX4_readNumber_9 : decode cX4_readNumber 9 = .ok (.aload_n 0, 1) := by decide +kernel
theorem dX4_readNumber_10 : decode cX4_readNumber 10 = .ok (.getfield 27, 3) := by decide +kernel
theorem dX4_readNumber_13 : decode cX4_readNumber 13 = .ok (.ifCond .ne 58, 3) := by decide +kernel
theorem dX4_readNumber_16 : decode cX4_readNumber 16 = .ok (.aload_n 0, 1) := by decide +kernel
theorem dX4_readNumber_17 : decode cX4_readNumber 17 = .ok (.invokevirtual 37, 3) := by decide +kernel
theorem dX4_readNumber_20 : decode cX4_readNumber 20 = .ok (.istore 4, 2) := by decide +kernel
theorem dX4_readNumber_22 : decode cX4_readNumber 22 = .ok (.iload 4, 2) := by decide +kernel
theorem dX4_readNumber_24 : decode cX4_readNumber 24 = .ok (.bipush 48, 2) := by decide +kernel
theorem dX4_readNumber_26 : decode cX4_readNumber 26 = .ok (.if_icmp .lt 10, 3) := by decide +kernel
theorem dX4_readNumber_29 : decode cX4_readNumber 29 = .ok (.iload 4, 2) := by decide +kernel
theorem dX4_readNumber_31 : decode cX4_readNumber 31 = .ok (.bipush 57, 2) := by decide +kernel
theorem dX4_readNumber_33 : decode cX4_readNumber 33 = .ok (.if_icmp .le 11, 3) := by decide +kernel
theorem dX4_readNumber_36 : decode cX4_readNumber 36 = .ok (.aload_n 0, 1) := by decide +kernel
theorem dX4_readNumber_37 : decode cX4_readNumber 37 = .ok (.iconst 1, 1) := by decide +kernel
theorem dX4_readNumber_38 : decode cX4_readNumber 38 = .ok (.putfield 27, 3) := by decide +kernel
theorem dX4_readNumber_41 : decode cX4_readNumber 41 = .ok (.goto 24, 3) := by decide +kernel
theorem dX4_readNumber_44 : decode cX4_readNumber 44 = .ok (.iload_n 2, 1) := by decide +kernel
theorem dX4_readNumber_45 : decode cX4_readNumber 45 = .ok (.bipush 10, 2) := by decide +kernel
theorem dX4_readNumber_47 : decode cX4_readNumber 47 = .ok (.imul, 1) := by decide +kernel
theorem dX4_readNumber_48 : decode cX4_readNumber 48 = .ok (.iload 4, 2) := by decide +kernel
theorem dX4_readNumber_50 : decode cX4_readNumber 50 = .ok (.iadd, 1) := by decide +kernel
theorem dX4_readNumber_51 : decode cX4_readNumber 51 = .ok (.bipush 48, 2) := by decide +kernel
theorem dX4_readNumber_53 : decode cX4_readNumber 53 = .ok (.isub, 1) := by decide +kernel
theorem dX4_readNumber_54 : decode cX4_readNumber 54 = .ok (.istore_n 2, 1) := by decide +kernel
theorem dX4_readNumber_55 : decode cX4_readNumber 55 = .ok (.aload_n 0, 1) := by decide +kernel
theorem dX4_readNumber_56 : decode cX4_readNumber 56 = .ok (.dup, 1) := by decide +kernel
theorem dX4_readNumber_57 : decode cX4_readNumber 57 = .ok (.getfield 24, 3) := by decide +kernel
theorem dX4_readNumber_60 : decode cX4_readNumber 60 = .ok (.iconst 1, 1) := by decide +kernel
theorem dX4_readNumber_61 : decode cX4_readNumber 61 = .ok (.iadd, 1) := by decide +kernel
theorem dX4_readNumber_62 : decode cX4_readNumber 62 = .ok (.putfield 24, 3) := by decide +kernel
theorem dX4_readNumber_65 : decode cX4_readNumber 65 = .ok (.iinc 3 1, 3) := by decide +kernel
theorem dX4_readNumber_68 : decode cX4_readNumber 68 = .ok (.goto (-64), 3) := by decide +kernel
theorem dX4_readNumber_71 : decode cX4_readNumber 71 = .ok (.iload_n 2, 1) := by decide +kernel
theorem dX4_readNumber_72 : decode cX4_readNumber 72 = .ok (.ireturn, 1) := by decide +kernel
theorem dX4_readEnd_0 : decode cX4_readEnd 0 = .ok (.aload_n 0, 1) := by decide +kernel
theorem dX4_readEnd_1 : decode cX4_readEnd 1 = .ok (.getfield 27, 3) := by decide +kernel
theorem dX4_readEnd_4 : decode cX4_readEnd 4 = .ok (.ifCond .eq 4, 3) := by decide +kernel
theorem dX4_readEnd_7 : decode cX4_readEnd 7 = .ok (.return_, 1) := by decide +kernel
theorem dX4_readEnd_8 : decode cX4_readEnd 8 = .ok (.aload_n 0, 1) := by decide +kernel
theorem dX4_readEnd_9 : decode cX4_readEnd 9 = .ok (.invokevirtual 37, 3) := by decide +kernel
theorem dX4_readEnd_12 : decode cX4_readEnd 12 = .ok (.bipush 59, 2) := by decide +kernel
theorem dX4_readEnd_14 : decode cX4_readEnd 14 = .ok (.if_icmp .ne 16, 3) := by decide +kernel
theorem dX4_readEnd_17 : decode cX4_readEnd 17 = .ok (.aload_n 0, 1) := by decide +kernel
theorem dX4_readEnd_18 : decode cX4_readEnd 18 = .ok (.dup, 1) := by decide +kernel
theorem dX4_readEnd_19 : decode cX4_readEnd 19 = .ok (.getfield 24, 3) := by decide +kernel
theorem dX4_readEnd_22 : decode cX4_readEnd 22 = .ok (.iconst 1, 1) := by decide +kernel
theorem dX4_readEnd_23 : decode cX4_readEnd 23 = .ok (.iadd, 1) := by decide +kernel
theorem dX4_readEnd_24 : decode cX4_readEnd 24 = .ok (.putfield 24, 3) := by decide +kernel
theorem dX4_readEnd_27 : decode cX4_readEnd 27 = .ok (.goto 8, 3) := by decide +kernel
theorem dX4_readEnd_30 : decode cX4_readEnd 30 = .ok (.aload_n 0, 1) := by decide +kernel
theorem dX4_readEnd_31 : decode cX4_readEnd 31 = .ok (.iconst 1, 1) := by decide +kernel
theorem dX4_readEnd_32 : decode cX4_readEnd 32 = .ok (.putfield 27, 3) := by decide +kernel
theorem dX4_readEnd_35 : decode cX4_readEnd 35 = .ok (.return_, 1) := by decide +kernel
theorem dX5_reset_0 : decode cX5_reset 0 = .ok (.iconst 0, 1) := by decide +kernel
theorem dX5_reset_1 : decode cX5_reset 1 = .ok (.istore_n 1, 1) := by decide +kernel
theorem dX5_reset_2 : decode cX5_reset 2 = .ok (.iload_n 1, 1) := by decide +kernel
theorem dX5_reset_3 : decode cX5_reset 3 = .ok (.bipush 6, 2) := by decide +kernel
theorem dX5_reset_5 : decode cX5_reset 5 = .ok (.if_icmp .ge 20, 3) := by decide +kernel
theorem dX5_reset_8 : decode cX5_reset 8 = .ok (.aload_n 0, 1) := by decide +kernel
theorem dX5_reset_9 : decode cX5_reset 9 = .ok (.getfield 9, 3) := by decide +kernel
theorem dX5_reset_12 : decode cX5_reset 12 = .ok (.iload_n 1, 1) := by decide +kernel
theorem dX5_reset_13 : decode cX5_reset 13 = .ok (.getstatic 21, 3) := by decide +kernel
theorem dX5_reset_16 : decode cX5_reset 16 = .ok (.iload_n 1, 1) := by decide +kernel
theorem dX5_reset_17 : decode cX5_reset 17 = .ok (.iaload, 1) := by decide +kernel
theorem dX5_reset_18 : decode cX5_reset 18 = .ok (.iastore, 1) := by decide +kernel
theorem dX5_reset_19 : decode cX5_reset 19 = .ok (.iinc 1 1, 3) := by decide +kernel
theorem dX5_reset_22 : decode cX5_reset 22 = .ok (.goto (-20), 3) := by decide +kernel
theorem dX5_reset_25 : decode cX5_reset 25 = .ok (.aload_n 0, 1) := by decide +kernel
theorem dX5_reset_26 : decode cX5_reset 26 = .ok (.iconst 0, 1) := by decide +kernel
theorem dX5_reset_27 : decode cX5_reset 27 = .ok (.putfield 24, 3) := by decide +kernel
theorem dX5_reset_30 : decode cX5_reset 30 = .ok (.return_, 1) := by decide +kernel
theorem dX5_copy_0 : decode cX5_copy 0 = .ok (.iconst 0, 1) := by decide +kernel
theorem dX5_copy_1 : decode cX5_copy 1 = .ok (.istore_n 2, 1) := by decide +kernel
theorem dX5_copy_2 : decode cX5_copy 2 = .ok (.iload_n 2, 1) := by decide +kernel
theorem dX5_copy_3 : decode cX5_copy 3 = .ok (.bipush 6, 2) := by decide +kernel
theorem dX5_copy_5 : decode cX5_copy 5 = .ok (.if_icmp .ge 21, 3) := by decide +kernel
theorem dX5_copy_8 : decode cX5_copy 8 = .ok (.aload_n 0, 1) := by decide +kernel
theorem dX5_copy_9 : decode cX5_copy 9 = .ok (.getfield 9, 3) := by decide +kernel
theorem dX5_copy_12 : decode cX5_copy 12 = .ok (.iload_n 2, 1) := by decide +kernel
theorem dX5_copy_13 : decode cX5_copy 13 = .ok (.aload_n 1, 1) := by decide +kernel
theorem dX5_copy_14 : decode cX5_copy 14 = .ok (.getfield 9, 3) := by decide +kernel
theorem dX5_copy_17 : decode cX5_copy 17 = .ok (.iload_n 2, 1) := by decide +kernel
theorem dX5_copy_18 : decode cX5_copy 18 = .ok (.iaload, 1) := by decide +kernel
theorem dX5_copy_19 : decode cX5_copy 19 = .ok (.iastore, 1) := by decide +kernel
theorem dX5_copy_20 : decode cX5_copy 20 = .ok (.iinc 2 1, 3) := by decide +kernel
theorem dX5_copy_23 : decode cX5_copy 23 = .ok (.goto (-21), 3) := by decide +kernel
theorem dX5_copy_26 : decode cX5_copy 26 = .ok (.iconst 0, 1) := by decide +kernel
theorem dX5_copy_27 : decode cX5_copy 27 = .ok (.istore_n 2, 1) := by decide +kernel
theorem dX5_copy_28 : decode cX5_copy 28 = .ok (.iload_n 2, 1) := by decide +kernel
theorem dX5_copy_29 : decode cX5_copy 29 = .ok (.bipush 6, 2) := by decide +kernel
theorem dX5_copy_31 : decode cX5_copy 31 = .ok (.if_icmp .ge 33, 3) := by decide +kernel
theorem dX5_copy_34 : decode cX5_copy 34 = .ok (.aload_n 0, 1) := by decide +kernel
theorem dX5_copy_35 : decode cX5_copy 35 = .ok (.getfield 15, 3) := by decide +kernel
theorem dX5_copy_38 : decode cX5_copy 38 = .ok (.iload_n 2, 1) := by decide +kernel
theorem dX5_copy_39 : decode cX5_copy 39 = .ok (.aload_n 1, 1) := by decide +kernel
theorem dX5_copy_40 : decode cX5_copy 40 = .ok (.getfield 15, 3) := by decide +kernel
theorem dX5_copy_43 : decode cX5_copy 43 = .ok (.iload_n 2, 1) := by decide +kernel
theorem dX5_copy_44 : decode cX5_copy 44 = .ok (.iaload, 1) := by decide +kernel
theorem dX5_copy_45 : decode cX5_copy 45 = .ok (.iastore, 1) := by decide +kernel
theorem dX5_copy_46 : decode cX5_copy 46 = .ok (.aload_n 0, 1) := by decide +kernel
theorem dX5_copy_47 : decode cX5_copy 47 = .ok (.getfield 18, 3) := by decide +kernel
theorem dX5_copy_50 : decode cX5_copy 50 = .ok (.iload_n 2, 1) := by decide +kernel
theorem dX5_copy_51 : decode cX5_copy 51 = .ok (.aload_n 1, 1) := by decide +kernel
theorem dX5_copy_52 : decode cX5_copy 52 = .ok (.getfield 18, 3) := by decide +kernel
theorem dX5_copy_55 : decode cX5_copy 55 = .ok (.iload_n 2, 1) := by decide +kernel
theorem dX5_copy_56 : decode cX5_copy 56 = .ok (.iaload, 1) := by decide +kernel
theorem dX5_copy_57 : decode cX5_copy 57 = .ok (.iastore, 1) := by decide +kernel
theorem dX5_copy_58 : decode cX5_copy 58 = .ok (.iinc 2 1, 3) := by decide +kernel
theorem dX5_copy_61 : decode cX5_copy 61 = .ok (.goto (-33), 3) := by decide +kernel
theorem dX5_copy_64 : decode cX5_copy 64 = .ok (.aload_n 0, 1) := by decide +kernel
theorem dX5_copy_65 : decode cX5_copy 65 = .ok (.aload_n 1, 1) := by decide +kernel
theorem dX5_copy_66 : decode cX5_copy 66 = .ok (.getfield 24, 3) := by decide +kernel
theorem dX5_copy_69 : decode cX5_copy 69 = .ok (.putfield 24, 3) := by decide +kernel
theorem dX5_copy_72 : decode cX5_copy 72 = .ok (.return_, 1) := by decide +kernel
theorem dX5_isRule_0 : decode cX5_isRule 0 = .ok (.iload_n 0, 1) := by decide +kernel
theorem dX5_isRule_1 : decode cX5_isRule 1 = .ok (.ifCond .lt 13, 3) := by decide +kernel
theorem dX5_isRule_4 : decode cX5_isRule 4 = .ok (.iload_n 0, 1) := by decide +kernel
theorem dX5_isRule_5 : decode cX5_isRule 5 = .ok (.bipush 6, 2) := by decide +kernel
theorem dX5_isRule_7 : decode cX5_isRule 7 = .ok (.if_icmp .ge 7, 3) := by decide +kernel
theorem dX5_isRule_10 : decode cX5_isRule 10 = .ok (.iconst 1, 1) := by decide +kernel
theorem dX5_isRule_11 : decode cX5_isRule 11 = .ok (.goto 4, 3) := by decide +kernel
theorem dX5_isRule_14 : decode cX5_isRule 14 = .ok (.iconst 0, 1) := by decide +kernel
theorem dX5_isRule_15 : decode cX5_isRule 15 = .ok (.ireturn, 1) := by decide +kernel
theorem dX5_allows_0 : decode cX5_allows 0 = .ok (.iload_n 1, 1) := by decide +kernel
theorem dX5_allows_1 : decode cX5_allows 1 = .ok (.invokestatic 28, 3) := by decide +kernel
theorem dX5_allows_4 : decode cX5_allows 4 = .ok (.ifCond .eq 25, 3) := by decide +kernel
theorem dX5_allows_7 : decode cX5_allows 7 = .ok (.iload_n 2, 1) := by decide +kernel
theorem dX5_allows_8 : decode cX5_allows 8 = .ok (.getstatic 32, 3) := by decide +kernel
theorem dX5_allows_11 : decode cX5_allows 11 = .ok (.iload_n 1, 1) := by decide +kernel
theorem dX5_allows_12 : decode cX5_allows 12 = .ok (.iaload, 1) := by decide +kernel
theorem dX5_allows_13 : decode cX5_allows 13 = .ok (.if_icmp .lt 16, 3) := by decide +kernel
theorem dX5_allows_16 : decode cX5_allows 16 = .ok (.iload_n 2, 1) := by decide +kernel
theorem dX5_allows_17 : decode cX5_allows 17 = .ok (.getstatic 35, 3) := by decide +kernel
theorem dX5_allows_20 : decode cX5_allows 20 = .ok (.iload_n 1, 1) := by decide +kernel
theorem dX5_allows_21 : decode cX5_allows 21 = .ok (.iaload, 1) := by decide +kernel
theorem dX5_allows_22 : decode cX5_allows 22 = .ok (.if_icmp .gt 7, 3) := by decide +kernel
theorem dX5_allows_25 : decode cX5_allows 25 = .ok (.iconst 1, 1) := by decide +kernel
theorem dX5_allows_26 : decode cX5_allows 26 = .ok (.goto 4, 3) := by decide +kernel
theorem dX5_allows_29 : decode cX5_allows 29 = .ok (.iconst 0, 1) := by decide +kernel
theorem dX5_allows_30 : decode cX5_allows 30 = .ok (.ireturn, 1) := by decide +kernel
theorem dX5_get_0 : decode cX5_get 0 = .ok (.iload_n 1, 1) := by decide +kernel
theorem dX5_get_1 : decode cX5_get 1 = .ok (.invokestatic 28, 3) := by decide +kernel
theorem dX5_get_4 : decode cX5_get 4 = .ok (.ifCond .eq 12, 3) := by decide +kernel
theorem dX5_get_7 : decode cX5_get 7 = .ok (.aload_n 0, 1) := by decide +kernel
theorem dX5_get_8 : decode cX5_get 8 = .ok (.getfield 9, 3) := by decide +kernel
theorem dX5_get_11 : decode cX5_get 11 = .ok (.iload_n 1, 1) := by decide +kernel
theorem dX5_get_12 : decode cX5_get 12 = .ok (.iaload, 1) := by decide +kernel
theorem dX5_get_13 : decode cX5_get 13 = .ok (.goto 4, 3) := by decide +kernel
theorem dX5_get_16 : decode cX5_get 16 = .ok (.iconst 0, 1) := by decide +kernel
theorem dX5_get_17 : decode cX5_get 17 = .ok (.ireturn, 1) := by decide +kernel
theorem dX5_put_0 : decode cX5_put 0 = .ok (.iload_n 1, 1) := by decide +kernel
theorem dX5_put_1 : decode cX5_put 1 = .ok (.invokestatic 28, 3) := by decide +kernel
theorem dX5_put_4 : decode cX5_put 4 = .ok (.ifCond .eq 10, 3) := by decide +kernel
theorem dX5_put_7 : decode cX5_put 7 = .ok (.aload_n 0, 1) := by decide +kernel
theorem dX5_put_8 : decode cX5_put 8 = .ok (.getfield 9, 3) := by decide +kernel
theorem dX5_put_11 : decode cX5_put 11 = .ok (.iload_n 1, 1) := by decide +kernel
theorem dX5_put_12 : decode cX5_put 12 = .ok (.iload_n 2, 1) := by decide +kernel
theorem dX5_put_13 : decode cX5_put 13 = .ok (.iastore, 1) := by decide +kernel
theorem dX5_put_14 : decode cX5_put 14 = .ok (.return_, 1) := by decide +kernel
theorem dX5_hasCode_0 : decode cX5_hasCode 0 = .ok (.iload_n 1, 1) := by decide +kernel
theorem dX5_hasCode_1 : decode cX5_hasCode 1 = .ok (.ifCond .lt 21, 3) := by decide +kernel
theorem dX5_hasCode_4 : decode cX5_hasCode 4 = .ok (.iload_n 1, 1) := by decide +kernel
theorem dX5_hasCode_5 : decode cX5_hasCode 5 = .ok (.aload_n 0, 1) := by decide +kernel
theorem dX5_hasCode_6 : decode cX5_hasCode 6 = .ok (.getfield 24, 3) := by decide +kernel
theorem dX5_hasCode_9 : decode cX5_hasCode 9 = .ok (.if_icmp .ge 13, 3) := by decide +kernel
theorem dX5_hasCode_12 : decode cX5_hasCode 12 = .ok (.iload_n 1, 1) := by decide +kernel
theorem dX5_hasCode_13 : decode cX5_hasCode 13 = .ok (.bipush 6, 2) := by decide +kernel
theorem dX5_hasCode_15 : decode cX5_hasCode 15 = .ok (.if_icmp .ge 7, 3) := by decide +kernel
theorem dX5_hasCode_18 : decode cX5_hasCode 18 = .ok (.iconst 1, 1) := by decide +kernel
theorem dX5_hasCode_19 : decode cX5_hasCode 19 = .ok (.goto 4, 3) := by decide +kernel
theorem dX5_hasCode_22 : decode cX5_hasCode 22 = .ok (.iconst 0, 1) := by decide +kernel
theorem dX5_hasCode_23 : decode cX5_hasCode 23 = .ok (.ireturn, 1) := by decide +kernel
theorem dX5_pointsOf_0 : decode cX5_pointsOf 0 = .ok (.aload_n 0, 1) := by decide +kernel
theorem dX5_pointsOf_1 : decode cX5_pointsOf 1 = .ok (.iload_n 1, 1) := by decide +kernel
theorem dX5_pointsOf_2 : decode cX5_pointsOf 2 = .ok (.invokevirtual 38, 3) := by decide +kernel
theorem dX5_pointsOf_5 : decode cX5_pointsOf 5 = .ok (.ifCond .eq 12, 3) := by decide +kernel
theorem dX5_pointsOf_8 : decode cX5_pointsOf 8 = .ok (.aload_n 0, 1) := by decide +kernel
theorem dX5_pointsOf_9 : decode cX5_pointsOf 9 = .ok (.getfield 15, 3) := by decide +kernel
theorem dX5_pointsOf_12 : decode cX5_pointsOf 12 = .ok (.iload_n 1, 1) := by decide +kernel
theorem dX5_pointsOf_13 : decode cX5_pointsOf 13 = .ok (.iaload, 1) := by decide +kernel
theorem dX5_pointsOf_14 : decode cX5_pointsOf 14 = .ok (.goto 4, 3) := by decide +kernel
theorem dX5_pointsOf_17 : decode cX5_pointsOf 17 = .ok (.iconst 0, 1) := by decide +kernel
theorem dX5_pointsOf_18 : decode cX5_pointsOf 18 = .ok (.ireturn, 1) := by decide +kernel
theorem dX5_ownBanOf_0 : decode cX5_ownBanOf 0 = .ok (.aload_n 0, 1) := by decide +kernel
theorem dX5_ownBanOf_1 : decode cX5_ownBanOf 1 = .ok (.iload_n 1, 1) := by decide +kernel
theorem dX5_ownBanOf_2 : decode cX5_ownBanOf 2 = .ok (.invokevirtual 38, 3) := by decide +kernel
theorem dX5_ownBanOf_5 : decode cX5_ownBanOf 5 = .ok (.ifCond .eq 12, 3) := by decide +kernel
theorem dX5_ownBanOf_8 : decode cX5_ownBanOf 8 = .ok (.aload_n 0, 1) := by decide +kernel
theorem dX5_ownBanOf_9 : decode cX5_ownBanOf 9 = .ok (.getfield 18, 3) := by decide +kernel
theorem dX5_ownBanOf_12 : decode cX5_ownBanOf 12 = .ok (.iload_n 1, 1) := by decide +kernel
theorem dX5_ownBanOf_13 : decode cX5_ownBanOf 13 = .ok (.iaload, 1) := by decide +kernel
theorem dX5_ownBanOf_14 : decode cX5_ownBanOf 14 = .ok (.goto 4, 3) := by decide +kernel
theorem dX5_ownBanOf_17 : decode cX5_ownBanOf 17 = .ok (.iconst 0, 1) := by decide +kernel
theorem dX5_ownBanOf_18 : decode cX5_ownBanOf 18 = .ok (.ireturn, 1) := by decide +kernel
theorem dX5_addCode_0 : decode cX5_addCode 0 = .ok (.aload_n 0, 1) := by decide +kernel
theorem dX5_addCode_1 : decode cX5_addCode 1 = .ok (.getfield 24, 3) := by decide +kernel
theorem dX5_addCode_4 : decode cX5_addCode 4 = .ok (.ifCond .lt 42, 3) := by decide +kernel
theorem dX5_addCode_7 : decode cX5_addCode 7 = .ok (.aload_n 0, 1) := by decide +kernel
theorem dX5_addCode_8 : decode cX5_addCode 8 = .ok (.getfield 24, 3) := by decide +kernel
theorem dX5_addCode_11 : decode cX5_addCode 11 = .ok (.bipush 6, 2) := by decide +kernel
theorem dX5_addCode_13 : decode cX5_addCode 13 = .ok (.if_icmp .ge 33, 3) := by decide +kernel
theorem dX5_addCode_16 : decode cX5_addCode 16 = .ok (.aload_n 0, 1) := by decide +kernel
theorem dX5_addCode_17 : decode cX5_addCode 17 = .ok (.getfield 15, 3) := by decide +kernel
theorem dX5_addCode_20 : decode cX5_addCode 20 = .ok (.aload_n 0, 1) := by decide +kernel
theorem dX5_addCode_21 : decode cX5_addCode 21 = .ok (.getfield 24, 3) := by decide +kernel
theorem dX5_addCode_24 : decode cX5_addCode 24 = .ok (.iload_n 1, 1) := by decide +kernel
theorem dX5_addCode_25 : decode cX5_addCode 25 = .ok (.iastore, 1) := by decide +kernel
theorem dX5_addCode_26 : decode cX5_addCode 26 = .ok (.aload_n 0, 1) := by decide +kernel
theorem dX5_addCode_27 : decode cX5_addCode 27 = .ok (.getfield 18, 3) := by decide +kernel
theorem dX5_addCode_30 : decode cX5_addCode 30 = .ok (.aload_n 0, 1) := by decide +kernel
theorem dX5_addCode_31 : decode cX5_addCode 31 = .ok (.getfield 24, 3) := by decide +kernel
theorem dX5_addCode_34 : decode cX5_addCode 34 = .ok (.iload_n 2, 1) := by decide +kernel
theorem dX5_addCode_35 : decode cX5_addCode 35 = .ok (.iastore, 1) := by decide +kernel
theorem dX5_addCode_36 : decode cX5_addCode 36 = .ok (.aload_n 0, 1) := by decide +kernel
theorem dX5_addCode_37 : decode cX5_addCode 37 = .ok (.dup, 1) := by decide +kernel
theorem dX5_addCode_38 : decode cX5_addCode 38 = .ok (.getfield 24, 3) := by decide +kernel
theorem dX5_addCode_41 : decode cX5_addCode 41 = .ok (.iconst 1, 1) := by decide +kernel
theorem dX5_addCode_42 : decode cX5_addCode 42 = .ok (.iadd, 1) := by decide +kernel
theorem dX5_addCode_43 : decode cX5_addCode 43 = .ok (.putfield 24, 3) := by decide +kernel
theorem dX5_addCode_46 : decode cX5_addCode 46 = .ok (.return_, 1) := by decide +kernel
theorem dX6_write_0 : decode cX6_write 0 = .ok (.iload_n 1, 1) := by decide +kernel
theorem dX6_write_1 : decode cX6_write 1 = .ok (.bipush 32, 2) := by decide +kernel
theorem dX6_write_3 : decode cX6_write 3 = .ok (.if_icmp .lt 9, 3) := by decide +kernel
theorem dX6_write_6 : decode cX6_write 6 = .ok (.iload_n 1, 1) := by decide +kernel
theorem dX6_write_7 : decode cX6_write 7 = .ok (.bipush 126, 2) := by decide +kernel
theorem dX6_write_9 : decode cX6_write 9 = .ok (.if_icmp .le 5, 3) := by decide +kernel
theorem dX6_write_12 : decode cX6_write 12 = .ok (.iconst (-1), 1) := by decide +kernel
theorem dX6_write_13 : decode cX6_write 13 = .ok (.ireturn, 1) := by decide +kernel
theorem dX6_write_14 : decode cX6_write 14 = .ok (.aload_n 0, 1) := by decide +kernel
theorem dX6_write_15 : decode cX6_write 15 = .ok (.getfield 10, 3) := by decide +kernel
theorem dX6_write_18 : decode cX6_write 18 = .ok (.iload_n 1, 1) := by decide +kernel
theorem dX6_write_19 : decode cX6_write 19 = .ok (.invokevirtual 68, 3) := by decide +kernel
theorem dX6_write_22 : decode cX6_write 22 = .ok (.ifCond .eq 13, 3) := by decide +kernel
theorem dX6_write_25 : decode cX6_write 25 = .ok (.aload_n 0, 1) := by decide +kernel
theorem dX6_write_26 : decode cX6_write 26 = .ok (.getfield 10, 3) := by decide +kernel
theorem dX6_write_29 : decode cX6_write 29 = .ok (.getfield 79, 3) := by decide +kernel
theorem dX6_write_32 : decode cX6_write 32 = .ok (.goto 5, 3) := by decide +kernel
theorem dX6_write_35 : decode cX6_write 35 = .ok (.bipush (-3), 2) := by decide +kernel
theorem dX6_write_37 : decode cX6_write 37 = .ok (.ireturn, 1) := by decide +kernel
theorem dX6_wipe_0 : decode cX6_wipe 0 = .ok (.aload_n 0, 1) := by decide +kernel
theorem dX6_wipe_1 : decode cX6_wipe 1 = .ok (.getfield 10, 3) := by decide +kernel
theorem dX6_wipe_4 : decode cX6_wipe 4 = .ok (.getfield 79, 3) := by decide +kernel
theorem dX6_wipe_7 : decode cX6_wipe 7 = .ok (.istore_n 1, 1) := by decide +kernel
theorem dX6_wipe_8 : decode cX6_wipe 8 = .ok (.aload_n 0, 1) := by decide +kernel
theorem dX6_wipe_9 : decode cX6_wipe 9 = .ok (.getfield 10, 3) := by decide +kernel
theorem dX6_wipe_12 : decode cX6_wipe 12 = .ok (.invokevirtual 76, 3) := by decide +kernel
theorem dX6_wipe_15 : decode cX6_wipe 15 = .ok (.iload_n 1, 1) := by decide +kernel
theorem dX6_wipe_16 : decode cX6_wipe 16 = .ok (.ireturn, 1) := by decide +kernel
theorem dX6_fault_0 : decode cX6_fault 0 = .ok (.aload_n 0, 1) := by decide +kernel
theorem dX6_fault_1 : decode cX6_fault 1 = .ok (.getfield 10, 3) := by decide +kernel
theorem dX6_fault_4 : decode cX6_fault 4 = .ok (.aload_n 0, 1) := by decide +kernel
theorem dX6_fault_5 : decode cX6_fault 5 = .ok (.getfield 23, 3) := by decide +kernel
theorem dX6_fault_8 : decode cX6_fault 8 = .ok (.invokevirtual 72, 3) := by decide +kernel
theorem dX6_fault_11 : decode cX6_fault 11 = .ok (.aload_n 0, 1) := by decide +kernel
theorem dX6_fault_12 : decode cX6_fault 12 = .ok (.getfield 10, 3) := by decide +kernel
theorem dX6_fault_15 : decode cX6_fault 15 = .ok (.getfield 82, 3) := by decide +kernel
theorem dX6_fault_18 : decode cX6_fault 18 = .ok (.ifCond .ne 8, 3) := by decide +kernel
theorem dX6_fault_21 : decode cX6_fault 21 = .ok (.bipush (-4), 2) := by decide +kernel
theorem dX6_fault_23 : decode cX6_fault 23 = .ok (.goto 10, 3) := by decide +kernel
theorem dX6_fault_26 : decode cX6_fault 26 = .ok (.aload_n 0, 1) := by decide +kernel
theorem dX6_fault_27 : decode cX6_fault 27 = .ok (.getfield 10, 3) := by decide +kernel
theorem dX6_fault_30 : decode cX6_fault 30 = .ok (.getfield 85, 3) := by decide +kernel
theorem dX6_fault_33 : decode cX6_fault 33 = .ok (.ireturn, 1) := by decide +kernel
theorem dX6_reason_0 : decode cX6_reason 0 = .ok (.aload_n 0, 1) := by decide +kernel
theorem dX6_reason_1 : decode cX6_reason 1 = .ok (.getfield 10, 3) := by decide +kernel
theorem dX6_reason_4 : decode cX6_reason 4 = .ok (.aload_n 0, 1) := by decide +kernel
theorem dX6_reason_5 : decode cX6_reason 5 = .ok (.getfield 23, 3) := by decide +kernel
theorem dX6_reason_8 : decode cX6_reason 8 = .ok (.invokevirtual 72, 3) := by decide +kernel
theorem dX6_reason_11 : decode cX6_reason 11 = .ok (.aload_n 0, 1) := by decide +kernel
theorem dX6_reason_12 : decode cX6_reason 12 = .ok (.getfield 10, 3) := by decide +kernel
theorem dX6_reason_15 : decode cX6_reason 15 = .ok (.getfield 82, 3) := by decide +kernel
theorem dX6_reason_18 : decode cX6_reason 18 = .ok (.ifCond .ne 8, 3) := by decide +kernel
theorem dX6_reason_21 : decode cX6_reason 21 = .ok (.bipush (-4), 2) := by decide +kernel
theorem dX6_reason_23 : decode cX6_reason 23 = .ok (.goto 10, 3) := by decide +kernel
theorem dX6_reason_26 : decode cX6_reason 26 = .ok (.aload_n 0, 1) := by decide +kernel
theorem dX6_reason_27 : decode cX6_reason 27 = .ok (.getfield 10, 3) := by decide +kernel
theorem dX6_reason_30 : decode cX6_reason 30 = .ok (.getfield 82, 3) := by decide +kernel
theorem dX6_reason_33 : decode cX6_reason 33 = .ok (.ireturn, 1) := by decide +kernel
theorem dX6_lay_0 : decode cX6_lay 0 = .ok (.aload_n 0, 1) := by decide +kernel
theorem dX6_lay_1 : decode cX6_lay 1 = .ok (.getfield 10, 3) := by decide +kernel
theorem dX6_lay_4 : decode cX6_lay 4 = .ok (.aload_n 0, 1) := by decide +kernel
theorem dX6_lay_5 : decode cX6_lay 5 = .ok (.getfield 23, 3) := by decide +kernel
theorem dX6_lay_8 : decode cX6_lay 8 = .ok (.invokevirtual 72, 3) := by decide +kernel
theorem dX6_lay_11 : decode cX6_lay 11 = .ok (.aload_n 0, 1) := by decide +kernel
theorem dX6_lay_12 : decode cX6_lay 12 = .ok (.getfield 10, 3) := by decide +kernel
theorem dX6_lay_15 : decode cX6_lay 15 = .ok (.getfield 82, 3) := by decide +kernel
theorem dX6_lay_18 : decode cX6_lay 18 = .ok (.ifCond .ne 13, 3) := by decide +kernel
theorem dX6_lay_21 : decode cX6_lay 21 = .ok (.aload_n 0, 1) := by decide +kernel
theorem dX6_lay_22 : decode cX6_lay 22 = .ok (.getfield 23, 3) := by decide +kernel
theorem dX6_lay_25 : decode cX6_lay 25 = .ok (.getfield 88, 3) := by decide +kernel
theorem dX6_lay_28 : decode cX6_lay 28 = .ok (.ifCond .ne 6, 3) := by decide +kernel
theorem dX6_lay_31 : decode cX6_lay 31 = .ok (.bipush (-2), 2) := by decide +kernel
theorem dX6_lay_33 : decode cX6_lay 33 = .ok (.ireturn, 1) := by decide +kernel
theorem dX6_lay_34 : decode cX6_lay 34 = .ok (.aload_n 0, 1) := by decide +kernel
theorem dX6_lay_35 : decode cX6_lay 35 = .ok (.getfield 19, 3) := by decide +kernel
theorem dX6_lay_38 : decode cX6_lay 38 = .ok (.aload_n 0, 1) := by decide +kernel
theorem dX6_lay_39 : decode cX6_lay 39 = .ok (.getfield 23, 3) := by decide +kernel
theorem dX6_lay_42 : decode cX6_lay 42 = .ok (.invokevirtual 91, 3) := by decide +kernel
theorem dX6_lay_45 : decode cX6_lay 45 = .ok (.aload_n 0, 1) := by decide +kernel
theorem dX6_lay_46 : decode cX6_lay 46 = .ok (.getfield 29, 3) := by decide +kernel
theorem dX6_lay_49 : decode cX6_lay 49 = .ok (.iconst 0, 1) := by decide +kernel
theorem dX6_lay_50 : decode cX6_lay 50 = .ok (.putfield 94, 3) := by decide +kernel
theorem dX6_lay_53 : decode cX6_lay 53 = .ok (.aload_n 0, 1) := by decide +kernel
theorem dX6_lay_54 : decode cX6_lay 54 = .ok (.getfield 52, 3) := by decide +kernel
theorem dX6_lay_57 : decode cX6_lay 57 = .ok (.iconst 0, 1) := by decide +kernel
theorem dX6_lay_58 : decode cX6_lay 58 = .ok (.putfield 97, 3) := by decide +kernel
theorem dX6_lay_61 : decode cX6_lay 61 = .ok (.aload_n 0, 1) := by decide +kernel
theorem dX6_lay_62 : decode cX6_lay 62 = .ok (.iconst 0, 1) := by decide +kernel
theorem dX6_lay_63 : decode cX6_lay 63 = .ok (.putfield 98, 3) := by decide +kernel
theorem dX6_lay_66 : decode cX6_lay 66 = .ok (.aload_n 0, 1) := by decide +kernel
theorem dX6_lay_67 : decode cX6_lay 67 = .ok (.getfield 45, 3) := by decide +kernel
theorem dX6_lay_70 : decode cX6_lay 70 = .ok (.invokevirtual 101, 3) := by decide +kernel
theorem dX6_lay_73 : decode cX6_lay 73 = .ok (.aload_n 0, 1) := by decide +kernel
theorem dX6_lay_74 : decode cX6_lay 74 = .ok (.getfield 19, 3) := by decide +kernel
theorem dX6_lay_77 : decode cX6_lay 77 = .ok (.getfield 88, 3) := by decide +kernel
theorem dX6_lay_80 : decode cX6_lay 80 = .ok (.ireturn, 1) := by decide +kernel
theorem dX6_rule_0 : decode cX6_rule 0 = .ok (.aload_n 0, 1) := by decide +kernel
theorem dX6_rule_1 : decode cX6_rule 1 = .ok (.getfield 19, 3) := by decide +kernel
theorem dX6_rule_4 : decode cX6_rule 4 = .ok (.iload_n 1, 1) := by decide +kernel
theorem dX6_rule_5 : decode cX6_rule 5 = .ok (.iload_n 2, 1) := by decide +kernel
theorem dX6_rule_6 : decode cX6_rule 6 = .ok (.invokevirtual 104, 3) := by decide +kernel
theorem dX6_rule_9 : decode cX6_rule 9 = .ok (.ifCond .ne 5, 3) := by decide +kernel
theorem dX6_rule_12 : decode cX6_rule 12 = .ok (.iconst (-1), 1) := by decide +kernel
theorem dX6_rule_13 : decode cX6_rule 13 = .ok (.ireturn, 1) := by decide +kernel
theorem dX6_rule_14 : decode cX6_rule 14 = .ok (.aload_n 0, 1) := by decide +kernel
theorem dX6_rule_15 : decode cX6_rule 15 = .ok (.getfield 19, 3) := by decide +kernel
theorem dX6_rule_18 : decode cX6_rule 18 = .ok (.iload_n 1, 1) := by decide +kernel
theorem dX6_rule_19 : decode cX6_rule 19 = .ok (.invokevirtual 108, 3) := by decide +kernel
theorem dX6_rule_22 : decode cX6_rule 22 = .ok (.istore_n 3, 1) := by decide +kernel
theorem dX6_rule_23 : decode cX6_rule 23 = .ok (.iload_n 3, 1) := by decide +kernel
theorem dX6_rule_24 : decode cX6_rule 24 = .ok (.iload_n 2, 1) := by decide +kernel
theorem dX6_rule_25 : decode cX6_rule 25 = .ok (.if_icmp .ne 6, 3) := by decide +kernel
theorem dX6_rule_28 : decode cX6_rule 28 = .ok (.bipush (-2), 2) := by decide +kernel
theorem dX6_rule_30 : decode cX6_rule 30 = .ok (.ireturn, 1) := by decide +kernel
theorem dX6_rule_31 : decode cX6_rule 31 = .ok (.aload_n 0, 1) := by decide +kernel
theorem dX6_rule_32 : decode cX6_rule 32 = .ok (.getfield 19, 3) := by decide +kernel
theorem dX6_rule_35 : decode cX6_rule 35 = .ok (.iload_n 1, 1) := by decide +kernel
theorem dX6_rule_36 : decode cX6_rule 36 = .ok (.iload_n 2, 1) := by decide +kernel
theorem dX6_rule_37 : decode cX6_rule 37 = .ok (.invokevirtual 112, 3) := by decide +kernel
theorem dX6_rule_40 : decode cX6_rule 40 = .ok (.aload_n 0, 1) := by decide +kernel
theorem dX6_rule_41 : decode cX6_rule 41 = .ok (.getfield 52, 3) := by decide +kernel
theorem dX6_rule_44 : decode cX6_rule 44 = .ok (.iconst 5, 1) := by decide +kernel
theorem dX6_rule_45 : decode cX6_rule 45 = .ok (.iload_n 1, 1) := by decide +kernel
theorem dX6_rule_46 : decode cX6_rule 46 = .ok (.iload_n 3, 1) := by decide +kernel
theorem dX6_rule_47 : decode cX6_rule 47 = .ok (.invokevirtual 116, 3) := by decide +kernel
theorem dX6_rule_50 : decode cX6_rule 50 = .ok (.aload_n 0, 1) := by decide +kernel
theorem dX6_rule_51 : decode cX6_rule 51 = .ok (.getfield 45, 3) := by decide +kernel
theorem dX6_rule_54 : decode cX6_rule 54 = .ok (.invokevirtual 101, 3) := by decide +kernel
theorem dX6_rule_57 : decode cX6_rule 57 = .ok (.iload_n 3, 1) := by decide +kernel
theorem dX6_rule_58 : decode cX6_rule 58 = .ok (.ireturn, 1) := by decide +kernel
theorem dX6_code_0 : decode cX6_code 0 = .ok (.aload_n 0, 1) := by decide +kernel
theorem dX6_code_1 : decode cX6_code 1 = .ok (.getfield 19, 3) := by decide +kernel
theorem dX6_code_4 : decode cX6_code 4 = .ok (.iload_n 1, 1) := by decide +kernel
theorem dX6_code_5 : decode cX6_code 5 = .ok (.invokevirtual 120, 3) := by decide +kernel
theorem dX6_code_8 : decode cX6_code 8 = .ok (.ifCond .eq 12, 3) := by decide +kernel
theorem dX6_code_11 : decode cX6_code 11 = .ok (.iload_n 2, 1) := by decide +kernel
theorem dX6_code_12 : decode cX6_code 12 = .ok (.ifCond .lt 8, 3) := by decide +kernel
theorem dX6_code_15 : decode cX6_code 15 = .ok (.iload_n 2, 1) := by decide +kernel
theorem dX6_code_16 : decode cX6_code 16 = .ok (.iconst 1, 1) := by decide +kernel
theorem dX6_code_17 : decode cX6_code 17 = .ok (.if_icmp .le 5, 3) := by decide +kernel
theorem dX6_code_20 : decode cX6_code 20 = .ok (.iconst (-1), 1) := by decide +kernel
theorem dX6_code_21 : decode cX6_code 21 = .ok (.ireturn, 1) := by decide +kernel
theorem dX6_code_22 : decode cX6_code 22 = .ok (.iload_n 2, 1) := by decide +kernel
theorem dX6_code_23 : decode cX6_code 23 = .ok (.ifCond .ne 14, 3) := by decide +kernel
theorem dX6_code_26 : decode cX6_code 26 = .ok (.aload_n 0, 1) := by decide +kernel
theorem dX6_code_27 : decode cX6_code 27 = .ok (.getfield 19, 3) := by decide +kernel
theorem dX6_code_30 : decode cX6_code 30 = .ok (.iload_n 1, 1) := by decide +kernel
theorem dX6_code_31 : decode cX6_code 31 = .ok (.invokevirtual 123, 3) := by decide +kernel
theorem dX6_code_34 : decode cX6_code 34 = .ok (.goto 11, 3) := by decide +kernel
theorem dX6_code_37 : decode cX6_code 37 = .ok (.aload_n 0, 1) := by decide +kernel
theorem dX6_code_38 : decode cX6_code 38 = .ok (.getfield 19, 3) := by decide +kernel
theorem dX6_code_41 : decode cX6_code 41 = .ok (.iload_n 1, 1) := by decide +kernel
theorem dX6_code_42 : decode cX6_code 42 = .ok (.invokevirtual 126, 3) := by decide +kernel
theorem dX6_code_45 : decode cX6_code 45 = .ok (.ireturn, 1) := by decide +kernel
theorem dX6_pass_0 : decode cX6_pass 0 = .ok (.iload_n 1, 1) := by decide +kernel
theorem dX6_pass_1 : decode cX6_pass 1 = .ok (.ifCond .lt 10, 3) := by decide +kernel
theorem dX6_pass_4 : decode cX6_pass 4 = .ok (.iload_n 1, 1) := by decide +kernel
theorem dX6_pass_5 : decode cX6_pass 5 = .ok (.sipush 9999, 3) := by decide +kernel
theorem dX6_pass_8 : decode cX6_pass 8 = .ok (.if_icmp .le 5, 3) := by decide +kernel
theorem dX6_pass_11 : decode cX6_pass 11 = .ok (.iconst (-1), 1) := by decide +kernel
theorem dX6_pass_12 : decode cX6_pass 12 = .ok (.ireturn, 1) := by decide +kernel
theorem dX6_pass_13 : decode cX6_pass 13 = .ok (.aload_n 0, 1) := by decide +kernel
theorem dX6_pass_14 : decode cX6_pass 14 = .ok (.getfield 98, 3) := by decide +kernel
theorem dX6_pass_17 : decode cX6_pass 17 = .ok (.iload_n 1, 1) := by decide +kernel
theorem dX6_pass_18 : decode cX6_pass 18 = .ok (.iadd, 1) := by decide +kernel
theorem dX6_pass_19 : decode cX6_pass 19 = .ok (.sipush 9999, 3) := by decide +kernel
theorem dX6_pass_22 : decode cX6_pass 22 = .ok (.if_icmp .le 6, 3) := by decide +kernel
theorem dX6_pass_25 : decode cX6_pass 25 = .ok (.bipush (-3), 2) := by decide +kernel
theorem dX6_pass_27 : decode cX6_pass 27 = .ok (.ireturn, 1) := by decide +kernel
theorem dX6_pass_28 : decode cX6_pass 28 = .ok (.aload_n 0, 1) := by decide +kernel
theorem dX6_pass_29 : decode cX6_pass 29 = .ok (.dup, 1) := by decide +kernel
theorem dX6_pass_30 : decode cX6_pass 30 = .ok (.getfield 98, 3) := by decide +kernel
theorem dX6_pass_33 : decode cX6_pass 33 = .ok (.iload_n 1, 1) := by decide +kernel
theorem dX6_pass_34 : decode cX6_pass 34 = .ok (.iadd, 1) := by decide +kernel
theorem dX6_pass_35 : decode cX6_pass 35 = .ok (.putfield 98, 3) := by decide +kernel
theorem dX6_pass_38 : decode cX6_pass 38 = .ok (.aload_n 0, 1) := by decide +kernel
theorem dX6_pass_39 : decode cX6_pass 39 = .ok (.getfield 98, 3) := by decide +kernel
theorem dX6_pass_42 : decode cX6_pass 42 = .ok (.ireturn, 1) := by decide +kernel
theorem dX6_convict_0 : decode cX6_convict 0 = .ok (.aload_n 0, 1) := by decide +kernel
theorem dX6_convict_1 : decode cX6_convict 1 = .ok (.iload_n 1, 1) := by decide +kernel
theorem dX6_convict_2 : decode cX6_convict 2 = .ok (.iload_n 2, 1) := by decide +kernel
theorem dX6_convict_3 : decode cX6_convict 3 = .ok (.iload_n 3, 1) := by decide +kernel
theorem dX6_convict_4 : decode cX6_convict 4 = .ok (.invokevirtual 129, 3) := by decide +kernel
theorem dX6_convict_7 : decode cX6_convict 7 = .ok (.ifCond .eq 14, 3) := by decide +kernel
theorem dX6_convict_10 : decode cX6_convict 10 = .ok (.iload 4, 2) := by decide +kernel
theorem dX6_convict_12 : decode cX6_convict 12 = .ok (.ifCond .lt 9, 3) := by decide +kernel
theorem dX6_convict_15 : decode cX6_convict 15 = .ok (.iload 4, 2) := by decide +kernel
theorem dX6_convict_17 : decode cX6_convict 17 = .ok (.iconst 1, 1) := by decide +kernel
theorem dX6_convict_18 : decode cX6_convict 18 = .ok (.if_icmp .le 5, 3) := by decide +kernel
theorem dX6_convict_21 : decode cX6_convict 21 = .ok (.iconst (-1), 1) := by decide +kernel
theorem dX6_convict_22 : decode cX6_convict 22 = .ok (.ireturn, 1) := by decide +kernel
theorem dX6_convict_23 : decode cX6_convict 23 = .ok (.aload_n 0, 1) := by decide +kernel
theorem dX6_convict_24 : decode cX6_convict 24 = .ok (.getfield 29, 3) := by decide +kernel
theorem dX6_convict_27 : decode cX6_convict 27 = .ok (.getfield 94, 3) := by decide +kernel
theorem dX6_convict_30 : decode cX6_convict 30 = .ok (.bipush 40, 2) := by decide +kernel
theorem dX6_convict_32 : decode cX6_convict 32 = .ok (.if_icmp .lt 6, 3) := by decide +kernel
theorem dX6_convict_35 : decode cX6_convict 35 = .ok (.bipush (-3), 2) := by decide +kernel
theorem dX6_convict_37 : decode cX6_convict 37 = .ok (.ireturn, 1) := by decide +kernel
theorem dX6_convict_38 : decode cX6_convict 38 = .ok (.aload_n 0, 1) := by decide +kernel
theorem dX6_convict_39 : decode cX6_convict 39 = .ok (.getfield 29, 3) := by decide +kernel
theorem dX6_convict_42 : decode cX6_convict 42 = .ok (.iload_n 1, 1) := by decide +kernel
theorem dX6_convict_43 : decode cX6_convict 43 = .ok (.aload_n 0, 1) := by decide +kernel
theorem dX6_convict_44 : decode cX6_convict 44 = .ok (.getfield 98, 3) := by decide +kernel
theorem dX6_convict_47 : decode cX6_convict 47 = .ok (.iload_n 2, 1) := by decide +kernel
theorem dX6_convict_48 : decode cX6_convict 48 = .ok (.iload_n 3, 1) := by decide +kernel
theorem dX6_convict_49 : decode cX6_convict 49 = .ok (.aload_n 0, 1) := by decide +kernel
theorem dX6_convict_50 : decode cX6_convict 50 = .ok (.getfield 19, 3) := by decide +kernel
theorem dX6_convict_53 : decode cX6_convict 53 = .ok (.iload_n 3, 1) := by decide +kernel
theorem dX6_convict_54 : decode cX6_convict 54 = .ok (.invokevirtual 123, 3) := by decide +kernel
theorem dX6_convict_57 : decode cX6_convict 57 = .ok (.iload 4, 2) := by decide +kernel
theorem dX6_convict_59 : decode cX6_convict 59 = .ok (.invokevirtual 133, 3) := by decide +kernel
theorem dX6_convict_62 : decode cX6_convict 62 = .ok (.aload_n 0, 1) := by decide +kernel
theorem dX6_convict_63 : decode cX6_convict 63 = .ok (.invokevirtual 137, 3) := by decide +kernel
theorem dX6_convict_66 : decode cX6_convict 66 = .ok (.ireturn, 1) := by decide +kernel
theorem dX6_course_0 : decode cX6_course 0 = .ok (.iload_n 1, 1) := by decide +kernel
theorem dX6_course_1 : decode cX6_course 1 = .ok (.invokestatic 140, 3) := by decide +kernel
theorem dX6_course_4 : decode cX6_course 4 = .ok (.ifCond .eq 12, 3) := by decide +kernel
theorem dX6_course_7 : decode cX6_course 7 = .ok (.iload_n 2, 1) := by decide +kernel
theorem dX6_course_8 : decode cX6_course 8 = .ok (.ifCond .lt 8, 3) := by decide +kernel
theorem dX6_course_11 : decode cX6_course 11 = .ok (.iload_n 2, 1) := by decide +kernel
theorem dX6_course_12 : decode cX6_course 12 = .ok (.iconst 1, 1) := by decide +kernel
theorem dX6_course_13 : decode cX6_course 13 = .ok (.if_icmp .le 5, 3) := by decide +kernel
theorem dX6_course_16 : decode cX6_course 16 = .ok (.iconst (-1), 1) := by decide +kernel
theorem dX6_course_17 : decode cX6_course 17 = .ok (.ireturn, 1) := by decide +kernel
theorem dX6_course_18 : decode cX6_course 18 = .ok (.aload_n 0, 1) := by decide +kernel
theorem dX6_course_19 : decode cX6_course 19 = .ok (.getfield 29, 3) := by decide +kernel
theorem dX6_course_22 : decode cX6_course 22 = .ok (.getfield 94, 3) := by decide +kernel
theorem dX6_course_25 : decode cX6_course 25 = .ok (.bipush 40, 2) := by decide +kernel
theorem dX6_course_27 : decode cX6_course 27 = .ok (.if_icmp .lt 6, 3) := by decide +kernel
theorem dX6_course_30 : decode cX6_course 30 = .ok (.bipush (-3), 2) := by decide +kernel
theorem dX6_course_32 : decode cX6_course 32 = .ok (.ireturn, 1) := by decide +kernel
theorem dX6_course_33 : decode cX6_course 33 = .ok (.iload_n 2, 1) := by decide +kernel
theorem dX6_course_34 : decode cX6_course 34 = .ok (.ifCond .ne 27, 3) := by decide +kernel
theorem dX6_course_37 : decode cX6_course 37 = .ok (.aload_n 0, 1) := by decide +kernel
theorem dX6_course_38 : decode cX6_course 38 = .ok (.getfield 29, 3) := by decide +kernel
theorem dX6_course_41 : decode cX6_course 41 = .ok (.iload_n 1, 1) := by decide +kernel
theorem dX6_course_42 : decode cX6_course 42 = .ok (.aload_n 0, 1) := by decide +kernel
theorem dX6_course_43 : decode cX6_course 43 = .ok (.getfield 98, 3) := by decide +kernel
theorem dX6_course_46 : decode cX6_course 46 = .ok (.aload_n 0, 1) := by decide +kernel
theorem dX6_course_47 : decode cX6_course 47 = .ok (.getfield 19, 3) := by decide +kernel
theorem dX6_course_50 : decode cX6_course 50 = .ok (.iconst 0, 1) := by decide +kernel
theorem dX6_course_51 : decode cX6_course 51 = .ok (.invokevirtual 108, 3) := by decide +kernel
theorem dX6_course_54 : decode cX6_course 54 = .ok (.isub, 1) := by decide +kernel
theorem dX6_course_55 : decode cX6_course 55 = .ok (.invokevirtual 143, 3) := by decide +kernel
theorem dX6_course_58 : decode cX6_course 58 = .ok (.goto 23, 3) := by decide +kernel
theorem dX6_course_61 : decode cX6_course 61 = .ok (.aload_n 0, 1) := by decide +kernel
theorem dX6_course_62 : decode cX6_course 62 = .ok (.getfield 36, 3) := by decide +kernel
theorem dX6_course_65 : decode cX6_course 65 = .ok (.iload_n 1, 1) := by decide +kernel
theorem dX6_course_66 : decode cX6_course 66 = .ok (.aload_n 0, 1) := by decide +kernel
theorem dX6_course_67 : decode cX6_course 67 = .ok (.getfield 98, 3) := by decide +kernel
theorem dX6_course_70 : decode cX6_course 70 = .ok (.invokevirtual 146, 3) := by decide +kernel
theorem dX6_course_73 : decode cX6_course 73 = .ok (.ifCond .ge 7, 3) := by decide +kernel
theorem dX6_course_76 : decode cX6_course 76 = .ok (.iconst 1, 1) := by decide +kernel
theorem dX6_course_77 : decode cX6_course 77 = .ok (.goto 4, 3) := by decide +kernel
theorem dX6_course_80 : decode cX6_course 80 = .ok (.iconst 0, 1) := by decide +kernel
theorem dX6_course_81 : decode cX6_course 81 = .ok (.istore_n 3, 1) := by decide +kernel
theorem dX6_course_82 : decode cX6_course 82 = .ok (.iload_n 3, 1) := by decide +kernel
theorem dX6_course_83 : decode cX6_course 83 = .ok (.ifCond .eq 6, 3) := by decide +kernel
theorem dX6_course_86 : decode cX6_course 86 = .ok (.bipush (-2), 2) := by decide +kernel
theorem dX6_course_88 : decode cX6_course 88 = .ok (.ireturn, 1) := by decide +kernel
theorem dX6_course_89 : decode cX6_course 89 = .ok (.aload_n 0, 1) := by decide +kernel
theorem dX6_course_90 : decode cX6_course 90 = .ok (.getfield 29, 3) := by decide +kernel
theorem dX6_course_93 : decode cX6_course 93 = .ok (.iload_n 1, 1) := by decide +kernel
theorem dX6_course_94 : decode cX6_course 94 = .ok (.aload_n 0, 1) := by decide +kernel
theorem dX6_course_95 : decode cX6_course 95 = .ok (.getfield 98, 3) := by decide +kernel
theorem dX6_course_98 : decode cX6_course 98 = .ok (.iload_n 2, 1) := by decide +kernel
theorem dX6_course_99 : decode cX6_course 99 = .ok (.ifCond .ne 7, 3) := by decide +kernel
theorem dX6_course_102 : decode cX6_course 102 = .ok (.iconst 1, 1) := by decide +kernel
theorem dX6_course_103 : decode cX6_course 103 = .ok (.goto 4, 3) := by decide +kernel
theorem dX6_course_106 : decode cX6_course 106 = .ok (.iconst 2, 1) := by decide +kernel
theorem dX6_course_107 : decode cX6_course 107 = .ok (.invokevirtual 150, 3) := by decide +kernel
theorem dX6_course_110 : decode cX6_course 110 = .ok (.aload_n 0, 1) := by decide +kernel
theorem dX6_course_111 : decode cX6_course 111 = .ok (.invokevirtual 137, 3) := by decide +kernel
theorem dX6_course_114 : decode cX6_course 114 = .ok (.ireturn, 1) := by decide +kernel
theorem dX6_strike_0 : decode cX6_strike 0 = .ok (.aload_n 0, 1) := by decide +kernel
theorem dX6_strike_1 : decode cX6_strike 1 = .ok (.getfield 29, 3) := by decide +kernel
theorem dX6_strike_4 : decode cX6_strike 4 = .ok (.iload_n 1, 1) := by decide +kernel
theorem dX6_strike_5 : decode cX6_strike 5 = .ok (.invokevirtual 153, 3) := by decide +kernel
theorem dX6_strike_8 : decode cX6_strike 8 = .ok (.ifCond .ne 5, 3) := by decide +kernel
theorem dX6_strike_11 : decode cX6_strike 11 = .ok (.iconst (-1), 1) := by decide +kernel
theorem dX6_strike_12 : decode cX6_strike 12 = .ok (.ireturn, 1) := by decide +kernel
theorem dX6_strike_13 : decode cX6_strike 13 = .ok (.aload_n 0, 1) := by decide +kernel
theorem dX6_strike_14 : decode cX6_strike 14 = .ok (.getfield 29, 3) := by decide +kernel
theorem dX6_strike_17 : decode cX6_strike 17 = .ok (.getfield 156, 3) := by decide +kernel
theorem dX6_strike_20 : decode cX6_strike 20 = .ok (.iload_n 1, 1) := by decide +kernel
theorem dX6_strike_21 : decode cX6_strike 21 = .ok (.iaload, 1) := by decide +kernel
theorem dX6_strike_22 : decode cX6_strike 22 = .ok (.iconst 1, 1) := by decide +kernel
theorem dX6_strike_23 : decode cX6_strike 23 = .ok (.if_icmp .ne 6, 3) := by decide +kernel
theorem dX6_strike_26 : decode cX6_strike 26 = .ok (.bipush (-2), 2) := by decide +kernel
theorem dX6_strike_28 : decode cX6_strike 28 = .ok (.ireturn, 1) := by decide +kernel
theorem dX6_strike_29 : decode cX6_strike 29 = .ok (.aload_n 0, 1) := by decide +kernel
theorem dX6_strike_30 : decode cX6_strike 30 = .ok (.iconst 1, 1) := by decide +kernel
theorem dX6_strike_31 : decode cX6_strike 31 = .ok (.iload_n 1, 1) := by decide +kernel
theorem dX6_strike_32 : decode cX6_strike 32 = .ok (.iconst 1, 1) := by decide +kernel
theorem dX6_strike_33 : decode cX6_strike 33 = .ok (.invokevirtual 160, 3) := by decide +kernel
theorem dX6_strike_36 : decode cX6_strike 36 = .ok (.ireturn, 1) := by decide +kernel
theorem dX6_lower_0 : decode cX6_lower 0 = .ok (.aload_n 0, 1) := by decide +kernel
theorem dX6_lower_1 : decode cX6_lower 1 = .ok (.getfield 29, 3) := by decide +kernel
theorem dX6_lower_4 : decode cX6_lower 4 = .ok (.iload_n 1, 1) := by decide +kernel
theorem dX6_lower_5 : decode cX6_lower 5 = .ok (.invokevirtual 153, 3) := by decide +kernel
theorem dX6_lower_8 : decode cX6_lower 8 = .ok (.ifCond .eq 13, 3) := by decide +kernel
theorem dX6_lower_11 : decode cX6_lower 11 = .ok (.iload_n 2, 1) := by decide +kernel
theorem dX6_lower_12 : decode cX6_lower 12 = .ok (.ifCond .lt 9, 3) := by decide +kernel
theorem dX6_lower_15 : decode cX6_lower 15 = .ok (.iload_n 2, 1) := by decide +kernel
theorem dX6_lower_16 : decode cX6_lower 16 = .ok (.bipush 8, 2) := by decide +kernel
theorem dX6_lower_18 : decode cX6_lower 18 = .ok (.if_icmp .le 5, 3) := by decide +kernel
theorem dX6_lower_21 : decode cX6_lower 21 = .ok (.iconst (-1), 1) := by decide +kernel
theorem dX6_lower_22 : decode cX6_lower 22 = .ok (.ireturn, 1) := by decide +kernel
theorem dX6_lower_23 : decode cX6_lower 23 = .ok (.aload_n 0, 1) := by decide +kernel
theorem dX6_lower_24 : decode cX6_lower 24 = .ok (.getfield 29, 3) := by decide +kernel
theorem dX6_lower_27 : decode cX6_lower 27 = .ok (.getfield 156, 3) := by decide +kernel
theorem dX6_lower_30 : decode cX6_lower 30 = .ok (.iload_n 1, 1) := by decide +kernel
theorem dX6_lower_31 : decode cX6_lower 31 = .ok (.iaload, 1) := by decide +kernel
theorem dX6_lower_32 : decode cX6_lower 32 = .ok (.iconst 1, 1) := by decide +kernel
theorem dX6_lower_33 : decode cX6_lower 33 = .ok (.if_icmp .eq 16, 3) := by decide +kernel
theorem dX6_lower_36 : decode cX6_lower 36 = .ok (.aload_n 0, 1) := by decide +kernel
theorem dX6_lower_37 : decode cX6_lower 37 = .ok (.getfield 29, 3) := by decide +kernel
theorem dX6_lower_40 : decode cX6_lower 40 = .ok (.getfield 164, 3) := by decide +kernel
theorem dX6_lower_43 : decode cX6_lower 43 = .ok (.iload_n 1, 1) := by decide +kernel
theorem dX6_lower_44 : decode cX6_lower 44 = .ok (.iaload, 1) := by decide +kernel
theorem dX6_lower_45 : decode cX6_lower 45 = .ok (.iload_n 2, 1) := by decide +kernel
theorem dX6_lower_46 : decode cX6_lower 46 = .ok (.if_icmp .gt 6, 3) := by decide +kernel
theorem dX6_lower_49 : decode cX6_lower 49 = .ok (.bipush (-2), 2) := by decide +kernel
theorem dX6_lower_51 : decode cX6_lower 51 = .ok (.ireturn, 1) := by decide +kernel
theorem dX6_lower_52 : decode cX6_lower 52 = .ok (.aload_n 0, 1) := by decide +kernel
theorem dX6_lower_53 : decode cX6_lower 53 = .ok (.iconst 2, 1) := by decide +kernel
theorem dX6_lower_54 : decode cX6_lower 54 = .ok (.iload_n 1, 1) := by decide +kernel
theorem dX6_lower_55 : decode cX6_lower 55 = .ok (.iload_n 2, 1) := by decide +kernel
theorem dX6_lower_56 : decode cX6_lower 56 = .ok (.invokevirtual 160, 3) := by decide +kernel
theorem dX6_lower_59 : decode cX6_lower 59 = .ok (.ireturn, 1) := by decide +kernel
theorem dX6_redate_0 : decode cX6_redate 0 = .ok (.aload_n 0, 1) := by decide +kernel
theorem dX6_redate_1 : decode cX6_redate 1 = .ok (.getfield 29, 3) := by decide +kernel
theorem dX6_redate_4 : decode cX6_redate 4 = .ok (.iload_n 1, 1) := by decide +kernel
theorem dX6_redate_5 : decode cX6_redate 5 = .ok (.invokevirtual 153, 3) := by decide +kernel
theorem dX6_redate_8 : decode cX6_redate 8 = .ok (.ifCond .eq 20, 3) := by decide +kernel
theorem dX6_redate_11 : decode cX6_redate 11 = .ok (.iload_n 2, 1) := by decide +kernel
theorem dX6_redate_12 : decode cX6_redate 12 = .ok (.ifCond .lt 16, 3) := by decide +kernel
theorem dX6_redate_15 : decode cX6_redate 15 = .ok (.iload_n 2, 1) := by decide +kernel
theorem dX6_redate_16 : decode cX6_redate 16 = .ok (.aload_n 0, 1) := by decide +kernel
theorem dX6_redate_17 : decode cX6_redate 17 = .ok (.getfield 29, 3) := by decide +kernel
theorem dX6_redate_20 : decode cX6_redate 20 = .ok (.getfield 167, 3) := by decide +kernel
theorem dX6_redate_23 : decode cX6_redate 23 = .ok (.iload_n 1, 1) := by decide +kernel
theorem dX6_redate_24 : decode cX6_redate 24 = .ok (.iaload, 1) := by decide +kernel
theorem dX6_redate_25 : decode cX6_redate 25 = .ok (.if_icmp .le 5, 3) := by decide +kernel
theorem dX6_redate_28 : decode cX6_redate 28 = .ok (.iconst (-1), 1) := by decide +kernel
theorem dX6_redate_29 : decode cX6_redate 29 = .ok (.ireturn, 1) := by decide +kernel
theorem dX6_redate_30 : decode cX6_redate 30 = .ok (.aload_n 0, 1) := by decide +kernel
theorem dX6_redate_31 : decode cX6_redate 31 = .ok (.getfield 29, 3) := by decide +kernel
theorem dX6_redate_34 : decode cX6_redate 34 = .ok (.getfield 156, 3) := by decide +kernel
theorem dX6_redate_37 : decode cX6_redate 37 = .ok (.iload_n 1, 1) := by decide +kernel
theorem dX6_redate_38 : decode cX6_redate 38 = .ok (.iaload, 1) := by decide +kernel
theorem dX6_redate_39 : decode cX6_redate 39 = .ok (.iconst 1, 1) := by decide +kernel
theorem dX6_redate_40 : decode cX6_redate 40 = .ok (.if_icmp .eq 16, 3) := by decide +kernel
theorem dX6_redate_43 : decode cX6_redate 43 = .ok (.aload_n 0, 1) := by decide +kernel
theorem dX6_redate_44 : decode cX6_redate 44 = .ok (.getfield 29, 3) := by decide +kernel
theorem dX6_redate_47 : decode cX6_redate 47 = .ok (.getfield 170, 3) := by decide +kernel
theorem dX6_redate_50 : decode cX6_redate 50 = .ok (.iload_n 1, 1) := by decide +kernel
theorem dX6_redate_51 : decode cX6_redate 51 = .ok (.iaload, 1) := by decide +kernel
theorem dX6_redate_52 : decode cX6_redate 52 = .ok (.iload_n 2, 1) := by decide +kernel
theorem dX6_redate_53 : decode cX6_redate 53 = .ok (.if_icmp .ne 6, 3) := by decide +kernel
theorem dX6_redate_56 : decode cX6_redate 56 = .ok (.bipush (-2), 2) := by decide +kernel
theorem dX6_redate_58 : decode cX6_redate 58 = .ok (.ireturn, 1) := by decide +kernel
theorem dX6_redate_59 : decode cX6_redate 59 = .ok (.aload_n 0, 1) := by decide +kernel
theorem dX6_redate_60 : decode cX6_redate 60 = .ok (.iconst 3, 1) := by decide +kernel
theorem dX6_redate_61 : decode cX6_redate 61 = .ok (.iload_n 1, 1) := by decide +kernel
theorem dX6_redate_62 : decode cX6_redate 62 = .ok (.iload_n 2, 1) := by decide +kernel
theorem dX6_redate_63 : decode cX6_redate 63 = .ok (.invokevirtual 160, 3) := by decide +kernel
theorem dX6_redate_66 : decode cX6_redate 66 = .ok (.ireturn, 1) := by decide +kernel
theorem dX6_excuse_0 : decode cX6_excuse 0 = .ok (.aload_n 0, 1) := by decide +kernel
theorem dX6_excuse_1 : decode cX6_excuse 1 = .ok (.getfield 29, 3) := by decide +kernel
theorem dX6_excuse_4 : decode cX6_excuse 4 = .ok (.iload_n 1, 1) := by decide +kernel
theorem dX6_excuse_5 : decode cX6_excuse 5 = .ok (.invokevirtual 153, 3) := by decide +kernel
theorem dX6_excuse_8 : decode cX6_excuse 8 = .ok (.ifCond .ne 5, 3) := by decide +kernel
theorem dX6_excuse_11 : decode cX6_excuse 11 = .ok (.iconst (-1), 1) := by decide +kernel
theorem dX6_excuse_12 : decode cX6_excuse 12 = .ok (.ireturn, 1) := by decide +kernel
theorem dX6_excuse_13 : decode cX6_excuse 13 = .ok (.aload_n 0, 1) := by decide +kernel
theorem dX6_excuse_14 : decode cX6_excuse 14 = .ok (.getfield 29, 3) := by decide +kernel
theorem dX6_excuse_17 : decode cX6_excuse 17 = .ok (.getfield 156, 3) := by decide +kernel
theorem dX6_excuse_20 : decode cX6_excuse 20 = .ok (.iload_n 1, 1) := by decide +kernel
theorem dX6_excuse_21 : decode cX6_excuse 21 = .ok (.iaload, 1) := by decide +kernel
theorem dX6_excuse_22 : decode cX6_excuse 22 = .ok (.iconst 1, 1) := by decide +kernel
theorem dX6_excuse_23 : decode cX6_excuse 23 = .ok (.if_icmp .ne 6, 3) := by decide +kernel
theorem dX6_excuse_26 : decode cX6_excuse 26 = .ok (.bipush (-2), 2) := by decide +kernel
theorem dX6_excuse_28 : decode cX6_excuse 28 = .ok (.ireturn, 1) := by decide +kernel
theorem dX6_excuse_29 : decode cX6_excuse 29 = .ok (.aload_n 0, 1) := by decide +kernel
theorem dX6_excuse_30 : decode cX6_excuse 30 = .ok (.iconst 4, 1) := by decide +kernel
theorem dX6_excuse_31 : decode cX6_excuse 31 = .ok (.iload_n 1, 1) := by decide +kernel
theorem dX6_excuse_32 : decode cX6_excuse 32 = .ok (.iconst 1, 1) := by decide +kernel
theorem dX6_excuse_33 : decode cX6_excuse 33 = .ok (.aload_n 0, 1) := by decide +kernel
theorem dX6_excuse_34 : decode cX6_excuse 34 = .ok (.getfield 29, 3) := by decide +kernel
theorem dX6_excuse_37 : decode cX6_excuse 37 = .ok (.getfield 173, 3) := by decide +kernel
theorem dX6_excuse_40 : decode cX6_excuse 40 = .ok (.iload_n 1, 1) := by decide +kernel
theorem dX6_excuse_41 : decode cX6_excuse 41 = .ok (.iaload, 1) := by decide +kernel
theorem dX6_excuse_42 : decode cX6_excuse 42 = .ok (.isub, 1) := by decide +kernel
theorem dX6_excuse_43 : decode cX6_excuse 43 = .ok (.invokevirtual 160, 3) := by decide +kernel
theorem dX6_excuse_46 : decode cX6_excuse 46 = .ok (.ireturn, 1) := by decide +kernel
theorem dX6_undo_0 : decode cX6_undo 0 = .ok (.aload_n 0, 1) := by decide +kernel
theorem dX6_undo_1 : decode cX6_undo 1 = .ok (.getfield 52, 3) := by decide +kernel
theorem dX6_undo_4 : decode cX6_undo 4 = .ok (.invokevirtual 176, 3) := by decide +kernel
theorem dX6_undo_7 : decode cX6_undo 7 = .ok (.ifCond .ne 6, 3) := by decide +kernel
theorem dX6_undo_10 : decode cX6_undo 10 = .ok (.bipush (-2), 2) := by decide +kernel
theorem dX6_undo_12 : decode cX6_undo 12 = .ok (.ireturn, 1) := by decide +kernel
theorem dX6_undo_13 : decode cX6_undo 13 = .ok (.aload_n 0, 1) := by decide +kernel
theorem dX6_undo_14 : decode cX6_undo 14 = .ok (.getfield 52, 3) := by decide +kernel
theorem dX6_undo_17 : decode cX6_undo 17 = .ok (.getfield 180, 3) := by decide +kernel
theorem dX6_undo_20 : decode cX6_undo 20 = .ok (.istore_n 1, 1) := by decide +kernel
theorem dX6_undo_21 : decode cX6_undo 21 = .ok (.iload_n 1, 1) := by decide +kernel
theorem dX6_undo_22 : decode cX6_undo 22 = .ok (.ifCond .ne 13, 3) := by decide +kernel
theorem dX6_undo_25 : decode cX6_undo 25 = .ok (.aload_n 0, 1) := by decide +kernel
theorem dX6_undo_26 : decode cX6_undo 26 = .ok (.getfield 29, 3) := by decide +kernel
theorem dX6_undo_29 : decode cX6_undo 29 = .ok (.invokevirtual 183, 3) := by decide +kernel
theorem dX6_undo_32 : decode cX6_undo 32 = .ok (.goto 55, 3) := by decide +kernel
theorem dX6_undo_35 : decode cX6_undo 35 = .ok (.iload_n 1, 1) := by decide +kernel
theorem dX6_undo_36 : decode cX6_undo 36 = .ok (.iconst 5, 1) := by decide +kernel
theorem dX6_undo_37 : decode cX6_undo 37 = .ok (.if_icmp .ne 27, 3) := by decide +kernel
theorem dX6_undo_40 : decode cX6_undo 40 = .ok (.aload_n 0, 1) := by decide +kernel
theorem dX6_undo_41 : decode cX6_undo 41 = .ok (.getfield 19, 3) := by decide +kernel
theorem dX6_undo_44 : decode cX6_undo 44 = .ok (.aload_n 0, 1) := by decide +kernel
theorem dX6_undo_45 : decode cX6_undo 45 = .ok (.getfield 52, 3) := by decide +kernel
theorem dX6_undo_48 : decode cX6_undo 48 = .ok (.getfield 185, 3) := by decide +kernel
theorem dX6_undo_51 : decode cX6_undo 51 = .ok (.aload_n 0, 1) := by decide +kernel
theorem dX6_undo_52 : decode cX6_undo 52 = .ok (.getfield 52, 3) := by decide +kernel
theorem dX6_undo_55 : decode cX6_undo 55 = .ok (.getfield 188, 3) := by decide +kernel
theorem dX6_undo_58 : decode cX6_undo 58 = .ok (.invokevirtual 112, 3) := by decide +kernel
theorem dX6_undo_61 : decode cX6_undo 61 = .ok (.goto 26, 3) := by decide +kernel
theorem dX6_undo_64 : decode cX6_undo 64 = .ok (.aload_n 0, 1) := by decide +kernel
theorem dX6_undo_65 : decode cX6_undo 65 = .ok (.getfield 29, 3) := by decide +kernel
theorem dX6_undo_68 : decode cX6_undo 68 = .ok (.iload_n 1, 1) := by decide +kernel
theorem dX6_undo_69 : decode cX6_undo 69 = .ok (.aload_n 0, 1) := by decide +kernel
theorem dX6_undo_70 : decode cX6_undo 70 = .ok (.getfield 52, 3) := by decide +kernel
theorem dX6_undo_73 : decode cX6_undo 73 = .ok (.getfield 185, 3) := by decide +kernel
theorem dX6_undo_76 : decode cX6_undo 76 = .ok (.aload_n 0, 1) := by decide +kernel
theorem dX6_undo_77 : decode cX6_undo 77 = .ok (.getfield 52, 3) := by decide +kernel
theorem dX6_undo_80 : decode cX6_undo 80 = .ok (.getfield 188, 3) := by decide +kernel
theorem dX6_undo_83 : decode cX6_undo 83 = .ok (.invokevirtual 191, 3) := by decide +kernel
theorem dX6_undo_86 : decode cX6_undo 86 = .ok (.pop, 1) := by decide +kernel
theorem dX6_undo_87 : decode cX6_undo 87 = .ok (.aload_n 0, 1) := by decide +kernel
theorem dX6_undo_88 : decode cX6_undo 88 = .ok (.getfield 45, 3) := by decide +kernel
theorem dX6_undo_91 : decode cX6_undo 91 = .ok (.invokevirtual 101, 3) := by decide +kernel
theorem dX6_undo_94 : decode cX6_undo 94 = .ok (.aload_n 0, 1) := by decide +kernel
theorem dX6_undo_95 : decode cX6_undo 95 = .ok (.getfield 52, 3) := by decide +kernel
theorem dX6_undo_98 : decode cX6_undo 98 = .ok (.getfield 97, 3) := by decide +kernel
theorem dX6_undo_101 : decode cX6_undo 101 = .ok (.ireturn, 1) := by decide +kernel
theorem dX6_year_0 : decode cX6_year 0 = .ok (.iload_n 1, 1) := by decide +kernel
theorem dX6_year_1 : decode cX6_year 1 = .ok (.ifCond .lt 21, 3) := by decide +kernel
theorem dX6_year_4 : decode cX6_year 4 = .ok (.iload_n 1, 1) := by decide +kernel
theorem dX6_year_5 : decode cX6_year 5 = .ok (.sipush 9999, 3) := by decide +kernel
theorem dX6_year_8 : decode cX6_year 8 = .ok (.if_icmp .gt 14, 3) := by decide +kernel
theorem dX6_year_11 : decode cX6_year 11 = .ok (.iload_n 2, 1) := by decide +kernel
theorem dX6_year_12 : decode cX6_year 12 = .ok (.iconst 1, 1) := by decide +kernel
theorem dX6_year_13 : decode cX6_year 13 = .ok (.if_icmp .lt 9, 3) := by decide +kernel
theorem dX6_year_16 : decode cX6_year 16 = .ok (.iload_n 2, 1) := by decide +kernel
theorem dX6_year_17 : decode cX6_year 17 = .ok (.bipush 20, 2) := by decide +kernel
theorem dX6_year_19 : decode cX6_year 19 = .ok (.if_icmp .le 5, 3) := by decide +kernel
theorem dX6_year_22 : decode cX6_year 22 = .ok (.iconst (-1), 1) := by decide +kernel
theorem dX6_year_23 : decode cX6_year 23 = .ok (.ireturn, 1) := by decide +kernel
theorem dX6_year_24 : decode cX6_year 24 = .ok (.aload_n 0, 1) := by decide +kernel
theorem dX6_year_25 : decode cX6_year 25 = .ok (.getfield 29, 3) := by decide +kernel
theorem dX6_year_28 : decode cX6_year 28 = .ok (.getfield 94, 3) := by decide +kernel
theorem dX6_year_31 : decode cX6_year 31 = .ok (.istore_n 3, 1) := by decide +kernel
theorem dX6_year_32 : decode cX6_year 32 = .ok (.iconst 0, 1) := by decide +kernel
theorem dX6_year_33 : decode cX6_year 33 = .ok (.istore 4, 2) := by decide +kernel
theorem dX6_year_35 : decode cX6_year 35 = .ok (.iload 4, 2) := by decide +kernel
theorem dX6_year_37 : decode cX6_year 37 = .ok (.iload_n 2, 1) := by decide +kernel
theorem dX6_year_38 : decode cX6_year 38 = .ok (.if_icmp .ge 41, 3) := by decide +kernel
theorem dX6_year_41 : decode cX6_year 41 = .ok (.ldc2_w 194, 3) := by decide +kernel
theorem dX6_year_44 : decode cX6_year 44 = .ok (.iload_n 1, 1) := by decide +kernel
theorem dX6_year_45 : decode cX6_year 45 = .ok (.i2l, 1) := by decide +kernel
theorem dX6_year_46 : decode cX6_year 46 = .ok (.lmul, 1) := by decide +kernel
theorem dX6_year_47 : decode cX6_year 47 = .ok (.ldc2_w 196, 3) := by decide +kernel
theorem dX6_year_50 : decode cX6_year 50 = .ok (.iload 4, 2) := by decide +kernel
theorem dX6_year_52 : decode cX6_year 52 = .ok (.i2l, 1) := by decide +kernel
theorem dX6_year_53 : decode cX6_year 53 = .ok (.lmul, 1) := by decide +kernel
theorem dX6_year_54 : decode cX6_year 54 = .ok (.ladd, 1) := by decide +kernel
theorem dX6_year_55 : decode cX6_year 55 = .ok (.lconst 1, 1) := by decide +kernel
theorem dX6_year_56 : decode cX6_year 56 = .ok (.ladd, 1) := by decide +kernel
theorem dX6_year_57 : decode cX6_year 57 = .ok (.lstore 5, 2) := by decide +kernel
theorem dX6_year_59 : decode cX6_year 59 = .ok (.aload_n 0, 1) := by decide +kernel
theorem dX6_year_60 : decode cX6_year 60 = .ok (.lload 5, 2) := by decide +kernel
theorem dX6_year_62 : decode cX6_year 62 = .ok (.lload 5, 2) := by decide +kernel
theorem dX6_year_64 : decode cX6_year 64 = .ok (.lmul, 1) := by decide +kernel
theorem dX6_year_65 : decode cX6_year 65 = .ok (.ldc2_w 198, 3) := by decide +kernel
theorem dX6_year_68 : decode cX6_year 68 = .ok (.lrem, 1) := by decide +kernel
theorem dX6_year_69 : decode cX6_year 69 = .ok (.l2i, 1) := by decide +kernel
theorem dX6_year_70 : decode cX6_year 70 = .ok (.invokevirtual 200, 3) := by decide +kernel
theorem dX6_year_73 : decode cX6_year 73 = .ok (.iinc 4 1, 3) := by decide +kernel
theorem dX6_year_76 : decode cX6_year 76 = .ok (.goto (-41), 3) := by decide +kernel
theorem dX6_year_79 : decode cX6_year 79 = .ok (.aload_n 0, 1) := by decide +kernel
theorem dX6_year_80 : decode cX6_year 80 = .ok (.getfield 29, 3) := by decide +kernel
theorem dX6_year_83 : decode cX6_year 83 = .ok (.getfield 94, 3) := by decide +kernel
theorem dX6_year_86 : decode cX6_year 86 = .ok (.iload_n 3, 1) := by decide +kernel
theorem dX6_year_87 : decode cX6_year 87 = .ok (.isub, 1) := by decide +kernel
theorem dX6_year_88 : decode cX6_year 88 = .ok (.ireturn, 1) := by decide +kernel
theorem dX6_event_0 : decode cX6_event 0 = .ok (.aload_n 0, 1) := by decide +kernel
theorem dX6_event_1 : decode cX6_event 1 = .ok (.getfield 29, 3) := by decide +kernel
theorem dX6_event_4 : decode cX6_event 4 = .ok (.iload_n 1, 1) := by decide +kernel
theorem dX6_event_5 : decode cX6_event 5 = .ok (.invokevirtual 204, 3) := by decide +kernel
theorem dX6_event_8 : decode cX6_event 8 = .ok (.ifCond .eq 13, 3) := by decide +kernel
theorem dX6_event_11 : decode cX6_event 11 = .ok (.iload_n 2, 1) := by decide +kernel
theorem dX6_event_12 : decode cX6_event 12 = .ok (.ifCond .lt 9, 3) := by decide +kernel
theorem dX6_event_15 : decode cX6_event 15 = .ok (.iload_n 2, 1) := by decide +kernel
theorem dX6_event_16 : decode cX6_event 16 = .ok (.bipush 10, 2) := by decide +kernel
theorem dX6_event_18 : decode cX6_event 18 = .ok (.if_icmp .le 5, 3) := by decide +kernel
theorem dX6_event_21 : decode cX6_event 21 = .ok (.iconst (-1), 1) := by decide +kernel
theorem dX6_event_22 : decode cX6_event 22 = .ok (.ireturn, 1) := by decide +kernel
theorem dX6_event_23 : decode cX6_event 23 = .ok (.aload_n 0, 1) := by decide +kernel
theorem dX6_event_24 : decode cX6_event 24 = .ok (.getfield 29, 3) := by decide +kernel
theorem dX6_event_27 : decode cX6_event 27 = .ok (.iload_n 1, 1) := by decide +kernel
theorem dX6_event_28 : decode cX6_event 28 = .ok (.iload_n 2, 1) := by decide +kernel
theorem dX6_event_29 : decode cX6_event 29 = .ok (.invokevirtual 207, 3) := by decide +kernel
theorem dX6_event_32 : decode cX6_event 32 = .ok (.ireturn, 1) := by decide +kernel
theorem dX6_sum_0 : decode cX6_sum 0 = .ok (.iload_n 1, 1) := by decide +kernel
theorem dX6_sum_1 : decode cX6_sum 1 = .ok (.invokestatic 140, 3) := by decide +kernel
theorem dX6_sum_4 : decode cX6_sum 4 = .ok (.ifCond .eq 14, 3) := by decide +kernel
theorem dX6_sum_7 : decode cX6_sum 7 = .ok (.iload_n 2, 1) := by decide +kernel
theorem dX6_sum_8 : decode cX6_sum 8 = .ok (.ifCond .lt 10, 3) := by decide +kernel
theorem dX6_sum_11 : decode cX6_sum 11 = .ok (.iload_n 2, 1) := by decide +kernel
theorem dX6_sum_12 : decode cX6_sum 12 = .ok (.sipush 9999, 3) := by decide +kernel
theorem dX6_sum_15 : decode cX6_sum 15 = .ok (.if_icmp .le 5, 3) := by decide +kernel
theorem dX6_sum_18 : decode cX6_sum 18 = .ok (.iconst (-1), 1) := by decide +kernel
theorem dX6_sum_19 : decode cX6_sum 19 = .ok (.ireturn, 1) := by decide +kernel
theorem dX6_sum_20 : decode cX6_sum 20 = .ok (.iconst 0, 1) := by decide +kernel
theorem dX6_sum_21 : decode cX6_sum 21 = .ok (.aload_n 0, 1) := by decide +kernel
theorem dX6_sum_22 : decode cX6_sum 22 = .ok (.getfield 45, 3) := by decide +kernel
theorem dX6_sum_25 : decode cX6_sum 25 = .ok (.iload_n 1, 1) := by decide +kernel
theorem dX6_sum_26 : decode cX6_sum 26 = .ok (.iload_n 2, 1) := by decide +kernel
theorem dX6_sum_27 : decode cX6_sum 27 = .ok (.invokevirtual 210, 3) := by decide +kernel
theorem dX6_sum_30 : decode cX6_sum 30 = .ok (.invokestatic 213, 3) := by decide +kernel
theorem dX6_sum_33 : decode cX6_sum 33 = .ok (.ireturn, 1) := by decide +kernel
theorem dX6_need_0 : decode cX6_need 0 = .ok (.iload_n 1, 1) := by decide +kernel
theorem dX6_need_1 : decode cX6_need 1 = .ok (.invokestatic 140, 3) := by decide +kernel
theorem dX6_need_4 : decode cX6_need 4 = .ok (.ifCond .ne 5, 3) := by decide +kernel
theorem dX6_need_7 : decode cX6_need 7 = .ok (.iconst (-1), 1) := by decide +kernel
theorem dX6_need_8 : decode cX6_need 8 = .ok (.ireturn, 1) := by decide +kernel
theorem dX6_need_9 : decode cX6_need 9 = .ok (.aload_n 0, 1) := by decide +kernel
theorem dX6_need_10 : decode cX6_need 10 = .ok (.getfield 36, 3) := by decide +kernel
theorem dX6_need_13 : decode cX6_need 13 = .ok (.iload_n 1, 1) := by decide +kernel
theorem dX6_need_14 : decode cX6_need 14 = .ok (.aload_n 0, 1) := by decide +kernel
theorem dX6_need_15 : decode cX6_need 15 = .ok (.getfield 98, 3) := by decide +kernel
theorem dX6_need_18 : decode cX6_need 18 = .ok (.invokevirtual 218, 3) := by decide +kernel
theorem dX6_need_21 : decode cX6_need 21 = .ok (.ifCond .eq 7, 3) := by decide +kernel
theorem dX6_need_24 : decode cX6_need 24 = .ok (.iconst 2, 1) := by decide +kernel
theorem dX6_need_25 : decode cX6_need 25 = .ok (.goto 4, 3) := by decide +kernel
theorem dX6_need_28 : decode cX6_need 28 = .ok (.iconst 1, 1) := by decide +kernel
theorem dX6_need_29 : decode cX6_need 29 = .ok (.istore_n 2, 1) := by decide +kernel
theorem dX6_need_30 : decode cX6_need 30 = .ok (.aload_n 0, 1) := by decide +kernel
theorem dX6_need_31 : decode cX6_need 31 = .ok (.getfield 19, 3) := by decide +kernel
theorem dX6_need_34 : decode cX6_need 34 = .ok (.iconst 1, 1) := by decide +kernel
theorem dX6_need_35 : decode cX6_need 35 = .ok (.invokevirtual 108, 3) := by decide +kernel
theorem dX6_need_38 : decode cX6_need 38 = .ok (.aload_n 0, 1) := by decide +kernel
theorem dX6_need_39 : decode cX6_need 39 = .ok (.getfield 45, 3) := by decide +kernel
theorem dX6_need_42 : decode cX6_need 42 = .ok (.iload_n 1, 1) := by decide +kernel
theorem dX6_need_43 : decode cX6_need 43 = .ok (.aload_n 0, 1) := by decide +kernel
theorem dX6_need_44 : decode cX6_need 44 = .ok (.getfield 98, 3) := by decide +kernel
theorem dX6_need_47 : decode cX6_need 47 = .ok (.invokevirtual 210, 3) := by decide +kernel
theorem dX6_need_50 : decode cX6_need 50 = .ok (.isub, 1) := by decide +kernel
theorem dX6_need_51 : decode cX6_need 51 = .ok (.istore_n 3, 1) := by decide +kernel
theorem dX6_need_52 : decode cX6_need 52 = .ok (.iconst 1, 1) := by decide +kernel
theorem dX6_need_53 : decode cX6_need 53 = .ok (.istore 4, 2) := by decide +kernel
theorem dX6_need_55 : decode cX6_need 55 = .ok (.iload 4, 2) := by decide +kernel
theorem dX6_need_57 : decode cX6_need 57 = .ok (.bipush 99, 2) := by decide +kernel
theorem dX6_need_59 : decode cX6_need 59 = .ok (.if_icmp .gt 20, 3) := by decide +kernel
theorem dX6_need_62 : decode cX6_need 62 = .ok (.iload 4, 2) := by decide +kernel
theorem dX6_need_64 : decode cX6_need 64 = .ok (.iload_n 2, 1) := by decide +kernel
theorem dX6_need_65 : decode cX6_need 65 = .ok (.imul, 1) := by decide +kernel
theorem dX6_need_66 : decode cX6_need 66 = .ok (.iload_n 3, 1) := by decide +kernel
theorem dX6_need_67 : decode cX6_need 67 = .ok (.if_icmp .lt 6, 3) := by decide +kernel
theorem dX6_need_70 : decode cX6_need 70 = .ok (.iload 4, 2) := by decide +kernel
theorem dX6_need_72 : decode cX6_need 72 = .ok (.ireturn, 1) := by decide +kernel
theorem dX6_need_73 : decode cX6_need 73 = .ok (.iinc 4 1, 3) := by decide +kernel
theorem dX6_need_76 : decode cX6_need 76 = .ok (.goto (-21), 3) := by decide +kernel
theorem dX6_need_79 : decode cX6_need 79 = .ok (.bipush (-4), 2) := by decide +kernel
theorem dX6_need_81 : decode cX6_need 81 = .ok (.ireturn, 1) := by decide +kernel
theorem dX6_would_0 : decode cX6_would 0 = .ok (.aload_n 0, 1) := by decide +kernel
theorem dX6_would_1 : decode cX6_would 1 = .ok (.iload_n 1, 1) := by decide +kernel
theorem dX6_would_2 : decode cX6_would 2 = .ok (.iload_n 2, 1) := by decide +kernel
theorem dX6_would_3 : decode cX6_would 3 = .ok (.iload_n 3, 1) := by decide +kernel
theorem dX6_would_4 : decode cX6_would 4 = .ok (.invokevirtual 129, 3) := by decide +kernel
theorem dX6_would_7 : decode cX6_would 7 = .ok (.ifCond .ne 5, 3) := by decide +kernel
theorem dX6_would_10 : decode cX6_would 10 = .ok (.iconst (-1), 1) := by decide +kernel
theorem dX6_would_11 : decode cX6_would 11 = .ok (.ireturn, 1) := by decide +kernel
theorem dX6_would_12 : decode cX6_would 12 = .ok (.aload_n 0, 1) := by decide +kernel
theorem dX6_would_13 : decode cX6_would 13 = .ok (.iload_n 1, 1) := by decide +kernel
theorem dX6_would_14 : decode cX6_would 14 = .ok (.invokevirtual 221, 3) := by decide +kernel
theorem dX6_would_17 : decode cX6_would 17 = .ok (.istore 4, 2) := by decide +kernel
theorem dX6_would_19 : decode cX6_would 19 = .ok (.aload_n 0, 1) := by decide +kernel
theorem dX6_would_20 : decode cX6_would 20 = .ok (.getfield 29, 3) := by decide +kernel
theorem dX6_would_23 : decode cX6_would 23 = .ok (.iload_n 1, 1) := by decide +kernel
theorem dX6_would_24 : decode cX6_would 24 = .ok (.aload_n 0, 1) := by decide +kernel
theorem dX6_would_25 : decode cX6_would 25 = .ok (.getfield 98, 3) := by decide +kernel
theorem dX6_would_28 : decode cX6_would 28 = .ok (.iload_n 2, 1) := by decide +kernel
theorem dX6_would_29 : decode cX6_would 29 = .ok (.iload_n 3, 1) := by decide +kernel
theorem dX6_would_30 : decode cX6_would 30 = .ok (.aload_n 0, 1) := by decide +kernel
theorem dX6_would_31 : decode cX6_would 31 = .ok (.getfield 19, 3) := by decide +kernel
theorem dX6_would_34 : decode cX6_would 34 = .ok (.iload_n 3, 1) := by decide +kernel
theorem dX6_would_35 : decode cX6_would 35 = .ok (.invokevirtual 123, 3) := by decide +kernel
theorem dX6_would_38 : decode cX6_would 38 = .ok (.iconst 0, 1) := by decide +kernel
theorem dX6_would_39 : decode cX6_would 39 = .ok (.invokevirtual 133, 3) := by decide +kernel
theorem dX6_would_42 : decode cX6_would 42 = .ok (.aload_n 0, 1) := by decide +kernel
theorem dX6_would_43 : decode cX6_would 43 = .ok (.getfield 45, 3) := by decide +kernel
theorem dX6_would_46 : decode cX6_would 46 = .ok (.invokevirtual 224, 3) := by decide +kernel
theorem dX6_would_49 : decode cX6_would 49 = .ok (.aload_n 0, 1) := by decide +kernel
theorem dX6_would_50 : decode cX6_would 50 = .ok (.iload_n 1, 1) := by decide +kernel
theorem dX6_would_51 : decode cX6_would 51 = .ok (.invokevirtual 221, 3) := by decide +kernel
theorem dX6_would_54 : decode cX6_would 54 = .ok (.istore 5, 2) := by decide +kernel
theorem dX6_would_56 : decode cX6_would 56 = .ok (.aload_n 0, 1) := by decide +kernel
theorem dX6_would_57 : decode cX6_would 57 = .ok (.getfield 29, 3) := by decide +kernel
theorem dX6_would_60 : decode cX6_would 60 = .ok (.invokevirtual 183, 3) := by decide +kernel
theorem dX6_would_63 : decode cX6_would 63 = .ok (.aload_n 0, 1) := by decide +kernel
theorem dX6_would_64 : decode cX6_would 64 = .ok (.getfield 45, 3) := by decide +kernel
theorem dX6_would_67 : decode cX6_would 67 = .ok (.invokevirtual 101, 3) := by decide +kernel
theorem dX6_would_70 : decode cX6_would 70 = .ok (.iload 5, 2) := by decide +kernel
theorem dX6_would_72 : decode cX6_would 72 = .ok (.iload 4, 2) := by decide +kernel
theorem dX6_would_74 : decode cX6_would 74 = .ok (.isub, 1) := by decide +kernel
theorem dX6_would_75 : decode cX6_would 75 = .ok (.ireturn, 1) := by decide +kernel
theorem dX6_banned_0 : decode cX6_banned 0 = .ok (.iload_n 1, 1) := by decide +kernel
theorem dX6_banned_1 : decode cX6_banned 1 = .ok (.invokestatic 140, 3) := by decide +kernel
theorem dX6_banned_4 : decode cX6_banned 4 = .ok (.ifCond .eq 13, 3) := by decide +kernel
theorem dX6_banned_7 : decode cX6_banned 7 = .ok (.iload_n 2, 1) := by decide +kernel
theorem dX6_banned_8 : decode cX6_banned 8 = .ok (.ifCond .lt 9, 3) := by decide +kernel
theorem dX6_banned_11 : decode cX6_banned 11 = .ok (.iload_n 2, 1) := by decide +kernel
theorem dX6_banned_12 : decode cX6_banned 12 = .ok (.ldc 227, 2) := by decide +kernel
theorem dX6_banned_14 : decode cX6_banned 14 = .ok (.if_icmp .le 5, 3) := by decide +kernel
theorem dX6_banned_17 : decode cX6_banned 17 = .ok (.iconst (-1), 1) := by decide +kernel
theorem dX6_banned_18 : decode cX6_banned 18 = .ok (.ireturn, 1) := by decide +kernel
theorem dX6_banned_19 : decode cX6_banned 19 = .ok (.aload_n 0, 1) := by decide +kernel
theorem dX6_banned_20 : decode cX6_banned 20 = .ok (.getfield 36, 3) := by decide +kernel
theorem dX6_banned_23 : decode cX6_banned 23 = .ok (.iload_n 1, 1) := by decide +kernel
theorem dX6_banned_24 : decode cX6_banned 24 = .ok (.iload_n 2, 1) := by decide +kernel
theorem dX6_banned_25 : decode cX6_banned 25 = .ok (.invokevirtual 218, 3) := by decide +kernel
theorem dX6_banned_28 : decode cX6_banned 28 = .ok (.ifCond .eq 7, 3) := by decide +kernel
theorem dX6_banned_31 : decode cX6_banned 31 = .ok (.iconst 1, 1) := by decide +kernel
theorem dX6_banned_32 : decode cX6_banned 32 = .ok (.goto 4, 3) := by decide +kernel
theorem dX6_banned_35 : decode cX6_banned 35 = .ok (.iconst 0, 1) := by decide +kernel
theorem dX6_banned_36 : decode cX6_banned 36 = .ok (.ireturn, 1) := by decide +kernel
theorem dX6_days_0 : decode cX6_days 0 = .ok (.iload_n 1, 1) := by decide +kernel
theorem dX6_days_1 : decode cX6_days 1 = .ok (.invokestatic 140, 3) := by decide +kernel
theorem dX6_days_4 : decode cX6_days 4 = .ok (.ifCond .eq 18, 3) := by decide +kernel
theorem dX6_days_7 : decode cX6_days 7 = .ok (.iload_n 2, 1) := by decide +kernel
theorem dX6_days_8 : decode cX6_days 8 = .ok (.ifCond .lt 14, 3) := by decide +kernel
theorem dX6_days_11 : decode cX6_days 11 = .ok (.iload_n 3, 1) := by decide +kernel
theorem dX6_days_12 : decode cX6_days 12 = .ok (.ldc 227, 2) := by decide +kernel
theorem dX6_days_14 : decode cX6_days 14 = .ok (.if_icmp .gt 8, 3) := by decide +kernel
theorem dX6_days_17 : decode cX6_days 17 = .ok (.iload_n 2, 1) := by decide +kernel
theorem dX6_days_18 : decode cX6_days 18 = .ok (.iload_n 3, 1) := by decide +kernel
theorem dX6_days_19 : decode cX6_days 19 = .ok (.if_icmp .le 5, 3) := by decide +kernel
theorem dX6_days_22 : decode cX6_days 22 = .ok (.iconst (-1), 1) := by decide +kernel
theorem dX6_days_23 : decode cX6_days 23 = .ok (.ireturn, 1) := by decide +kernel
theorem dX6_days_24 : decode cX6_days 24 = .ok (.aload_n 0, 1) := by decide +kernel
theorem dX6_days_25 : decode cX6_days 25 = .ok (.getfield 36, 3) := by decide +kernel
theorem dX6_days_28 : decode cX6_days 28 = .ok (.iload_n 1, 1) := by decide +kernel
theorem dX6_days_29 : decode cX6_days 29 = .ok (.iload_n 2, 1) := by decide +kernel
theorem dX6_days_30 : decode cX6_days 30 = .ok (.iload_n 3, 1) := by decide +kernel
theorem dX6_days_31 : decode cX6_days 31 = .ok (.invokevirtual 228, 3) := by decide +kernel
theorem dX6_days_34 : decode cX6_days 34 = .ok (.ireturn, 1) := by decide +kernel
theorem dX6_free_0 : decode cX6_free 0 = .ok (.iload_n 1, 1) := by decide +kernel
theorem dX6_free_1 : decode cX6_free 1 = .ok (.invokestatic 140, 3) := by decide +kernel
theorem dX6_free_4 : decode cX6_free 4 = .ok (.ifCond .eq 18, 3) := by decide +kernel
theorem dX6_free_7 : decode cX6_free 7 = .ok (.aload_n 0, 1) := by decide +kernel
theorem dX6_free_8 : decode cX6_free 8 = .ok (.getfield 36, 3) := by decide +kernel
theorem dX6_free_11 : decode cX6_free 11 = .ok (.iload_n 1, 1) := by decide +kernel
theorem dX6_free_12 : decode cX6_free 12 = .ok (.aload_n 0, 1) := by decide +kernel
theorem dX6_free_13 : decode cX6_free 13 = .ok (.getfield 98, 3) := by decide +kernel
theorem dX6_free_16 : decode cX6_free 16 = .ok (.invokevirtual 231, 3) := by decide +kernel
theorem dX6_free_19 : decode cX6_free 19 = .ok (.goto 4, 3) := by decide +kernel
theorem dX6_free_22 : decode cX6_free 22 = .ok (.iconst (-1), 1) := by decide +kernel
theorem dX6_free_23 : decode cX6_free 23 = .ok (.ireturn, 1) := by decide +kernel
theorem dX6_ban_0 : decode cX6_ban 0 = .ok (.iload_n 1, 1) := by decide +kernel
theorem dX6_ban_1 : decode cX6_ban 1 = .ok (.invokestatic 140, 3) := by decide +kernel
theorem dX6_ban_4 : decode cX6_ban 4 = .ok (.ifCond .eq 17, 3) := by decide +kernel
theorem dX6_ban_7 : decode cX6_ban 7 = .ok (.iload_n 2, 1) := by decide +kernel
theorem dX6_ban_8 : decode cX6_ban 8 = .ok (.iconst (-1), 1) := by decide +kernel
theorem dX6_ban_9 : decode cX6_ban 9 = .ok (.if_icmp .lt 12, 3) := by decide +kernel
theorem dX6_ban_12 : decode cX6_ban 12 = .ok (.iload_n 3, 1) := by decide +kernel
theorem dX6_ban_13 : decode cX6_ban 13 = .ok (.ifCond .lt 8, 3) := by decide +kernel
theorem dX6_ban_16 : decode cX6_ban 16 = .ok (.iload_n 3, 1) := by decide +kernel
theorem dX6_ban_17 : decode cX6_ban 17 = .ok (.iconst 4, 1) := by decide +kernel
theorem dX6_ban_18 : decode cX6_ban 18 = .ok (.if_icmp .le 5, 3) := by decide +kernel
theorem dX6_ban_21 : decode cX6_ban 21 = .ok (.iconst (-1), 1) := by decide +kernel
theorem dX6_ban_22 : decode cX6_ban 22 = .ok (.ireturn, 1) := by decide +kernel
theorem dX6_ban_23 : decode cX6_ban 23 = .ok (.iload_n 2, 1) := by decide +kernel
theorem dX6_ban_24 : decode cX6_ban 24 = .ok (.iconst (-1), 1) := by decide +kernel
theorem dX6_ban_25 : decode cX6_ban 25 = .ok (.if_icmp .ne 12, 3) := by decide +kernel
theorem dX6_ban_28 : decode cX6_ban 28 = .ok (.aload_n 0, 1) := by decide +kernel
theorem dX6_ban_29 : decode cX6_ban 29 = .ok (.getfield 36, 3) := by decide +kernel
theorem dX6_ban_32 : decode cX6_ban 32 = .ok (.iload_n 1, 1) := by decide +kernel
theorem dX6_ban_33 : decode cX6_ban 33 = .ok (.invokevirtual 234, 3) := by decide +kernel
theorem dX6_ban_36 : decode cX6_ban 36 = .ok (.ireturn, 1) := by decide +kernel
theorem dX6_ban_37 : decode cX6_ban 37 = .ok (.aload_n 0, 1) := by decide +kernel
theorem dX6_ban_38 : decode cX6_ban 38 = .ok (.getfield 36, 3) := by decide +kernel
theorem dX6_ban_41 : decode cX6_ban 41 = .ok (.iload_n 1, 1) := by decide +kernel
theorem dX6_ban_42 : decode cX6_ban 42 = .ok (.iload_n 2, 1) := by decide +kernel
theorem dX6_ban_43 : decode cX6_ban 43 = .ok (.invokevirtual 237, 3) := by decide +kernel
theorem dX6_ban_46 : decode cX6_ban 46 = .ok (.istore 4, 2) := by decide +kernel
theorem dX6_ban_48 : decode cX6_ban 48 = .ok (.iload 4, 2) := by decide +kernel
theorem dX6_ban_50 : decode cX6_ban 50 = .ok (.ifCond .ge 8, 3) := by decide +kernel
theorem dX6_ban_53 : decode cX6_ban 53 = .ok (.bipush (-4), 2) := by decide +kernel
theorem dX6_ban_55 : decode cX6_ban 55 = .ok (.goto 13, 3) := by decide +kernel
theorem dX6_ban_58 : decode cX6_ban 58 = .ok (.aload_n 0, 1) := by decide +kernel
theorem dX6_ban_59 : decode cX6_ban 59 = .ok (.getfield 36, 3) := by decide +kernel
theorem dX6_ban_62 : decode cX6_ban 62 = .ok (.iload 4, 2) := by decide +kernel
theorem dX6_ban_64 : decode cX6_ban 64 = .ok (.iload_n 3, 1) := by decide +kernel
theorem dX6_ban_65 : decode cX6_ban 65 = .ok (.invokevirtual 240, 3) := by decide +kernel
theorem dX6_ban_68 : decode cX6_ban 68 = .ok (.ireturn, 1) := by decide +kernel
theorem dX6_seen_0 : decode cX6_seen 0 = .ok (.iload_n 1, 1) := by decide +kernel
theorem dX6_seen_1 : decode cX6_seen 1 = .ok (.ifCond .lt 24, 3) := by decide +kernel
theorem dX6_seen_4 : decode cX6_seen 4 = .ok (.iload_n 1, 1) := by decide +kernel
theorem dX6_seen_5 : decode cX6_seen 5 = .ok (.iconst 3, 1) := by decide +kernel
theorem dX6_seen_6 : decode cX6_seen 6 = .ok (.if_icmp .gt 19, 3) := by decide +kernel
theorem dX6_seen_9 : decode cX6_seen 9 = .ok (.iload_n 2, 1) := by decide +kernel
theorem dX6_seen_10 : decode cX6_seen 10 = .ok (.invokestatic 140, 3) := by decide +kernel
theorem dX6_seen_13 : decode cX6_seen 13 = .ok (.ifCond .eq 12, 3) := by decide +kernel
theorem dX6_seen_16 : decode cX6_seen 16 = .ok (.iload_n 3, 1) := by decide +kernel
theorem dX6_seen_17 : decode cX6_seen 17 = .ok (.ifCond .lt 8, 3) := by decide +kernel
theorem dX6_seen_20 : decode cX6_seen 20 = .ok (.iload_n 3, 1) := by decide +kernel
theorem dX6_seen_21 : decode cX6_seen 21 = .ok (.iconst 2, 1) := by decide +kernel
theorem dX6_seen_22 : decode cX6_seen 22 = .ok (.if_icmp .le 5, 3) := by decide +kernel
theorem dX6_seen_25 : decode cX6_seen 25 = .ok (.iconst (-1), 1) := by decide +kernel
theorem dX6_seen_26 : decode cX6_seen 26 = .ok (.ireturn, 1) := by decide +kernel
theorem dX6_seen_27 : decode cX6_seen 27 = .ok (.iconst 0, 1) := by decide +kernel
theorem dX6_seen_28 : decode cX6_seen 28 = .ok (.istore 4, 2) := by decide +kernel
theorem dX6_seen_30 : decode cX6_seen 30 = .ok (.iconst 0, 1) := by decide +kernel
theorem dX6_seen_31 : decode cX6_seen 31 = .ok (.istore 5, 2) := by decide +kernel
theorem dX6_seen_33 : decode cX6_seen 33 = .ok (.bipush (-4), 2) := by decide +kernel
theorem dX6_seen_35 : decode cX6_seen 35 = .ok (.istore 6, 2) := by decide +kernel
theorem dX6_seen_37 : decode cX6_seen 37 = .ok (.iconst 0, 1) := by decide +kernel
theorem dX6_seen_38 : decode cX6_seen 38 = .ok (.istore 7, 2) := by decide +kernel
theorem dX6_seen_40 : decode cX6_seen 40 = .ok (.iload 7, 2) := by decide +kernel
theorem dX6_seen_42 : decode cX6_seen 42 = .ok (.aload_n 0, 1) := by decide +kernel
theorem dX6_seen_43 : decode cX6_seen 43 = .ok (.getfield 29, 3) := by decide +kernel
theorem dX6_seen_46 : decode cX6_seen 46 = .ok (.getfield 94, 3) := by decide +kernel
theorem dX6_seen_49 : decode cX6_seen 49 = .ok (.if_icmp .ge 67, 3) := by decide +kernel
theorem dX6_seen_52 : decode cX6_seen 52 = .ok (.aload_n 0, 1) := by decide +kernel
theorem dX6_seen_53 : decode cX6_seen 53 = .ok (.getfield 29, 3) := by decide +kernel
theorem dX6_seen_56 : decode cX6_seen 56 = .ok (.iload 7, 2) := by decide +kernel
theorem dX6_seen_58 : decode cX6_seen 58 = .ok (.invokevirtual 153, 3) := by decide +kernel
theorem dX6_seen_61 : decode cX6_seen 61 = .ok (.ifCond .eq 49, 3) := by decide +kernel
theorem dX6_seen_64 : decode cX6_seen 64 = .ok (.aload_n 0, 1) := by decide +kernel
theorem dX6_seen_65 : decode cX6_seen 65 = .ok (.getfield 29, 3) := by decide +kernel
theorem dX6_seen_68 : decode cX6_seen 68 = .ok (.getfield 241, 3) := by decide +kernel
theorem dX6_seen_71 : decode cX6_seen 71 = .ok (.iload 7, 2) := by decide +kernel
theorem dX6_seen_73 : decode cX6_seen 73 = .ok (.iaload, 1) := by decide +kernel
theorem dX6_seen_74 : decode cX6_seen 74 = .ok (.iload_n 2, 1) := by decide +kernel
theorem dX6_seen_75 : decode cX6_seen 75 = .ok (.if_icmp .ne 35, 3) := by decide +kernel
theorem dX6_seen_78 : decode cX6_seen 78 = .ok (.aload_n 0, 1) := by decide +kernel
theorem dX6_seen_79 : decode cX6_seen 79 = .ok (.iload_n 1, 1) := by decide +kernel
theorem dX6_seen_80 : decode cX6_seen 80 = .ok (.iload 7, 2) := by decide +kernel
theorem dX6_seen_82 : decode cX6_seen 82 = .ok (.invokevirtual 244, 3) := by decide +kernel
theorem dX6_seen_85 : decode cX6_seen 85 = .ok (.ifCond .eq 25, 3) := by decide +kernel
theorem dX6_seen_88 : decode cX6_seen 88 = .ok (.iinc 4 1, 3) := by decide +kernel
theorem dX6_seen_91 : decode cX6_seen 91 = .ok (.iload 5, 2) := by decide +kernel
theorem dX6_seen_93 : decode cX6_seen 93 = .ok (.aload_n 0, 1) := by decide +kernel
theorem dX6_seen_94 : decode cX6_seen 94 = .ok (.getfield 29, 3) := by decide +kernel
theorem dX6_seen_97 : decode cX6_seen 97 = .ok (.getfield 164, 3) := by decide +kernel
theorem dX6_seen_100 : decode cX6_seen 100 = .ok (.iload 7, 2) := by decide +kernel
theorem dX6_seen_102 : decode cX6_seen 102 = .ok (.iaload, 1) := by decide +kernel
theorem dX6_seen_103 : decode cX6_seen 103 = .ok (.iadd, 1) := by decide +kernel
theorem dX6_seen_104 : decode cX6_seen 104 = .ok (.istore 5, 2) := by decide +kernel
theorem dX6_seen_106 : decode cX6_seen 106 = .ok (.iload 7, 2) := by decide +kernel
theorem dX6_seen_108 : decode cX6_seen 108 = .ok (.istore 6, 2) := by decide +kernel
theorem dX6_seen_110 : decode cX6_seen 110 = .ok (.iinc 7 1, 3) := by decide +kernel
theorem dX6_seen_113 : decode cX6_seen 113 = .ok (.goto (-73), 3) := by decide +kernel
theorem dX6_seen_116 : decode cX6_seen 116 = .ok (.iload_n 3, 1) := by decide +kernel
theorem dX6_seen_117 : decode cX6_seen 117 = .ok (.ifCond .ne 6, 3) := by decide +kernel
theorem dX6_seen_120 : decode cX6_seen 120 = .ok (.iload 4, 2) := by decide +kernel
theorem dX6_seen_122 : decode cX6_seen 122 = .ok (.ireturn, 1) := by decide +kernel
theorem dX6_seen_123 : decode cX6_seen 123 = .ok (.iload_n 3, 1) := by decide +kernel
theorem dX6_seen_124 : decode cX6_seen 124 = .ok (.iconst 1, 1) := by decide +kernel
theorem dX6_seen_125 : decode cX6_seen 125 = .ok (.if_icmp .ne 8, 3) := by decide +kernel
theorem dX6_seen_128 : decode cX6_seen 128 = .ok (.iload 5, 2) := by decide +kernel
theorem dX6_seen_130 : decode cX6_seen 130 = .ok (.goto 5, 3) := by decide +kernel
theorem dX6_seen_133 : decode cX6_seen 133 = .ok (.iload 6, 2) := by decide +kernel
theorem dX6_seen_135 : decode cX6_seen 135 = .ok (.ireturn, 1) := by decide +kernel
theorem dX6_count_0 : decode cX6_count 0 = .ok (.iload_n 1, 1) := by decide +kernel
theorem dX6_count_1 : decode cX6_count 1 = .ok (.tableswitch 162 0 11 #[63, 71, 79, 84, 92, 100, 109, 118, 127, 136, 145, 154], 63) := by decide +kernel
theorem dX6_count_64 : decode cX6_count 64 = .ok (.aload_n 0, 1) := by decide +kernel
theorem dX6_count_65 : decode cX6_count 65 = .ok (.getfield 19, 3) := by decide +kernel
theorem dX6_count_68 : decode cX6_count 68 = .ok (.getfield 88, 3) := by decide +kernel
theorem dX6_count_71 : decode cX6_count 71 = .ok (.ireturn, 1) := by decide +kernel
theorem dX6_count_72 : decode cX6_count 72 = .ok (.aload_n 0, 1) := by decide +kernel
theorem dX6_count_73 : decode cX6_count 73 = .ok (.getfield 29, 3) := by decide +kernel
theorem dX6_count_76 : decode cX6_count 76 = .ok (.getfield 94, 3) := by decide +kernel
theorem dX6_count_79 : decode cX6_count 79 = .ok (.ireturn, 1) := by decide +kernel
theorem dX6_count_80 : decode cX6_count 80 = .ok (.aload_n 0, 1) := by decide +kernel
theorem dX6_count_81 : decode cX6_count 81 = .ok (.getfield 98, 3) := by decide +kernel
theorem dX6_count_84 : decode cX6_count 84 = .ok (.ireturn, 1) := by decide +kernel
theorem dX6_count_85 : decode cX6_count 85 = .ok (.aload_n 0, 1) := by decide +kernel
theorem dX6_count_86 : decode cX6_count 86 = .ok (.getfield 52, 3) := by decide +kernel
theorem dX6_count_89 : decode cX6_count 89 = .ok (.getfield 97, 3) := by decide +kernel
theorem dX6_count_92 : decode cX6_count 92 = .ok (.ireturn, 1) := by decide +kernel
theorem dX6_count_93 : decode cX6_count 93 = .ok (.aload_n 0, 1) := by decide +kernel
theorem dX6_count_94 : decode cX6_count 94 = .ok (.getfield 10, 3) := by decide +kernel
theorem dX6_count_97 : decode cX6_count 97 = .ok (.getfield 79, 3) := by decide +kernel
theorem dX6_count_100 : decode cX6_count 100 = .ok (.ireturn, 1) := by decide +kernel
theorem dX6_count_101 : decode cX6_count 101 = .ok (.aload_n 0, 1) := by decide +kernel
theorem dX6_count_102 : decode cX6_count 102 = .ok (.getfield 19, 3) := by decide +kernel
theorem dX6_count_105 : decode cX6_count 105 = .ok (.iconst 0, 1) := by decide +kernel
theorem dX6_count_106 : decode cX6_count 106 = .ok (.invokevirtual 108, 3) := by decide +kernel
theorem dX6_count_109 : decode cX6_count 109 = .ok (.ireturn, 1) := by decide +kernel
theorem dX6_count_110 : decode cX6_count 110 = .ok (.aload_n 0, 1) := by decide +kernel
theorem dX6_count_111 : decode cX6_count 111 = .ok (.getfield 19, 3) := by decide +kernel
theorem dX6_count_114 : decode cX6_count 114 = .ok (.iconst 1, 1) := by decide +kernel
