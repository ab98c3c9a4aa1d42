theorem dX6_count_115 : decode cX6_count 115 = .ok (.invokevirtual 108, 3) := by decide +kernel
theorem dX6_count_118 : decode cX6_count 118 = .ok (.ireturn, 1) := by decide +kernel
theorem dX6_count_119 : decode cX6_count 119 = .ok (.aload_n 0, 1) := by decide +kernel
theorem dX6_count_120 : decode cX6_count 120 = .ok (.getfield 19, 3) := by decide +kernel
theorem dX6_count_123 : decode cX6_count 123 = .ok (.iconst 2, 1) := by decide +kernel
theorem dX6_count_124 : decode cX6_count 124 = .ok (.invokevirtual 108, 3) := by decide +kernel
theorem dX6_count_127 : decode cX6_count 127 = .ok (.ireturn, 1) := by decide +kernel
theorem dX6_count_128 : decode cX6_count 128 = .ok (.aload_n 0, 1) := by decide +kernel
theorem dX6_count_129 : decode cX6_count 129 = .ok (.getfield 19, 3) := by decide +kernel
theorem dX6_count_132 : decode cX6_count 132 = .ok (.iconst 3, 1) := by decide +kernel
theorem dX6_count_133 : decode cX6_count 133 = .ok (.invokevirtual 108, 3) := by decide +kernel
theorem dX6_count_136 : decode cX6_count 136 = .ok (.ireturn, 1) := by decide +kernel
theorem dX6_count_137 : decode cX6_count 137 = .ok (.aload_n 0, 1) := by decide +kernel
theorem dX6_count_138 : decode cX6_count 138 = .ok (.getfield 19, 3) := by decide +kernel
theorem dX6_count_141 : decode cX6_count 141 = .ok (.iconst 4, 1) := by decide +kernel
theorem dX6_count_142 : decode cX6_count 142 = .ok (.invokevirtual 108, 3) := by decide +kernel
theorem dX6_count_145 : decode cX6_count 145 = .ok (.ireturn, 1) := by decide +kernel
theorem dX6_count_146 : decode cX6_count 146 = .ok (.aload_n 0, 1) := by decide +kernel
theorem dX6_count_147 : decode cX6_count 147 = .ok (.getfield 19, 3) := by decide +kernel
theorem dX6_count_150 : decode cX6_count 150 = .ok (.iconst 5, 1) := by decide +kernel
theorem dX6_count_151 : decode cX6_count 151 = .ok (.invokevirtual 108, 3) := by decide +kernel
theorem dX6_count_154 : decode cX6_count 154 = .ok (.ireturn, 1) := by decide +kernel
theorem dX6_count_155 : decode cX6_count 155 = .ok (.aload_n 0, 1) := by decide +kernel
theorem dX6_count_156 : decode cX6_count 156 = .ok (.getfield 36, 3) := by decide +kernel
theorem dX6_count_159 : decode cX6_count 159 = .ok (.getfield 247, 3) := by decide +kernel
theorem dX6_count_162 : decode cX6_count 162 = .ok (.ireturn, 1) := by decide +kernel
theorem dX6_count_163 : decode cX6_count 163 = .ok (.iconst (-1), 1) := by decide +kernel
theorem dX6_count_164 : decode cX6_count 164 = .ok (.ireturn, 1) := by decide +kernel
theorem dX6_isDriver_0 : decode cX6_isDriver 0 = .ok (.iload_n 0, 1) := by decide +kernel
theorem dX6_isDriver_1 : decode cX6_isDriver 1 = .ok (.ifCond .lt 12, 3) := by decide +kernel
theorem dX6_isDriver_4 : decode cX6_isDriver 4 = .ok (.iload_n 0, 1) := by decide +kernel
theorem dX6_isDriver_5 : decode cX6_isDriver 5 = .ok (.iconst 4, 1) := by decide +kernel
theorem dX6_isDriver_6 : decode cX6_isDriver 6 = .ok (.if_icmp .ge 7, 3) := by decide +kernel
theorem dX6_isDriver_9 : decode cX6_isDriver 9 = .ok (.iconst 1, 1) := by decide +kernel
theorem dX6_isDriver_10 : decode cX6_isDriver 10 = .ok (.goto 4, 3) := by decide +kernel
theorem dX6_isDriver_13 : decode cX6_isDriver 13 = .ok (.iconst 0, 1) := by decide +kernel
theorem dX6_isDriver_14 : decode cX6_isDriver 14 = .ok (.ireturn, 1) := by decide +kernel
theorem dX6_canBeOffence_0 : decode cX6_canBeOffence 0 = .ok (.iload_n 1, 1) := by decide +kernel
theorem dX6_canBeOffence_1 : decode cX6_canBeOffence 1 = .ok (.invokestatic 140, 3) := by decide +kernel
theorem dX6_canBeOffence_4 : decode cX6_canBeOffence 4 = .ok (.ifCond .eq 30, 3) := by decide +kernel
theorem dX6_canBeOffence_7 : decode cX6_canBeOffence 7 = .ok (.iload_n 2, 1) := by decide +kernel
theorem dX6_canBeOffence_8 : decode cX6_canBeOffence 8 = .ok (.ifCond .lt 26, 3) := by decide +kernel
theorem dX6_canBeOffence_11 : decode cX6_canBeOffence 11 = .ok (.iload_n 2, 1) := by decide +kernel
theorem dX6_canBeOffence_12 : decode cX6_canBeOffence 12 = .ok (.aload_n 0, 1) := by decide +kernel
theorem dX6_canBeOffence_13 : decode cX6_canBeOffence 13 = .ok (.getfield 98, 3) := by decide +kernel
theorem dX6_canBeOffence_16 : decode cX6_canBeOffence 16 = .ok (.if_icmp .gt 18, 3) := by decide +kernel
theorem dX6_canBeOffence_19 : decode cX6_canBeOffence 19 = .ok (.aload_n 0, 1) := by decide +kernel
theorem dX6_canBeOffence_20 : decode cX6_canBeOffence 20 = .ok (.getfield 19, 3) := by decide +kernel
theorem dX6_canBeOffence_23 : decode cX6_canBeOffence 23 = .ok (.iload_n 3, 1) := by decide +kernel
theorem dX6_canBeOffence_24 : decode cX6_canBeOffence 24 = .ok (.invokevirtual 120, 3) := by decide +kernel
theorem dX6_canBeOffence_27 : decode cX6_canBeOffence 27 = .ok (.ifCond .eq 7, 3) := by decide +kernel
theorem dX6_canBeOffence_30 : decode cX6_canBeOffence 30 = .ok (.iconst 1, 1) := by decide +kernel
theorem dX6_canBeOffence_31 : decode cX6_canBeOffence 31 = .ok (.goto 4, 3) := by decide +kernel
theorem dX6_canBeOffence_34 : decode cX6_canBeOffence 34 = .ok (.iconst 0, 1) := by decide +kernel
theorem dX6_canBeOffence_35 : decode cX6_canBeOffence 35 = .ok (.ireturn, 1) := by decide +kernel
theorem dX6_daysInAll_0 : decode cX6_daysInAll 0 = .ok (.aload_n 0, 1) := by decide +kernel
theorem dX6_daysInAll_1 : decode cX6_daysInAll 1 = .ok (.getfield 36, 3) := by decide +kernel
theorem dX6_daysInAll_4 : decode cX6_daysInAll 4 = .ok (.iload_n 1, 1) := by decide +kernel
theorem dX6_daysInAll_5 : decode cX6_daysInAll 5 = .ok (.iconst 0, 1) := by decide +kernel
theorem dX6_daysInAll_6 : decode cX6_daysInAll 6 = .ok (.ldc 227, 2) := by decide +kernel
theorem dX6_daysInAll_8 : decode cX6_daysInAll 8 = .ok (.invokevirtual 228, 3) := by decide +kernel
theorem dX6_daysInAll_11 : decode cX6_daysInAll 11 = .ok (.ireturn, 1) := by decide +kernel
theorem dX6_noteNewEvent_0 : decode cX6_noteNewEvent 0 = .ok (.aload_n 0, 1) := by decide +kernel
theorem dX6_noteNewEvent_1 : decode cX6_noteNewEvent 1 = .ok (.getfield 29, 3) := by decide +kernel
theorem dX6_noteNewEvent_4 : decode cX6_noteNewEvent 4 = .ok (.getfield 94, 3) := by decide +kernel
theorem dX6_noteNewEvent_7 : decode cX6_noteNewEvent 7 = .ok (.iconst 1, 1) := by decide +kernel
theorem dX6_noteNewEvent_8 : decode cX6_noteNewEvent 8 = .ok (.isub, 1) := by decide +kernel
theorem dX6_noteNewEvent_9 : decode cX6_noteNewEvent 9 = .ok (.istore_n 1, 1) := by decide +kernel
theorem dX6_noteNewEvent_10 : decode cX6_noteNewEvent 10 = .ok (.aload_n 0, 1) := by decide +kernel
theorem dX6_noteNewEvent_11 : decode cX6_noteNewEvent 11 = .ok (.getfield 52, 3) := by decide +kernel
theorem dX6_noteNewEvent_14 : decode cX6_noteNewEvent 14 = .ok (.iconst 0, 1) := by decide +kernel
theorem dX6_noteNewEvent_15 : decode cX6_noteNewEvent 15 = .ok (.iload_n 1, 1) := by decide +kernel
theorem dX6_noteNewEvent_16 : decode cX6_noteNewEvent 16 = .ok (.iconst 0, 1) := by decide +kernel
theorem dX6_noteNewEvent_17 : decode cX6_noteNewEvent 17 = .ok (.invokevirtual 116, 3) := by decide +kernel
theorem dX6_noteNewEvent_20 : decode cX6_noteNewEvent 20 = .ok (.aload_n 0, 1) := by decide +kernel
theorem dX6_noteNewEvent_21 : decode cX6_noteNewEvent 21 = .ok (.getfield 45, 3) := by decide +kernel
theorem dX6_noteNewEvent_24 : decode cX6_noteNewEvent 24 = .ok (.invokevirtual 224, 3) := by decide +kernel
theorem dX6_noteNewEvent_27 : decode cX6_noteNewEvent 27 = .ok (.iload_n 1, 1) := by decide +kernel
theorem dX6_noteNewEvent_28 : decode cX6_noteNewEvent 28 = .ok (.ireturn, 1) := by decide +kernel
theorem dX6_retell_0 : decode cX6_retell 0 = .ok (.aload_n 0, 1) := by decide +kernel
theorem dX6_retell_1 : decode cX6_retell 1 = .ok (.getfield 29, 3) := by decide +kernel
theorem dX6_retell_4 : decode cX6_retell 4 = .ok (.getfield 241, 3) := by decide +kernel
theorem dX6_retell_7 : decode cX6_retell 7 = .ok (.iload_n 2, 1) := by decide +kernel
theorem dX6_retell_8 : decode cX6_retell 8 = .ok (.iaload, 1) := by decide +kernel
theorem dX6_retell_9 : decode cX6_retell 9 = .ok (.istore 4, 2) := by decide +kernel
theorem dX6_retell_11 : decode cX6_retell 11 = .ok (.aload_n 0, 1) := by decide +kernel
theorem dX6_retell_12 : decode cX6_retell 12 = .ok (.iload 4, 2) := by decide +kernel
theorem dX6_retell_14 : decode cX6_retell 14 = .ok (.invokevirtual 221, 3) := by decide +kernel
theorem dX6_retell_17 : decode cX6_retell 17 = .ok (.istore 5, 2) := by decide +kernel
theorem dX6_retell_19 : decode cX6_retell 19 = .ok (.aload_n 0, 1) := by decide +kernel
theorem dX6_retell_20 : decode cX6_retell 20 = .ok (.getfield 52, 3) := by decide +kernel
theorem dX6_retell_23 : decode cX6_retell 23 = .ok (.iload_n 1, 1) := by decide +kernel
theorem dX6_retell_24 : decode cX6_retell 24 = .ok (.iload_n 2, 1) := by decide +kernel
theorem dX6_retell_25 : decode cX6_retell 25 = .ok (.aload_n 0, 1) := by decide +kernel
theorem dX6_retell_26 : decode cX6_retell 26 = .ok (.getfield 29, 3) := by decide +kernel
theorem dX6_retell_29 : decode cX6_retell 29 = .ok (.iload_n 1, 1) := by decide +kernel
theorem dX6_retell_30 : decode cX6_retell 30 = .ok (.iload_n 2, 1) := by decide +kernel
theorem dX6_retell_31 : decode cX6_retell 31 = .ok (.iload_n 3, 1) := by decide +kernel
theorem dX6_retell_32 : decode cX6_retell 32 = .ok (.invokevirtual 191, 3) := by decide +kernel
theorem dX6_retell_35 : decode cX6_retell 35 = .ok (.invokevirtual 116, 3) := by decide +kernel
theorem dX6_retell_38 : decode cX6_retell 38 = .ok (.aload_n 0, 1) := by decide +kernel
theorem dX6_retell_39 : decode cX6_retell 39 = .ok (.getfield 45, 3) := by decide +kernel
theorem dX6_retell_42 : decode cX6_retell 42 = .ok (.invokevirtual 101, 3) := by decide +kernel
theorem dX6_retell_45 : decode cX6_retell 45 = .ok (.aload_n 0, 1) := by decide +kernel
theorem dX6_retell_46 : decode cX6_retell 46 = .ok (.iload 4, 2) := by decide +kernel
theorem dX6_retell_48 : decode cX6_retell 48 = .ok (.invokevirtual 221, 3) := by decide +kernel
theorem dX6_retell_51 : decode cX6_retell 51 = .ok (.iload 5, 2) := by decide +kernel
theorem dX6_retell_53 : decode cX6_retell 53 = .ok (.isub, 1) := by decide +kernel
theorem dX6_retell_54 : decode cX6_retell 54 = .ok (.ldc 248, 2) := by decide +kernel
theorem dX6_retell_56 : decode cX6_retell 56 = .ok (.iadd, 1) := by decide +kernel
theorem dX6_retell_57 : decode cX6_retell 57 = .ok (.ireturn, 1) := by decide +kernel
theorem dX6_liveThrough_0 : decode cX6_liveThrough 0 = .ok (.aload_n 0, 1) := by decide +kernel
theorem dX6_liveThrough_1 : decode cX6_liveThrough 1 = .ok (.sipush 9999, 3) := by decide +kernel
theorem dX6_liveThrough_4 : decode cX6_liveThrough 4 = .ok (.aload_n 0, 1) := by decide +kernel
theorem dX6_liveThrough_5 : decode cX6_liveThrough 5 = .ok (.getfield 98, 3) := by decide +kernel
theorem dX6_liveThrough_8 : decode cX6_liveThrough 8 = .ok (.iload_n 1, 1) := by decide +kernel
theorem dX6_liveThrough_9 : decode cX6_liveThrough 9 = .ok (.bipush 16, 2) := by decide +kernel
theorem dX6_liveThrough_11 : decode cX6_liveThrough 11 = .ok (.irem, 1) := by decide +kernel
theorem dX6_liveThrough_12 : decode cX6_liveThrough 12 = .ok (.iadd, 1) := by decide +kernel
theorem dX6_liveThrough_13 : decode cX6_liveThrough 13 = .ok (.invokestatic 249, 3) := by decide +kernel
theorem dX6_liveThrough_16 : decode cX6_liveThrough 16 = .ok (.putfield 98, 3) := by decide +kernel
theorem dX6_liveThrough_19 : decode cX6_liveThrough 19 = .ok (.aload_n 0, 1) := by decide +kernel
theorem dX6_liveThrough_20 : decode cX6_liveThrough 20 = .ok (.getfield 29, 3) := by decide +kernel
theorem dX6_liveThrough_23 : decode cX6_liveThrough 23 = .ok (.getfield 94, 3) := by decide +kernel
theorem dX6_liveThrough_26 : decode cX6_liveThrough 26 = .ok (.bipush 40, 2) := by decide +kernel
theorem dX6_liveThrough_28 : decode cX6_liveThrough 28 = .ok (.if_icmp .ge 14, 3) := by decide +kernel
theorem dX6_liveThrough_31 : decode cX6_liveThrough 31 = .ok (.aload_n 0, 1) := by decide +kernel
theorem dX6_liveThrough_32 : decode cX6_liveThrough 32 = .ok (.getfield 19, 3) := by decide +kernel
theorem dX6_liveThrough_35 : decode cX6_liveThrough 35 = .ok (.getfield 88, 3) := by decide +kernel
theorem dX6_liveThrough_38 : decode cX6_liveThrough 38 = .ok (.iconst 1, 1) := by decide +kernel
theorem dX6_liveThrough_39 : decode cX6_liveThrough 39 = .ok (.if_icmp .ge 4, 3) := by decide +kernel
theorem dX6_liveThrough_42 : decode cX6_liveThrough 42 = .ok (.return_, 1) := by decide +kernel
theorem dX6_liveThrough_43 : decode cX6_liveThrough 43 = .ok (.iload_n 1, 1) := by decide +kernel
theorem dX6_liveThrough_44 : decode cX6_liveThrough 44 = .ok (.bipush 64, 2) := by decide +kernel
theorem dX6_liveThrough_46 : decode cX6_liveThrough 46 = .ok (.idiv, 1) := by decide +kernel
theorem dX6_liveThrough_47 : decode cX6_liveThrough 47 = .ok (.aload_n 0, 1) := by decide +kernel
theorem dX6_liveThrough_48 : decode cX6_liveThrough 48 = .ok (.getfield 19, 3) := by decide +kernel
theorem dX6_liveThrough_51 : decode cX6_liveThrough 51 = .ok (.getfield 88, 3) := by decide +kernel
theorem dX6_liveThrough_54 : decode cX6_liveThrough 54 = .ok (.irem, 1) := by decide +kernel
theorem dX6_liveThrough_55 : decode cX6_liveThrough 55 = .ok (.istore_n 2, 1) := by decide +kernel
theorem dX6_liveThrough_56 : decode cX6_liveThrough 56 = .ok (.iconst 0, 1) := by decide +kernel
theorem dX6_liveThrough_57 : decode cX6_liveThrough 57 = .ok (.aload_n 0, 1) := by decide +kernel
theorem dX6_liveThrough_58 : decode cX6_liveThrough 58 = .ok (.getfield 98, 3) := by decide +kernel
theorem dX6_liveThrough_61 : decode cX6_liveThrough 61 = .ok (.iload_n 1, 1) := by decide +kernel
theorem dX6_liveThrough_62 : decode cX6_liveThrough 62 = .ok (.sipush 256, 3) := by decide +kernel
theorem dX6_liveThrough_65 : decode cX6_liveThrough 65 = .ok (.idiv, 1) := by decide +kernel
theorem dX6_liveThrough_66 : decode cX6_liveThrough 66 = .ok (.bipush 32, 2) := by decide +kernel
theorem dX6_liveThrough_68 : decode cX6_liveThrough 68 = .ok (.irem, 1) := by decide +kernel
theorem dX6_liveThrough_69 : decode cX6_liveThrough 69 = .ok (.isub, 1) := by decide +kernel
theorem dX6_liveThrough_70 : decode cX6_liveThrough 70 = .ok (.invokestatic 213, 3) := by decide +kernel
theorem dX6_liveThrough_73 : decode cX6_liveThrough 73 = .ok (.istore_n 3, 1) := by decide +kernel
theorem dX6_liveThrough_74 : decode cX6_liveThrough 74 = .ok (.aload_n 0, 1) := by decide +kernel
theorem dX6_liveThrough_75 : decode cX6_liveThrough 75 = .ok (.getfield 29, 3) := by decide +kernel
theorem dX6_liveThrough_78 : decode cX6_liveThrough 78 = .ok (.iload_n 1, 1) := by decide +kernel
theorem dX6_liveThrough_79 : decode cX6_liveThrough 79 = .ok (.bipush 16, 2) := by decide +kernel
theorem dX6_liveThrough_81 : decode cX6_liveThrough 81 = .ok (.idiv, 1) := by decide +kernel
theorem dX6_liveThrough_82 : decode cX6_liveThrough 82 = .ok (.iconst 4, 1) := by decide +kernel
theorem dX6_liveThrough_83 : decode cX6_liveThrough 83 = .ok (.irem, 1) := by decide +kernel
theorem dX6_liveThrough_84 : decode cX6_liveThrough 84 = .ok (.aload_n 0, 1) := by decide +kernel
theorem dX6_liveThrough_85 : decode cX6_liveThrough 85 = .ok (.getfield 98, 3) := by decide +kernel
theorem dX6_liveThrough_88 : decode cX6_liveThrough 88 = .ok (.iload_n 3, 1) := by decide +kernel
theorem dX6_liveThrough_89 : decode cX6_liveThrough 89 = .ok (.iload_n 2, 1) := by decide +kernel
theorem dX6_liveThrough_90 : decode cX6_liveThrough 90 = .ok (.aload_n 0, 1) := by decide +kernel
theorem dX6_liveThrough_91 : decode cX6_liveThrough 91 = .ok (.getfield 19, 3) := by decide +kernel
theorem dX6_liveThrough_94 : decode cX6_liveThrough 94 = .ok (.iload_n 2, 1) := by decide +kernel
theorem dX6_liveThrough_95 : decode cX6_liveThrough 95 = .ok (.invokevirtual 123, 3) := by decide +kernel
theorem dX6_liveThrough_98 : decode cX6_liveThrough 98 = .ok (.iconst 0, 1) := by decide +kernel
theorem dX6_liveThrough_99 : decode cX6_liveThrough 99 = .ok (.invokevirtual 133, 3) := by decide +kernel
theorem dX6_liveThrough_102 : decode cX6_liveThrough 102 = .ok (.aload_n 0, 1) := by decide +kernel
theorem dX6_liveThrough_103 : decode cX6_liveThrough 103 = .ok (.invokevirtual 137, 3) := by decide +kernel
theorem dX6_liveThrough_106 : decode cX6_liveThrough 106 = .ok (.pop, 1) := by decide +kernel
theorem dX6_liveThrough_107 : decode cX6_liveThrough 107 = .ok (.return_, 1) := by decide +kernel
theorem dX6_sees_0 : decode cX6_sees 0 = .ok (.iload_n 1, 1) := by decide +kernel
theorem dX6_sees_1 : decode cX6_sees 1 = .ok (.ifCond .ne 5, 3) := by decide +kernel
theorem dX6_sees_4 : decode cX6_sees 4 = .ok (.iconst 1, 1) := by decide +kernel
theorem dX6_sees_5 : decode cX6_sees 5 = .ok (.ireturn, 1) := by decide +kernel
theorem dX6_sees_6 : decode cX6_sees 6 = .ok (.aload_n 0, 1) := by decide +kernel
theorem dX6_sees_7 : decode cX6_sees 7 = .ok (.getfield 29, 3) := by decide +kernel
theorem dX6_sees_10 : decode cX6_sees 10 = .ok (.getfield 156, 3) := by decide +kernel
theorem dX6_sees_13 : decode cX6_sees 13 = .ok (.iload_n 2, 1) := by decide +kernel
theorem dX6_sees_14 : decode cX6_sees 14 = .ok (.iaload, 1) := by decide +kernel
theorem dX6_sees_15 : decode cX6_sees 15 = .ok (.iconst 1, 1) := by decide +kernel
theorem dX6_sees_16 : decode cX6_sees 16 = .ok (.if_icmp .ne 5, 3) := by decide +kernel
theorem dX6_sees_19 : decode cX6_sees 19 = .ok (.iconst 0, 1) := by decide +kernel
theorem dX6_sees_20 : decode cX6_sees 20 = .ok (.ireturn, 1) := by decide +kernel
theorem dX6_sees_21 : decode cX6_sees 21 = .ok (.iload_n 1, 1) := by decide +kernel
theorem dX6_sees_22 : decode cX6_sees 22 = .ok (.iconst 2, 1) := by decide +kernel
theorem dX6_sees_23 : decode cX6_sees 23 = .ok (.if_icmp .ne 34, 3) := by decide +kernel
theorem dX6_sees_26 : decode cX6_sees 26 = .ok (.aload_n 0, 1) := by decide +kernel
theorem dX6_sees_27 : decode cX6_sees 27 = .ok (.getfield 98, 3) := by decide +kernel
theorem dX6_sees_30 : decode cX6_sees 30 = .ok (.aload_n 0, 1) := by decide +kernel
theorem dX6_sees_31 : decode cX6_sees 31 = .ok (.getfield 29, 3) := by decide +kernel
theorem dX6_sees_34 : decode cX6_sees 34 = .ok (.getfield 167, 3) := by decide +kernel
theorem dX6_sees_37 : decode cX6_sees 37 = .ok (.iload_n 2, 1) := by decide +kernel
theorem dX6_sees_38 : decode cX6_sees 38 = .ok (.iaload, 1) := by decide +kernel
theorem dX6_sees_39 : decode cX6_sees 39 = .ok (.isub, 1) := by decide +kernel
theorem dX6_sees_40 : decode cX6_sees 40 = .ok (.aload_n 0, 1) := by decide +kernel
theorem dX6_sees_41 : decode cX6_sees 41 = .ok (.getfield 19, 3) := by decide +kernel
theorem dX6_sees_44 : decode cX6_sees 44 = .ok (.iconst 4, 1) := by decide +kernel
theorem dX6_sees_45 : decode cX6_sees 45 = .ok (.invokevirtual 108, 3) := by decide +kernel
theorem dX6_sees_48 : decode cX6_sees 48 = .ok (.if_icmp .ge 7, 3) := by decide +kernel
theorem dX6_sees_51 : decode cX6_sees 51 = .ok (.iconst 1, 1) := by decide +kernel
theorem dX6_sees_52 : decode cX6_sees 52 = .ok (.goto 4, 3) := by decide +kernel
theorem dX6_sees_55 : decode cX6_sees 55 = .ok (.iconst 0, 1) := by decide +kernel
theorem dX6_sees_56 : decode cX6_sees 56 = .ok (.ireturn, 1) := by decide +kernel
theorem dX6_sees_57 : decode cX6_sees 57 = .ok (.iload_n 1, 1) := by decide +kernel
theorem dX6_sees_58 : decode cX6_sees 58 = .ok (.iconst 3, 1) := by decide +kernel
theorem dX6_sees_59 : decode cX6_sees 59 = .ok (.if_icmp .ne 40, 3) := by decide +kernel
theorem dX6_sees_62 : decode cX6_sees 62 = .ok (.aload_n 0, 1) := by decide +kernel
theorem dX6_sees_63 : decode cX6_sees 63 = .ok (.getfield 29, 3) := by decide +kernel
theorem dX6_sees_66 : decode cX6_sees 66 = .ok (.getfield 252, 3) := by decide +kernel
theorem dX6_sees_69 : decode cX6_sees 69 = .ok (.iload_n 2, 1) := by decide +kernel
theorem dX6_sees_70 : decode cX6_sees 70 = .ok (.iaload, 1) := by decide +kernel
theorem dX6_sees_71 : decode cX6_sees 71 = .ok (.ifCond .ne 32, 3) := by decide +kernel
theorem dX6_sees_74 : decode cX6_sees 74 = .ok (.aload_n 0, 1) := by decide +kernel
theorem dX6_sees_75 : decode cX6_sees 75 = .ok (.getfield 98, 3) := by decide +kernel
theorem dX6_sees_78 : decode cX6_sees 78 = .ok (.aload_n 0, 1) := by decide +kernel
theorem dX6_sees_79 : decode cX6_sees 79 = .ok (.getfield 29, 3) := by decide +kernel
theorem dX6_sees_82 : decode cX6_sees 82 = .ok (.getfield 170, 3) := by decide +kernel
theorem dX6_sees_85 : decode cX6_sees 85 = .ok (.iload_n 2, 1) := by decide +kernel
theorem dX6_sees_86 : decode cX6_sees 86 = .ok (.iaload, 1) := by decide +kernel
theorem dX6_sees_87 : decode cX6_sees 87 = .ok (.isub, 1) := by decide +kernel
theorem dX6_sees_88 : decode cX6_sees 88 = .ok (.aload_n 0, 1) := by decide +kernel
theorem dX6_sees_89 : decode cX6_sees 89 = .ok (.getfield 19, 3) := by decide +kernel
theorem dX6_sees_92 : decode cX6_sees 92 = .ok (.iconst 5, 1) := by decide +kernel
theorem dX6_sees_93 : decode cX6_sees 93 = .ok (.invokevirtual 108, 3) := by decide +kernel
theorem dX6_sees_96 : decode cX6_sees 96 = .ok (.if_icmp .ge 7, 3) := by decide +kernel
theorem dX6_sees_99 : decode cX6_sees 99 = .ok (.iconst 1, 1) := by decide +kernel
theorem dX6_sees_100 : decode cX6_sees 100 = .ok (.goto 4, 3) := by decide +kernel
theorem dX6_sees_103 : decode cX6_sees 103 = .ok (.iconst 0, 1) := by decide +kernel
theorem dX6_sees_104 : decode cX6_sees 104 = .ok (.ireturn, 1) := by decide +kernel
theorem dX7_in_0 : decode cX7_in 0 = .ok (.lload_n 0, 1) := by decide +kernel
theorem dX7_in_1 : decode cX7_in 1 = .ok (.lload_n 2, 1) := by decide +kernel
theorem dX7_in_2 : decode cX7_in 2 = .ok (.lcmp, 1) := by decide +kernel
theorem dX7_in_3 : decode cX7_in 3 = .ok (.ifCond .lt 14, 3) := by decide +kernel
theorem dX7_in_6 : decode cX7_in 6 = .ok (.lload_n 0, 1) := by decide +kernel
theorem dX7_in_7 : decode cX7_in 7 = .ok (.lload 4, 2) := by decide +kernel
theorem dX7_in_9 : decode cX7_in 9 = .ok (.lcmp, 1) := by decide +kernel
theorem dX7_in_10 : decode cX7_in 10 = .ok (.ifCond .gt 7, 3) := by decide +kernel
theorem dX7_in_13 : decode cX7_in 13 = .ok (.iconst 1, 1) := by decide +kernel
theorem dX7_in_14 : decode cX7_in 14 = .ok (.goto 4, 3) := by decide +kernel
theorem dX7_in_17 : decode cX7_in 17 = .ok (.iconst 0, 1) := by decide +kernel
theorem dX7_in_18 : decode cX7_in 18 = .ok (.ireturn, 1) := by decide +kernel
theorem dX7_empty_0 : decode cX7_empty 0 = .ok (.aload_n 0, 1) := by decide +kernel
theorem dX7_empty_1 : decode cX7_empty 1 = .ok (.getfield 25, 3) := by decide +kernel
theorem dX7_empty_4 : decode cX7_empty 4 = .ok (.iconst 0, 1) := by decide +kernel
theorem dX7_empty_5 : decode cX7_empty 5 = .ok (.bipush 100, 2) := by decide +kernel
theorem dX7_empty_7 : decode cX7_empty 7 = .ok (.iastore, 1) := by decide +kernel
theorem dX7_empty_8 : decode cX7_empty 8 = .ok (.aload_n 0, 1) := by decide +kernel
theorem dX7_empty_9 : decode cX7_empty 9 = .ok (.getfield 25, 3) := by decide +kernel
theorem dX7_empty_12 : decode cX7_empty 12 = .ok (.iconst 1, 1) := by decide +kernel
theorem dX7_empty_13 : decode cX7_empty 13 = .ok (.bipush 12, 2) := by decide +kernel
theorem dX7_empty_15 : decode cX7_empty 15 = .ok (.iastore, 1) := by decide +kernel
theorem dX7_empty_16 : decode cX7_empty 16 = .ok (.aload_n 0, 1) := by decide +kernel
theorem dX7_empty_17 : decode cX7_empty 17 = .ok (.getfield 25, 3) := by decide +kernel
theorem dX7_empty_20 : decode cX7_empty 20 = .ok (.iconst 2, 1) := by decide +kernel
theorem dX7_empty_21 : decode cX7_empty 21 = .ok (.bipush 10, 2) := by decide +kernel
theorem dX7_empty_23 : decode cX7_empty 23 = .ok (.iastore, 1) := by decide +kernel
theorem dX7_empty_24 : decode cX7_empty 24 = .ok (.aload_n 0, 1) := by decide +kernel
theorem dX7_empty_25 : decode cX7_empty 25 = .ok (.getfield 25, 3) := by decide +kernel
theorem dX7_empty_28 : decode cX7_empty 28 = .ok (.iconst 3, 1) := by decide +kernel
theorem dX7_empty_29 : decode cX7_empty 29 = .ok (.sipush 200, 3) := by decide +kernel
theorem dX7_empty_32 : decode cX7_empty 32 = .ok (.iastore, 1) := by decide +kernel
theorem dX7_empty_33 : decode cX7_empty 33 = .ok (.aload_n 0, 1) := by decide +kernel
theorem dX7_empty_34 : decode cX7_empty 34 = .ok (.getfield 25, 3) := by decide +kernel
theorem dX7_empty_37 : decode cX7_empty 37 = .ok (.iconst 4, 1) := by decide +kernel
theorem dX7_empty_38 : decode cX7_empty 38 = .ok (.sipush 300, 3) := by decide +kernel
theorem dX7_empty_41 : decode cX7_empty 41 = .ok (.iastore, 1) := by decide +kernel
theorem dX7_empty_42 : decode cX7_empty 42 = .ok (.aload_n 0, 1) := by decide +kernel
theorem dX7_empty_43 : decode cX7_empty 43 = .ok (.getfield 25, 3) := by decide +kernel
theorem dX7_empty_46 : decode cX7_empty 46 = .ok (.iconst 5, 1) := by decide +kernel
theorem dX7_empty_47 : decode cX7_empty 47 = .ok (.sipush 150, 3) := by decide +kernel
theorem dX7_empty_50 : decode cX7_empty 50 = .ok (.iastore, 1) := by decide +kernel
theorem dX7_empty_51 : decode cX7_empty 51 = .ok (.aload_n 0, 1) := by decide +kernel
theorem dX7_empty_52 : decode cX7_empty 52 = .ok (.iconst 0, 1) := by decide +kernel
theorem dX7_empty_53 : decode cX7_empty 53 = .ok (.putfield 71, 3) := by decide +kernel
theorem dX7_empty_56 : decode cX7_empty 56 = .ok (.return_, 1) := by decide +kernel
theorem dX7_codeIs_0 : decode cX7_codeIs 0 = .ok (.aload_n 0, 1) := by decide +kernel
theorem dX7_codeIs_1 : decode cX7_codeIs 1 = .ok (.getfield 28, 3) := by decide +kernel
theorem dX7_codeIs_4 : decode cX7_codeIs 4 = .ok (.aload_n 0, 1) := by decide +kernel
theorem dX7_codeIs_5 : decode cX7_codeIs 5 = .ok (.getfield 71, 3) := by decide +kernel
theorem dX7_codeIs_8 : decode cX7_codeIs 8 = .ok (.iload_n 1, 1) := by decide +kernel
theorem dX7_codeIs_9 : decode cX7_codeIs 9 = .ok (.iastore, 1) := by decide +kernel
theorem dX7_codeIs_10 : decode cX7_codeIs 10 = .ok (.aload_n 0, 1) := by decide +kernel
theorem dX7_codeIs_11 : decode cX7_codeIs 11 = .ok (.getfield 31, 3) := by decide +kernel
theorem dX7_codeIs_14 : decode cX7_codeIs 14 = .ok (.aload_n 0, 1) := by decide +kernel
theorem dX7_codeIs_15 : decode cX7_codeIs 15 = .ok (.getfield 71, 3) := by decide +kernel
theorem dX7_codeIs_18 : decode cX7_codeIs 18 = .ok (.iload_n 2, 1) := by decide +kernel
theorem dX7_codeIs_19 : decode cX7_codeIs 19 = .ok (.iastore, 1) := by decide +kernel
theorem dX7_codeIs_20 : decode cX7_codeIs 20 = .ok (.aload_n 0, 1) := by decide +kernel
theorem dX7_codeIs_21 : decode cX7_codeIs 21 = .ok (.dup, 1) := by decide +kernel
theorem dX7_codeIs_22 : decode cX7_codeIs 22 = .ok (.getfield 71, 3) := by decide +kernel
theorem dX7_codeIs_25 : decode cX7_codeIs 25 = .ok (.iconst 1, 1) := by decide +kernel
theorem dX7_codeIs_26 : decode cX7_codeIs 26 = .ok (.iadd, 1) := by decide +kernel
theorem dX7_codeIs_27 : decode cX7_codeIs 27 = .ok (.putfield 71, 3) := by decide +kernel
theorem dX7_codeIs_30 : decode cX7_codeIs 30 = .ok (.return_, 1) := by decide +kernel
theorem dX7_write_0 : decode cX7_write 0 = .ok (.iload_n 1, 1) := by decide +kernel
theorem dX7_write_1 : decode cX7_write 1 = .ok (.i2l, 1) := by decide +kernel
theorem dX7_write_2 : decode cX7_write 2 = .ok (.ldc2_w 75, 3) := by decide +kernel
theorem dX7_write_5 : decode cX7_write 5 = .ok (.ldc2_w 77, 3) := by decide +kernel
theorem dX7_write_8 : decode cX7_write 8 = .ok (.invokestatic 79, 3) := by decide +kernel
theorem dX7_write_11 : decode cX7_write 11 = .ok (.ifCond .ne 5, 3) := by decide +kernel
theorem dX7_write_14 : decode cX7_write 14 = .ok (.iconst (-1), 1) := by decide +kernel
theorem dX7_write_15 : decode cX7_write 15 = .ok (.ireturn, 1) := by decide +kernel
theorem dX7_write_16 : decode cX7_write 16 = .ok (.aload_n 0, 1) := by decide +kernel
theorem dX7_write_17 : decode cX7_write 17 = .ok (.getfield 83, 3) := by decide +kernel
theorem dX7_write_20 : decode cX7_write 20 = .ok (.sipush 200, 3) := by decide +kernel
theorem dX7_write_23 : decode cX7_write 23 = .ok (.if_icmp .ne 6, 3) := by decide +kernel
theorem dX7_write_26 : decode cX7_write 26 = .ok (.bipush (-3), 2) := by decide +kernel
theorem dX7_write_28 : decode cX7_write 28 = .ok (.ireturn, 1) := by decide +kernel
theorem dX7_write_29 : decode cX7_write 29 = .ok (.aload_n 0, 1) := by decide +kernel
theorem dX7_write_30 : decode cX7_write 30 = .ok (.getfield 7, 3) := by decide +kernel
theorem dX7_write_33 : decode cX7_write 33 = .ok (.aload_n 0, 1) := by decide +kernel
theorem dX7_write_34 : decode cX7_write 34 = .ok (.getfield 83, 3) := by decide +kernel
theorem dX7_write_37 : decode cX7_write 37 = .ok (.iload_n 1, 1) := by decide +kernel
theorem dX7_write_38 : decode cX7_write 38 = .ok (.iastore, 1) := by decide +kernel
theorem dX7_write_39 : decode cX7_write 39 = .ok (.aload_n 0, 1) := by decide +kernel
theorem dX7_write_40 : decode cX7_write 40 = .ok (.dup, 1) := by decide +kernel
theorem dX7_write_41 : decode cX7_write 41 = .ok (.getfield 83, 3) := by decide +kernel
theorem dX7_write_44 : decode cX7_write 44 = .ok (.iconst 1, 1) := by decide +kernel
theorem dX7_write_45 : decode cX7_write 45 = .ok (.iadd, 1) := by decide +kernel
theorem dX7_write_46 : decode cX7_write 46 = .ok (.putfield 83, 3) := by decide +kernel
theorem dX7_write_49 : decode cX7_write 49 = .ok (.aload_n 0, 1) := by decide +kernel
theorem dX7_write_50 : decode cX7_write 50 = .ok (.getfield 83, 3) := by decide +kernel
theorem dX7_write_53 : decode cX7_write 53 = .ok (.ireturn, 1) := by decide +kernel
theorem dX7_wipe_0 : decode cX7_wipe 0 = .ok (.aload_n 0, 1) := by decide +kernel
theorem dX7_wipe_1 : decode cX7_wipe 1 = .ok (.getfield 83, 3) := by decide +kernel
theorem dX7_wipe_4 : decode cX7_wipe 4 = .ok (.istore_n 1, 1) := by decide +kernel
theorem dX7_wipe_5 : decode cX7_wipe 5 = .ok (.aload_n 0, 1) := by decide +kernel
theorem dX7_wipe_6 : decode cX7_wipe 6 = .ok (.iconst 0, 1) := by decide +kernel
theorem dX7_wipe_7 : decode cX7_wipe 7 = .ok (.putfield 83, 3) := by decide +kernel
theorem dX7_wipe_10 : decode cX7_wipe 10 = .ok (.iload_n 1, 1) := by decide +kernel
theorem dX7_wipe_11 : decode cX7_wipe 11 = .ok (.ireturn, 1) := by decide +kernel
theorem dX7_letterAt_0 : decode cX7_letterAt 0 = .ok (.iload_n 1, 1) := by decide +kernel
theorem dX7_letterAt_1 : decode cX7_letterAt 1 = .ok (.aload_n 0, 1) := by decide +kernel
theorem dX7_letterAt_2 : decode cX7_letterAt 2 = .ok (.getfield 83, 3) := by decide +kernel
theorem dX7_letterAt_5 : decode cX7_letterAt 5 = .ok (.if_icmp .ge 12, 3) := by decide +kernel
theorem dX7_letterAt_8 : decode cX7_letterAt 8 = .ok (.aload_n 0, 1) := by decide +kernel
theorem dX7_letterAt_9 : decode cX7_letterAt 9 = .ok (.getfield 7, 3) := by decide +kernel
theorem dX7_letterAt_12 : decode cX7_letterAt 12 = .ok (.iload_n 1, 1) := by decide +kernel
theorem dX7_letterAt_13 : decode cX7_letterAt 13 = .ok (.iaload, 1) := by decide +kernel
theorem dX7_letterAt_14 : decode cX7_letterAt 14 = .ok (.goto 4, 3) := by decide +kernel
theorem dX7_letterAt_17 : decode cX7_letterAt 17 = .ok (.iconst 0, 1) := by decide +kernel
theorem dX7_letterAt_18 : decode cX7_letterAt 18 = .ok (.ireturn, 1) := by decide +kernel
theorem dX7_number_0 : decode cX7_number 0 = .ok (.iconst 0, 1) := by decide +kernel
theorem dX7_number_1 : decode cX7_number 1 = .ok (.istore_n 3, 1) := by decide +kernel
theorem dX7_number_2 : decode cX7_number 2 = .ok (.iconst 0, 1) := by decide +kernel
theorem dX7_number_3 : decode cX7_number 3 = .ok (.istore 4, 2) := by decide +kernel
theorem dX7_number_5 : decode cX7_number 5 = .ok (.iload 4, 2) := by decide +kernel
theorem dX7_number_7 : decode cX7_number 7 = .ok (.iload_n 1, 1) := by decide +kernel
theorem dX7_number_8 : decode cX7_number 8 = .ok (.if_icmp .ge 59, 3) := by decide +kernel
theorem dX7_number_11 : decode cX7_number 11 = .ok (.aload_n 0, 1) := by decide +kernel
theorem dX7_number_12 : decode cX7_number 12 = .ok (.aload_n 0, 1) := by decide +kernel
theorem dX7_number_13 : decode cX7_number 13 = .ok (.getfield 86, 3) := by decide +kernel
theorem dX7_number_16 : decode cX7_number 16 = .ok (.invokevirtual 89, 3) := by decide +kernel
theorem dX7_number_19 : decode cX7_number 19 = .ok (.i2l, 1) := by decide +kernel
theorem dX7_number_20 : decode cX7_number 20 = .ok (.ldc2_w 93, 3) := by decide +kernel
theorem dX7_number_23 : decode cX7_number 23 = .ok (.ldc2_w 95, 3) := by decide +kernel
theorem dX7_number_26 : decode cX7_number 26 = .ok (.invokestatic 79, 3) := by decide +kernel
theorem dX7_number_29 : decode cX7_number 29 = .ok (.ifCond .ne 5, 3) := by decide +kernel
theorem dX7_number_32 : decode cX7_number 32 = .ok (.iconst (-1), 1) := by decide +kernel
theorem dX7_number_33 : decode cX7_number 33 = .ok (.ireturn, 1) := by decide +kernel
theorem dX7_number_34 : decode cX7_number 34 = .ok (.bipush 10, 2) := by decide +kernel
theorem dX7_number_36 : decode cX7_number 36 = .ok (.iload_n 3, 1) := by decide +kernel
theorem dX7_number_37 : decode cX7_number 37 = .ok (.imul, 1) := by decide +kernel
theorem dX7_number_38 : decode cX7_number 38 = .ok (.aload_n 0, 1) := by decide +kernel
theorem dX7_number_39 : decode cX7_number 39 = .ok (.aload_n 0, 1) := by decide +kernel
theorem dX7_number_40 : decode cX7_number 40 = .ok (.getfield 86, 3) := by decide +kernel
theorem dX7_number_43 : decode cX7_number 43 = .ok (.invokevirtual 89, 3) := by decide +kernel
theorem dX7_number_46 : decode cX7_number 46 = .ok (.iadd, 1) := by decide +kernel
theorem dX7_number_47 : decode cX7_number 47 = .ok (.bipush 48, 2) := by decide +kernel
theorem dX7_number_49 : decode cX7_number 49 = .ok (.isub, 1) := by decide +kernel
theorem dX7_number_50 : decode cX7_number 50 = .ok (.istore_n 3, 1) := by decide +kernel
theorem dX7_number_51 : decode cX7_number 51 = .ok (.aload_n 0, 1) := by decide +kernel
theorem dX7_number_52 : decode cX7_number 52 = .ok (.dup, 1) := by decide +kernel
theorem dX7_number_53 : decode cX7_number 53 = .ok (.getfield 86, 3) := by decide +kernel
theorem dX7_number_56 : decode cX7_number 56 = .ok (.iconst 1, 1) := by decide +kernel
theorem dX7_number_57 : decode cX7_number 57 = .ok (.iadd, 1) := by decide +kernel
theorem dX7_number_58 : decode cX7_number 58 = .ok (.putfield 86, 3) := by decide +kernel
theorem dX7_number_61 : decode cX7_number 61 = .ok (.iinc 4 1, 3) := by decide +kernel
theorem dX7_number_64 : decode cX7_number 64 = .ok (.goto (-59), 3) := by decide +kernel
theorem dX7_number_67 : decode cX7_number 67 = .ok (.iload_n 3, 1) := by decide +kernel
theorem dX7_number_68 : decode cX7_number 68 = .ok (.iload_n 2, 1) := by decide +kernel
theorem dX7_number_69 : decode cX7_number 69 = .ok (.if_icmp .ge 8, 3) := by decide +kernel
theorem dX7_number_72 : decode cX7_number 72 = .ok (.bipush (-2), 2) := by decide +kernel
theorem dX7_number_74 : decode cX7_number 74 = .ok (.goto 4, 3) := by decide +kernel
theorem dX7_number_77 : decode cX7_number 77 = .ok (.iload_n 3, 1) := by decide +kernel
theorem dX7_number_78 : decode cX7_number 78 = .ok (.ireturn, 1) := by decide +kernel
theorem dX7_ends_0 : decode cX7_ends 0 = .ok (.aload_n 0, 1) := by decide +kernel
theorem dX7_ends_1 : decode cX7_ends 1 = .ok (.dup, 1) := by decide +kernel
theorem dX7_ends_2 : decode cX7_ends 2 = .ok (.getfield 86, 3) := by decide +kernel
theorem dX7_ends_5 : decode cX7_ends 5 = .ok (.iconst 1, 1) := by decide +kernel
theorem dX7_ends_6 : decode cX7_ends 6 = .ok (.iadd, 1) := by decide +kernel
theorem dX7_ends_7 : decode cX7_ends 7 = .ok (.putfield 86, 3) := by decide +kernel
theorem dX7_ends_10 : decode cX7_ends 10 = .ok (.aload_n 0, 1) := by decide +kernel
theorem dX7_ends_11 : decode cX7_ends 11 = .ok (.aload_n 0, 1) := by decide +kernel
theorem dX7_ends_12 : decode cX7_ends 12 = .ok (.getfield 86, 3) := by decide +kernel
theorem dX7_ends_15 : decode cX7_ends 15 = .ok (.iconst 1, 1) := by decide +kernel
theorem dX7_ends_16 : decode cX7_ends 16 = .ok (.isub, 1) := by decide +kernel
theorem dX7_ends_17 : decode cX7_ends 17 = .ok (.invokevirtual 89, 3) := by decide +kernel
theorem dX7_ends_20 : decode cX7_ends 20 = .ok (.bipush 59, 2) := by decide +kernel
theorem dX7_ends_22 : decode cX7_ends 22 = .ok (.if_icmp .ne 7, 3) := by decide +kernel
theorem dX7_ends_25 : decode cX7_ends 25 = .ok (.iconst 0, 1) := by decide +kernel
theorem dX7_ends_26 : decode cX7_ends 26 = .ok (.goto 4, 3) := by decide +kernel
theorem dX7_ends_29 : decode cX7_ends 29 = .ok (.iconst 1, 1) := by decide +kernel
theorem dX7_ends_30 : decode cX7_ends 30 = .ok (.ireturn, 1) := by decide +kernel
theorem dX7_ruleItem_0 : decode cX7_ruleItem 0 = .ok (.aload_n 0, 1) := by decide +kernel
theorem dX7_ruleItem_1 : decode cX7_ruleItem 1 = .ok (.iload_n 2, 1) := by decide +kernel
theorem dX7_ruleItem_2 : decode cX7_ruleItem 2 = .ok (.iload_n 3, 1) := by decide +kernel
theorem dX7_ruleItem_3 : decode cX7_ruleItem 3 = .ok (.invokevirtual 97, 3) := by decide +kernel
theorem dX7_ruleItem_6 : decode cX7_ruleItem 6 = .ok (.istore 4, 2) := by decide +kernel
theorem dX7_ruleItem_8 : decode cX7_ruleItem 8 = .ok (.iload 4, 2) := by decide +kernel
theorem dX7_ruleItem_10 : decode cX7_ruleItem 10 = .ok (.ifCond .ge 7, 3) := by decide +kernel
theorem dX7_ruleItem_13 : decode cX7_ruleItem 13 = .ok (.iload 4, 2) := by decide +kernel
theorem dX7_ruleItem_15 : decode cX7_ruleItem 15 = .ok (.ineg, 1) := by decide +kernel
theorem dX7_ruleItem_16 : decode cX7_ruleItem 16 = .ok (.ireturn, 1) := by decide +kernel
theorem dX7_ruleItem_17 : decode cX7_ruleItem 17 = .ok (.aload_n 0, 1) := by decide +kernel
theorem dX7_ruleItem_18 : decode cX7_ruleItem 18 = .ok (.getfield 25, 3) := by decide +kernel
theorem dX7_ruleItem_21 : decode cX7_ruleItem 21 = .ok (.iload_n 1, 1) := by decide +kernel
theorem dX7_ruleItem_22 : decode cX7_ruleItem 22 = .ok (.iload 4, 2) := by decide +kernel
theorem dX7_ruleItem_24 : decode cX7_ruleItem 24 = .ok (.iastore, 1) := by decide +kernel
theorem dX7_ruleItem_25 : decode cX7_ruleItem 25 = .ok (.iconst 0, 1) := by decide +kernel
theorem dX7_ruleItem_26 : decode cX7_ruleItem 26 = .ok (.ireturn, 1) := by decide +kernel
theorem dX7_codeItem_0 : decode cX7_codeItem 0 = .ok (.aload_n 0, 1) := by decide +kernel
theorem dX7_codeItem_1 : decode cX7_codeItem 1 = .ok (.getfield 71, 3) := by decide +kernel
theorem dX7_codeItem_4 : decode cX7_codeItem 4 = .ok (.bipush 6, 2) := by decide +kernel
theorem dX7_codeItem_6 : decode cX7_codeItem 6 = .ok (.if_icmp .ne 5, 3) := by decide +kernel
theorem dX7_codeItem_9 : decode cX7_codeItem 9 = .ok (.iconst 3, 1) := by decide +kernel
theorem dX7_codeItem_10 : decode cX7_codeItem 10 = .ok (.ireturn, 1) := by decide +kernel
theorem dX7_codeItem_11 : decode cX7_codeItem 11 = .ok (.aload_n 0, 1) := by decide +kernel
theorem dX7_codeItem_12 : decode cX7_codeItem 12 = .ok (.iconst 1, 1) := by decide +kernel
theorem dX7_codeItem_13 : decode cX7_codeItem 13 = .ok (.iconst 1, 1) := by decide +kernel
theorem dX7_codeItem_14 : decode cX7_codeItem 14 = .ok (.invokevirtual 97, 3) := by decide +kernel
theorem dX7_codeItem_17 : decode cX7_codeItem 17 = .ok (.istore_n 1, 1) := by decide +kernel
theorem dX7_codeItem_18 : decode cX7_codeItem 18 = .ok (.iload_n 1, 1) := by decide +kernel
theorem dX7_codeItem_19 : decode cX7_codeItem 19 = .ok (.ifCond .ge 6, 3) := by decide +kernel
theorem dX7_codeItem_22 : decode cX7_codeItem 22 = .ok (.iload_n 1, 1) := by decide +kernel
theorem dX7_codeItem_23 : decode cX7_codeItem 23 = .ok (.ineg, 1) := by decide +kernel
theorem dX7_codeItem_24 : decode cX7_codeItem 24 = .ok (.ireturn, 1) := by decide +kernel
theorem dX7_codeItem_25 : decode cX7_codeItem 25 = .ok (.aload_n 0, 1) := by decide +kernel
theorem dX7_codeItem_26 : decode cX7_codeItem 26 = .ok (.iconst 2, 1) := by decide +kernel
theorem dX7_codeItem_27 : decode cX7_codeItem 27 = .ok (.iconst 0, 1) := by decide +kernel
theorem dX7_codeItem_28 : decode cX7_codeItem 28 = .ok (.invokevirtual 97, 3) := by decide +kernel
theorem dX7_codeItem_31 : decode cX7_codeItem 31 = .ok (.istore_n 2, 1) := by decide +kernel
theorem dX7_codeItem_32 : decode cX7_codeItem 32 = .ok (.iload_n 2, 1) := by decide +kernel
theorem dX7_codeItem_33 : decode cX7_codeItem 33 = .ok (.ifCond .ge 6, 3) := by decide +kernel
theorem dX7_codeItem_36 : decode cX7_codeItem 36 = .ok (.iload_n 2, 1) := by decide +kernel
theorem dX7_codeItem_37 : decode cX7_codeItem 37 = .ok (.ineg, 1) := by decide +kernel
theorem dX7_codeItem_38 : decode cX7_codeItem 38 = .ok (.ireturn, 1) := by decide +kernel
theorem dX7_codeItem_39 : decode cX7_codeItem 39 = .ok (.aload_n 0, 1) := by decide +kernel
theorem dX7_codeItem_40 : decode cX7_codeItem 40 = .ok (.iload_n 1, 1) := by decide +kernel
theorem dX7_codeItem_41 : decode cX7_codeItem 41 = .ok (.iload_n 2, 1) := by decide +kernel
theorem dX7_codeItem_42 : decode cX7_codeItem 42 = .ok (.invokevirtual 64, 3) := by decide +kernel
theorem dX7_codeItem_45 : decode cX7_codeItem 45 = .ok (.iconst 0, 1) := by decide +kernel
theorem dX7_codeItem_46 : decode cX7_codeItem 46 = .ok (.ireturn, 1) := by decide +kernel
theorem dX7_staysItem_0 : decode cX7_staysItem 0 = .ok (.aload_n 0, 1) := by decide +kernel
theorem dX7_staysItem_1 : decode cX7_staysItem 1 = .ok (.iconst 4, 1) := by decide +kernel
theorem dX7_staysItem_2 : decode cX7_staysItem 2 = .ok (.iconst 3, 1) := by decide +kernel
theorem dX7_staysItem_3 : decode cX7_staysItem 3 = .ok (.iconst 0, 1) := by decide +kernel
theorem dX7_staysItem_4 : decode cX7_staysItem 4 = .ok (.invokevirtual 101, 3) := by decide +kernel
theorem dX7_staysItem_7 : decode cX7_staysItem 7 = .ok (.istore_n 1, 1) := by decide +kernel
theorem dX7_staysItem_8 : decode cX7_staysItem 8 = .ok (.iload_n 1, 1) := by decide +kernel
theorem dX7_staysItem_9 : decode cX7_staysItem 9 = .ok (.ifCond .eq 7, 3) := by decide +kernel
theorem dX7_staysItem_12 : decode cX7_staysItem 12 = .ok (.iload_n 1, 1) := by decide +kernel
theorem dX7_staysItem_13 : decode cX7_staysItem 13 = .ok (.goto 10, 3) := by decide +kernel
theorem dX7_staysItem_16 : decode cX7_staysItem 16 = .ok (.aload_n 0, 1) := by decide +kernel
theorem dX7_staysItem_17 : decode cX7_staysItem 17 = .ok (.iconst 5, 1) := by decide +kernel
theorem dX7_staysItem_18 : decode cX7_staysItem 18 = .ok (.iconst 3, 1) := by decide +kernel
theorem dX7_staysItem_19 : decode cX7_staysItem 19 = .ok (.iconst 0, 1) := by decide +kernel
theorem dX7_staysItem_20 : decode cX7_staysItem 20 = .ok (.invokevirtual 101, 3) := by decide +kernel
theorem dX7_staysItem_23 : decode cX7_staysItem 23 = .ok (.ireturn, 1) := by decide +kernel
theorem dX7_item_0 : decode cX7_item 0 = .ok (.iload_n 1, 1) := by decide +kernel
theorem dX7_item_1 : decode cX7_item 1 = .ok (.lookupswitch 119 #[(98, 81), (107, 111), (108, 70), (109, 92), (115, 103), (119, 59)], 59) := by decide +kernel
theorem dX7_item_60 : decode cX7_item 60 = .ok (.aload_n 0, 1) := by decide +kernel
theorem dX7_item_61 : decode cX7_item 61 = .ok (.iconst 0, 1) := by decide +kernel
theorem dX7_item_62 : decode cX7_item 62 = .ok (.iconst 3, 1) := by decide +kernel
theorem dX7_item_63 : decode cX7_item 63 = .ok (.iconst 1, 1) := by decide +kernel
theorem dX7_item_64 : decode cX7_item 64 = .ok (.invokevirtual 101, 3) := by decide +kernel
theorem dX7_item_67 : decode cX7_item 67 = .ok (.istore_n 2, 1) := by decide +kernel
theorem dX7_item_68 : decode cX7_item 68 = .ok (.goto 54, 3) := by decide +kernel
theorem dX7_item_71 : decode cX7_item 71 = .ok (.aload_n 0, 1) := by decide +kernel
theorem dX7_item_72 : decode cX7_item 72 = .ok (.iconst 1, 1) := by decide +kernel
theorem dX7_item_73 : decode cX7_item 73 = .ok (.iconst 2, 1) := by decide +kernel
theorem dX7_item_74 : decode cX7_item 74 = .ok (.iconst 1, 1) := by decide +kernel
theorem dX7_item_75 : decode cX7_item 75 = .ok (.invokevirtual 101, 3) := by decide +kernel
theorem dX7_item_78 : decode cX7_item 78 = .ok (.istore_n 2, 1) := by decide +kernel
theorem dX7_item_79 : decode cX7_item 79 = .ok (.goto 43, 3) := by decide +kernel
theorem dX7_item_82 : decode cX7_item 82 = .ok (.aload_n 0, 1) := by decide +kernel
theorem dX7_item_83 : decode cX7_item 83 = .ok (.iconst 2, 1) := by decide +kernel
theorem dX7_item_84 : decode cX7_item 84 = .ok (.iconst 2, 1) := by decide +kernel
theorem dX7_item_85 : decode cX7_item 85 = .ok (.iconst 1, 1) := by decide +kernel
theorem dX7_item_86 : decode cX7_item 86 = .ok (.invokevirtual 101, 3) := by decide +kernel
theorem dX7_item_89 : decode cX7_item 89 = .ok (.istore_n 2, 1) := by decide +kernel
theorem dX7_item_90 : decode cX7_item 90 = .ok (.goto 32, 3) := by decide +kernel
theorem dX7_item_93 : decode cX7_item 93 = .ok (.aload_n 0, 1) := by decide +kernel
theorem dX7_item_94 : decode cX7_item 94 = .ok (.iconst 3, 1) := by decide +kernel
theorem dX7_item_95 : decode cX7_item 95 = .ok (.iconst 3, 1) := by decide +kernel
theorem dX7_item_96 : decode cX7_item 96 = .ok (.iconst 0, 1) := by decide +kernel
theorem dX7_item_97 : decode cX7_item 97 = .ok (.invokevirtual 101, 3) := by decide +kernel
theorem dX7_item_100 : decode cX7_item 100 = .ok (.istore_n 2, 1) := by decide +kernel
theorem dX7_item_101 : decode cX7_item 101 = .ok (.goto 21, 3) := by decide +kernel
theorem dX7_item_104 : decode cX7_item 104 = .ok (.aload_n 0, 1) := by decide +kernel
theorem dX7_item_105 : decode cX7_item 105 = .ok (.invokevirtual 105, 3) := by decide +kernel
theorem dX7_item_108 : decode cX7_item 108 = .ok (.istore_n 2, 1) := by decide +kernel
theorem dX7_item_109 : decode cX7_item 109 = .ok (.goto 13, 3) := by decide +kernel
theorem dX7_item_112 : decode cX7_item 112 = .ok (.aload_n 0, 1) := by decide +kernel
theorem dX7_item_113 : decode cX7_item 113 = .ok (.invokevirtual 109, 3) := by decide +kernel
theorem dX7_item_116 : decode cX7_item 116 = .ok (.istore_n 2, 1) := by decide +kernel
theorem dX7_item_117 : decode cX7_item 117 = .ok (.goto 5, 3) := by decide +kernel
theorem dX7_item_120 : decode cX7_item 120 = .ok (.iconst 3, 1) := by decide +kernel
theorem dX7_item_121 : decode cX7_item 121 = .ok (.ireturn, 1) := by decide +kernel
theorem dX7_item_122 : decode cX7_item 122 = .ok (.iload_n 2, 1) := by decide +kernel
theorem dX7_item_123 : decode cX7_item 123 = .ok (.ifCond .eq 7, 3) := by decide +kernel
theorem dX7_item_126 : decode cX7_item 126 = .ok (.iload_n 2, 1) := by decide +kernel
theorem dX7_item_127 : decode cX7_item 127 = .ok (.goto 7, 3) := by decide +kernel
theorem dX7_item_130 : decode cX7_item 130 = .ok (.aload_n 0, 1) := by decide +kernel
theorem dX7_item_131 : decode cX7_item 131 = .ok (.invokevirtual 112, 3) := by decide +kernel
theorem dX7_item_134 : decode cX7_item 134 = .ok (.ireturn, 1) := by decide +kernel
theorem dX7_readAll_0 : decode cX7_readAll 0 = .ok (.aload_n 0, 1) := by decide +kernel
theorem dX7_readAll_1 : decode cX7_readAll 1 = .ok (.invokevirtual 61, 3) := by decide +kernel
theorem dX7_readAll_4 : decode cX7_readAll 4 = .ok (.aload_n 0, 1) := by decide +kernel
theorem dX7_readAll_5 : decode cX7_readAll 5 = .ok (.iconst 0, 1) := by decide +kernel
theorem dX7_readAll_6 : decode cX7_readAll 6 = .ok (.putfield 86, 3) := by decide +kernel
theorem dX7_readAll_9 : decode cX7_readAll 9 = .ok (.aload_n 0, 1) := by decide +kernel
theorem dX7_readAll_10 : decode cX7_readAll 10 = .ok (.bipush (-4), 2) := by decide +kernel
theorem dX7_readAll_12 : decode cX7_readAll 12 = .ok (.putfield 115, 3) := by decide +kernel
theorem dX7_readAll_15 : decode cX7_readAll 15 = .ok (.aload_n 0, 1) := by decide +kernel
theorem dX7_readAll_16 : decode cX7_readAll 16 = .ok (.getfield 86, 3) := by decide +kernel
theorem dX7_readAll_19 : decode cX7_readAll 19 = .ok (.aload_n 0, 1) := by decide +kernel
theorem dX7_readAll_20 : decode cX7_readAll 20 = .ok (.getfield 83, 3) := by decide +kernel
theorem dX7_readAll_23 : decode cX7_readAll 23 = .ok (.if_icmp .ge 42, 3) := by decide +kernel
theorem dX7_readAll_26 : decode cX7_readAll 26 = .ok (.aload_n 0, 1) := by decide +kernel
theorem dX7_readAll_27 : decode cX7_readAll 27 = .ok (.getfield 86, 3) := by decide +kernel
theorem dX7_readAll_30 : decode cX7_readAll 30 = .ok (.istore_n 1, 1) := by decide +kernel
theorem dX7_readAll_31 : decode cX7_readAll 31 = .ok (.aload_n 0, 1) := by decide +kernel
theorem dX7_readAll_32 : decode cX7_readAll 32 = .ok (.dup, 1) := by decide +kernel
theorem dX7_readAll_33 : decode cX7_readAll 33 = .ok (.getfield 86, 3) := by decide +kernel
theorem dX7_readAll_36 : decode cX7_readAll 36 = .ok (.iconst 1, 1) := by decide +kernel
theorem dX7_readAll_37 : decode cX7_readAll 37 = .ok (.iadd, 1) := by decide +kernel
theorem dX7_readAll_38 : decode cX7_readAll 38 = .ok (.putfield 86, 3) := by decide +kernel
theorem dX7_readAll_41 : decode cX7_readAll 41 = .ok (.aload_n 0, 1) := by decide +kernel
theorem dX7_readAll_42 : decode cX7_readAll 42 = .ok (.aload_n 0, 1) := by decide +kernel
theorem dX7_readAll_43 : decode cX7_readAll 43 = .ok (.iload_n 1, 1) := by decide +kernel
theorem dX7_readAll_44 : decode cX7_readAll 44 = .ok (.invokevirtual 89, 3) := by decide +kernel
theorem dX7_readAll_47 : decode cX7_readAll 47 = .ok (.invokevirtual 118, 3) := by decide +kernel
theorem dX7_readAll_50 : decode cX7_readAll 50 = .ok (.istore_n 2, 1) := by decide +kernel
theorem dX7_readAll_51 : decode cX7_readAll 51 = .ok (.iload_n 2, 1) := by decide +kernel
theorem dX7_readAll_52 : decode cX7_readAll 52 = .ok (.ifCond .eq 10, 3) := by decide +kernel
theorem dX7_readAll_55 : decode cX7_readAll 55 = .ok (.aload_n 0, 1) := by decide +kernel
theorem dX7_readAll_56 : decode cX7_readAll 56 = .ok (.iload_n 2, 1) := by decide +kernel
theorem dX7_readAll_57 : decode cX7_readAll 57 = .ok (.putfield 115, 3) := by decide +kernel
theorem dX7_readAll_60 : decode cX7_readAll 60 = .ok (.iload_n 1, 1) := by decide +kernel
theorem dX7_readAll_61 : decode cX7_readAll 61 = .ok (.ireturn, 1) := by decide +kernel
theorem dX7_readAll_62 : decode cX7_readAll 62 = .ok (.goto (-47), 3) := by decide +kernel
theorem dX7_readAll_65 : decode cX7_readAll 65 = .ok (.bipush (-4), 2) := by decide +kernel
theorem dX7_readAll_67 : decode cX7_readAll 67 = .ok (.ireturn, 1) := by decide +kernel
theorem dX7_fault_0 : decode cX7_fault 0 = .ok (.aload_n 0, 1) := by decide +kernel
theorem dX7_fault_1 : decode cX7_fault 1 = .ok (.invokevirtual 121, 3) := by decide +kernel
theorem dX7_fault_4 : decode cX7_fault 4 = .ok (.ireturn, 1) := by decide +kernel
theorem dX7_reason_0 : decode cX7_reason 0 = .ok (.aload_n 0, 1) := by decide +kernel
theorem dX7_reason_1 : decode cX7_reason 1 = .ok (.invokevirtual 121, 3) := by decide +kernel
theorem dX7_reason_4 : decode cX7_reason 4 = .ok (.pop, 1) := by decide +kernel
theorem dX7_reason_5 : decode cX7_reason 5 = .ok (.aload_n 0, 1) := by decide +kernel
theorem dX7_reason_6 : decode cX7_reason 6 = .ok (.getfield 115, 3) := by decide +kernel
theorem dX7_reason_9 : decode cX7_reason 9 = .ok (.ireturn, 1) := by decide +kernel
theorem dX7_lay_0 : decode cX7_lay 0 = .ok (.aload_n 0, 1) := by decide +kernel
theorem dX7_lay_1 : decode cX7_lay 1 = .ok (.invokevirtual 121, 3) := by decide +kernel
theorem dX7_lay_4 : decode cX7_lay 4 = .ok (.bipush (-4), 2) := by decide +kernel
theorem dX7_lay_6 : decode cX7_lay 6 = .ok (.if_icmp .ne 10, 3) := by decide +kernel
theorem dX7_lay_9 : decode cX7_lay 9 = .ok (.aload_n 0, 1) := by decide +kernel
theorem dX7_lay_10 : decode cX7_lay 10 = .ok (.getfield 71, 3) := by decide +kernel
theorem dX7_lay_13 : decode cX7_lay 13 = .ok (.ifCond .ne 6, 3) := by decide +kernel
theorem dX7_lay_16 : decode cX7_lay 16 = .ok (.bipush (-2), 2) := by decide +kernel
theorem dX7_lay_18 : decode cX7_lay 18 = .ok (.ireturn, 1) := by decide +kernel
theorem dX7_lay_19 : decode cX7_lay 19 = .ok (.aload_n 0, 1) := by decide +kernel
theorem dX7_lay_20 : decode cX7_lay 20 = .ok (.invokevirtual 68, 3) := by decide +kernel
theorem dX7_lay_23 : decode cX7_lay 23 = .ok (.aload_n 0, 1) := by decide +kernel
theorem dX7_lay_24 : decode cX7_lay 24 = .ok (.getfield 124, 3) := by decide +kernel
theorem dX7_lay_27 : decode cX7_lay 27 = .ok (.ireturn, 1) := by decide +kernel
theorem dX7_begin_0 : decode cX7_begin 0 = .ok (.iconst 0, 1) := by decide +kernel
theorem dX7_begin_1 : decode cX7_begin 1 = .ok (.istore_n 1, 1) := by decide +kernel
theorem dX7_begin_2 : decode cX7_begin 2 = .ok (.iload_n 1, 1) := by decide +kernel
theorem dX7_begin_3 : decode cX7_begin 3 = .ok (.sipush 335, 3) := by decide +kernel
theorem dX7_begin_6 : decode cX7_begin 6 = .ok (.if_icmp .ge 16, 3) := by decide +kernel
theorem dX7_begin_9 : decode cX7_begin 9 = .ok (.aload_n 0, 1) := by decide +kernel
theorem dX7_begin_10 : decode cX7_begin 10 = .ok (.getfield 13, 3) := by decide +kernel
theorem dX7_begin_13 : decode cX7_begin 13 = .ok (.iload_n 1, 1) := by decide +kernel
theorem dX7_begin_14 : decode cX7_begin 14 = .ok (.iconst 0, 1) := by decide +kernel
theorem dX7_begin_15 : decode cX7_begin 15 = .ok (.iastore, 1) := by decide +kernel
theorem dX7_begin_16 : decode cX7_begin 16 = .ok (.iinc 1 1, 3) := by decide +kernel
theorem dX7_begin_19 : decode cX7_begin 19 = .ok (.goto (-17), 3) := by decide +kernel
theorem dX7_begin_22 : decode cX7_begin 22 = .ok (.iconst 0, 1) := by decide +kernel
theorem dX7_begin_23 : decode cX7_begin 23 = .ok (.istore_n 1, 1) := by decide +kernel
theorem dX7_begin_24 : decode cX7_begin 24 = .ok (.iload_n 1, 1) := by decide +kernel
theorem dX7_begin_25 : decode cX7_begin 25 = .ok (.bipush 6, 2) := by decide +kernel
theorem dX7_begin_27 : decode cX7_begin 27 = .ok (.if_icmp .ge 73, 3) := by decide +kernel
theorem dX7_begin_30 : decode cX7_begin 30 = .ok (.aload_n 0, 1) := by decide +kernel
theorem dX7_begin_31 : decode cX7_begin 31 = .ok (.getfield 13, 3) := by decide +kernel
theorem dX7_begin_34 : decode cX7_begin 34 = .ok (.sipush 328, 3) := by decide +kernel
theorem dX7_begin_37 : decode cX7_begin 37 = .ok (.iload_n 1, 1) := by decide +kernel
theorem dX7_begin_38 : decode cX7_begin 38 = .ok (.iadd, 1) := by decide +kernel
theorem dX7_begin_39 : decode cX7_begin 39 = .ok (.aload_n 0, 1) := by decide +kernel
theorem dX7_begin_40 : decode cX7_begin 40 = .ok (.getfield 25, 3) := by decide +kernel
theorem dX7_begin_43 : decode cX7_begin 43 = .ok (.iload_n 1, 1) := by decide +kernel
theorem dX7_begin_44 : decode cX7_begin 44 = .ok (.iaload, 1) := by decide +kernel
theorem dX7_begin_45 : decode cX7_begin 45 = .ok (.iastore, 1) := by decide +kernel
theorem dX7_begin_46 : decode cX7_begin 46 = .ok (.aload_n 0, 1) := by decide +kernel
theorem dX7_begin_47 : decode cX7_begin 47 = .ok (.getfield 19, 3) := by decide +kernel
theorem dX7_begin_50 : decode cX7_begin 50 = .ok (.iload_n 1, 1) := by decide +kernel
theorem dX7_begin_51 : decode cX7_begin 51 = .ok (.iload_n 1, 1) := by decide +kernel
theorem dX7_begin_52 : decode cX7_begin 52 = .ok (.aload_n 0, 1) := by decide +kernel
theorem dX7_begin_53 : decode cX7_begin 53 = .ok (.getfield 71, 3) := by decide +kernel
theorem dX7_begin_56 : decode cX7_begin 56 = .ok (.if_icmp .ge 12, 3) := by decide +kernel
theorem dX7_begin_59 : decode cX7_begin 59 = .ok (.aload_n 0, 1) := by decide +kernel
theorem dX7_begin_60 : decode cX7_begin 60 = .ok (.getfield 28, 3) := by decide +kernel
theorem dX7_begin_63 : decode cX7_begin 63 = .ok (.iload_n 1, 1) := by decide +kernel
theorem dX7_begin_64 : decode cX7_begin 64 = .ok (.iaload, 1) := by decide +kernel
theorem dX7_begin_65 : decode cX7_begin 65 = .ok (.goto 4, 3) := by decide +kernel
theorem dX7_begin_68 : decode cX7_begin 68 = .ok (.iconst 0, 1) := by decide +kernel
theorem dX7_begin_69 : decode cX7_begin 69 = .ok (.iastore, 1) := by decide +kernel
theorem dX7_begin_70 : decode cX7_begin 70 = .ok (.aload_n 0, 1) := by decide +kernel
theorem dX7_begin_71 : decode cX7_begin 71 = .ok (.getfield 22, 3) := by decide +kernel
theorem dX7_begin_74 : decode cX7_begin 74 = .ok (.iload_n 1, 1) := by decide +kernel
theorem dX7_begin_75 : decode cX7_begin 75 = .ok (.iload_n 1, 1) := by decide +kernel
theorem dX7_begin_76 : decode cX7_begin 76 = .ok (.aload_n 0, 1) := by decide +kernel
theorem dX7_begin_77 : decode cX7_begin 77 = .ok (.getfield 71, 3) := by decide +kernel
theorem dX7_begin_80 : decode cX7_begin 80 = .ok (.if_icmp .ge 12, 3) := by decide +kernel
theorem dX7_begin_83 : decode cX7_begin 83 = .ok (.aload_n 0, 1) := by decide +kernel
theorem dX7_begin_84 : decode cX7_begin 84 = .ok (.getfield 31, 3) := by decide +kernel
theorem dX7_begin_87 : decode cX7_begin 87 = .ok (.iload_n 1, 1) := by decide +kernel
theorem dX7_begin_88 : decode cX7_begin 88 = .ok (.iaload, 1) := by decide +kernel
theorem dX7_begin_89 : decode cX7_begin 89 = .ok (.goto 4, 3) := by decide +kernel
theorem dX7_begin_92 : decode cX7_begin 92 = .ok (.iconst 0, 1) := by decide +kernel
theorem dX7_begin_93 : decode cX7_begin 93 = .ok (.iastore, 1) := by decide +kernel
theorem dX7_begin_94 : decode cX7_begin 94 = .ok (.iinc 1 1, 3) := by decide +kernel
theorem dX7_begin_97 : decode cX7_begin 97 = .ok (.goto (-73), 3) := by decide +kernel
theorem dX7_begin_100 : decode cX7_begin 100 = .ok (.aload_n 0, 1) := by decide +kernel
theorem dX7_begin_101 : decode cX7_begin 101 = .ok (.aload_n 0, 1) := by decide +kernel
theorem dX7_begin_102 : decode cX7_begin 102 = .ok (.getfield 71, 3) := by decide +kernel
theorem dX7_begin_105 : decode cX7_begin 105 = .ok (.putfield 124, 3) := by decide +kernel
theorem dX7_begin_108 : decode cX7_begin 108 = .ok (.aload_n 0, 1) := by decide +kernel
theorem dX7_begin_109 : decode cX7_begin 109 = .ok (.iconst 0, 1) := by decide +kernel
theorem dX7_begin_110 : decode cX7_begin 110 = .ok (.putfield 127, 3) := by decide +kernel
theorem dX7_begin_113 : decode cX7_begin 113 = .ok (.aload_n 0, 1) := by decide +kernel
theorem dX7_begin_114 : decode cX7_begin 114 = .ok (.iconst 0, 1) := by decide +kernel
theorem dX7_begin_115 : decode cX7_begin 115 = .ok (.putfield 130, 3) := by decide +kernel
theorem dX7_begin_118 : decode cX7_begin 118 = .ok (.aload_n 0, 1) := by decide +kernel
theorem dX7_begin_119 : decode cX7_begin 119 = .ok (.iconst 0, 1) := by decide +kernel
theorem dX7_begin_120 : decode cX7_begin 120 = .ok (.putfield 133, 3) := by decide +kernel
theorem dX7_begin_123 : decode cX7_begin 123 = .ok (.return_, 1) := by decide +kernel
theorem dX7_isDriver_0 : decode cX7_isDriver 0 = .ok (.iload_n 0, 1) := by decide +kernel
theorem dX7_isDriver_1 : decode cX7_isDriver 1 = .ok (.i2l, 1) := by decide +kernel
theorem dX7_isDriver_2 : decode cX7_isDriver 2 = .ok (.lconst 0, 1) := by decide +kernel
theorem dX7_isDriver_3 : decode cX7_isDriver 3 = .ok (.ldc2_w 137, 3) := by decide +kernel
theorem dX7_isDriver_6 : decode cX7_isDriver 6 = .ok (.invokestatic 79, 3) := by decide +kernel
theorem dX7_isDriver_9 : decode cX7_isDriver 9 = .ok (.ireturn, 1) := by decide +kernel
theorem dX7_isCode_0 : decode cX7_isCode 0 = .ok (.iload_n 1, 1) := by decide +kernel
theorem dX7_isCode_1 : decode cX7_isCode 1 = .ok (.i2l, 1) := by decide +kernel
theorem dX7_isCode_2 : decode cX7_isCode 2 = .ok (.lconst 0, 1) := by decide +kernel
theorem dX7_isCode_3 : decode cX7_isCode 3 = .ok (.aload_n 0, 1) := by decide +kernel
theorem dX7_isCode_4 : decode cX7_isCode 4 = .ok (.getfield 124, 3) := by decide +kernel
theorem dX7_isCode_7 : decode cX7_isCode 7 = .ok (.iconst 1, 1) := by decide +kernel
theorem dX7_isCode_8 : decode cX7_isCode 8 = .ok (.isub, 1) := by decide +kernel
theorem dX7_isCode_9 : decode cX7_isCode 9 = .ok (.i2l, 1) := by decide +kernel
theorem dX7_isCode_10 : decode cX7_isCode 10 = .ok (.invokestatic 79, 3) := by decide +kernel
theorem dX7_isCode_13 : decode cX7_isCode 13 = .ok (.ireturn, 1) := by decide +kernel
theorem dX7_isEvent_0 : decode cX7_isEvent 0 = .ok (.iload_n 1, 1) := by decide +kernel
theorem dX7_isEvent_1 : decode cX7_isEvent 1 = .ok (.i2l, 1) := by decide +kernel
theorem dX7_isEvent_2 : decode cX7_isEvent 2 = .ok (.lconst 0, 1) := by decide +kernel
theorem dX7_isEvent_3 : decode cX7_isEvent 3 = .ok (.aload_n 0, 1) := by decide +kernel
theorem dX7_isEvent_4 : decode cX7_isEvent 4 = .ok (.getfield 13, 3) := by decide +kernel
theorem dX7_isEvent_7 : decode cX7_isEvent 7 = .ok (.sipush 334, 3) := by decide +kernel
theorem dX7_isEvent_10 : decode cX7_isEvent 10 = .ok (.iaload, 1) := by decide +kernel
theorem dX7_isEvent_11 : decode cX7_isEvent 11 = .ok (.iconst 1, 1) := by decide +kernel
theorem dX7_isEvent_12 : decode cX7_isEvent 12 = .ok (.isub, 1) := by decide +kernel
theorem dX7_isEvent_13 : decode cX7_isEvent 13 = .ok (.i2l, 1) := by decide +kernel
theorem dX7_isEvent_14 : decode cX7_isEvent 14 = .ok (.invokestatic 79, 3) := by decide +kernel
theorem dX7_isEvent_17 : decode cX7_isEvent 17 = .ok (.ireturn, 1) := by decide +kernel
theorem dX7_of_0 : decode cX7_of 0 = .ok (.aload_n 0, 1) := by decide +kernel
theorem dX7_of_1 : decode cX7_of 1 = .ok (.getfield 13, 3) := by decide +kernel
theorem dX7_of_4 : decode cX7_of 4 = .ok (.bipush 8, 2) := by decide +kernel
theorem dX7_of_6 : decode cX7_of 6 = .ok (.iload_n 1, 1) := by decide +kernel
theorem dX7_of_7 : decode cX7_of 7 = .ok (.imul, 1) := by decide +kernel
theorem dX7_of_8 : decode cX7_of 8 = .ok (.iload_n 2, 1) := by decide +kernel
theorem dX7_of_9 : decode cX7_of 9 = .ok (.iadd, 1) := by decide +kernel
theorem dX7_of_10 : decode cX7_of 10 = .ok (.iaload, 1) := by decide +kernel
theorem dX7_of_11 : decode cX7_of 11 = .ok (.ireturn, 1) := by decide +kernel
theorem dX7_ruleOf_0 : decode cX7_ruleOf 0 = .ok (.aload_n 0, 1) := by decide +kernel
theorem dX7_ruleOf_1 : decode cX7_ruleOf 1 = .ok (.getfield 13, 3) := by decide +kernel
theorem dX7_ruleOf_4 : decode cX7_ruleOf 4 = .ok (.sipush 328, 3) := by decide +kernel
theorem dX7_ruleOf_7 : decode cX7_ruleOf 7 = .ok (.iload_n 1, 1) := by decide +kernel
theorem dX7_ruleOf_8 : decode cX7_ruleOf 8 = .ok (.iadd, 1) := by decide +kernel
theorem dX7_ruleOf_9 : decode cX7_ruleOf 9 = .ok (.iaload, 1) := by decide +kernel
theorem dX7_ruleOf_10 : decode cX7_ruleOf 10 = .ok (.ireturn, 1) := by decide +kernel
theorem dX7_note_0 : decode cX7_note 0 = .ok (.aload_n 0, 1) := by decide +kernel
theorem dX7_note_1 : decode cX7_note 1 = .ok (.getfield 127, 3) := by decide +kernel
theorem dX7_note_4 : decode cX7_note 4 = .ok (.bipush 6, 2) := by decide +kernel
theorem dX7_note_6 : decode cX7_note 6 = .ok (.if_icmp .ne 44, 3) := by decide +kernel
theorem dX7_note_9 : decode cX7_note 9 = .ok (.iconst 0, 1) := by decide +kernel
theorem dX7_note_10 : decode cX7_note 10 = .ok (.istore_n 1, 1) := by decide +kernel
theorem dX7_note_11 : decode cX7_note 11 = .ok (.iload_n 1, 1) := by decide +kernel
theorem dX7_note_12 : decode cX7_note 12 = .ok (.sipush 1675, 3) := by decide +kernel
theorem dX7_note_15 : decode cX7_note 15 = .ok (.if_icmp .ge 25, 3) := by decide +kernel
theorem dX7_note_18 : decode cX7_note 18 = .ok (.aload_n 0, 1) := by decide +kernel
theorem dX7_note_19 : decode cX7_note 19 = .ok (.getfield 16, 3) := by decide +kernel
theorem dX7_note_22 : decode cX7_note 22 = .ok (.iload_n 1, 1) := by decide +kernel
theorem dX7_note_23 : decode cX7_note 23 = .ok (.aload_n 0, 1) := by decide +kernel
theorem dX7_note_24 : decode cX7_note 24 = .ok (.getfield 16, 3) := by decide +kernel
theorem dX7_note_27 : decode cX7_note 27 = .ok (.sipush 335, 3) := by decide +kernel
theorem dX7_note_30 : decode cX7_note 30 = .ok (.iload_n 1, 1) := by decide +kernel
theorem dX7_note_31 : decode cX7_note 31 = .ok (.iadd, 1) := by decide +kernel
theorem dX7_note_32 : decode cX7_note 32 = .ok (.iaload, 1) := by decide +kernel
theorem dX7_note_33 : decode cX7_note 33 = .ok (.iastore, 1) := by decide +kernel
theorem dX7_note_34 : decode cX7_note 34 = .ok (.iinc 1 1, 3) := by decide +kernel
theorem dX7_note_37 : decode cX7_note 37 = .ok (.goto (-26), 3) := by decide +kernel
theorem dX7_note_40 : decode cX7_note 40 = .ok (.aload_n 0, 1) := by decide +kernel
theorem dX7_note_41 : decode cX7_note 41 = .ok (.dup, 1) := by decide +kernel
theorem dX7_note_42 : decode cX7_note 42 = .ok (.getfield 127, 3) := by decide +kernel
theorem dX7_note_45 : decode cX7_note 45 = .ok (.iconst 1, 1) := by decide +kernel
theorem dX7_note_46 : decode cX7_note 46 = .ok (.isub, 1) := by decide +kernel
theorem dX7_note_47 : decode cX7_note 47 = .ok (.putfield 127, 3) := by decide +kernel
theorem dX7_note_50 : decode cX7_note 50 = .ok (.iconst 0, 1) := by decide +kernel
theorem dX7_note_51 : decode cX7_note 51 = .ok (.istore_n 1, 1) := by decide +kernel
theorem dX7_note_52 : decode cX7_note 52 = .ok (.iload_n 1, 1) := by decide +kernel
theorem dX7_note_53 : decode cX7_note 53 = .ok (.sipush 335, 3) := by decide +kernel
theorem dX7_note_56 : decode cX7_note 56 = .ok (.if_icmp .ge 30, 3) := by decide +kernel
theorem dX7_note_59 : decode cX7_note 59 = .ok (.aload_n 0, 1) := by decide +kernel
theorem dX7_note_60 : decode cX7_note 60 = .ok (.getfield 16, 3) := by decide +kernel
theorem dX7_note_63 : decode cX7_note 63 = .ok (.sipush 335, 3) := by decide +kernel
theorem dX7_note_66 : decode cX7_note 66 = .ok (.aload_n 0, 1) := by decide +kernel
theorem dX7_note_67 : decode cX7_note 67 = .ok (.getfield 127, 3) := by decide +kernel
theorem dX7_note_70 : decode cX7_note 70 = .ok (.imul, 1) := by decide +kernel
theorem dX7_note_71 : decode cX7_note 71 = .ok (.iload_n 1, 1) := by decide +kernel
theorem dX7_note_72 : decode cX7_note 72 = .ok (.iadd, 1) := by decide +kernel
theorem dX7_note_73 : decode cX7_note 73 = .ok (.aload_n 0, 1) := by decide +kernel
theorem dX7_note_74 : decode cX7_note 74 = .ok (.getfield 13, 3) := by decide +kernel
theorem dX7_note_77 : decode cX7_note 77 = .ok (.iload_n 1, 1) := by decide +kernel
theorem dX7_note_78 : decode cX7_note 78 = .ok (.iaload, 1) := by decide +kernel
theorem dX7_note_79 : decode cX7_note 79 = .ok (.iastore, 1) := by decide +kernel
theorem dX7_note_80 : decode cX7_note 80 = .ok (.iinc 1 1, 3) := by decide +kernel
theorem dX7_note_83 : decode cX7_note 83 = .ok (.goto (-31), 3) := by decide +kernel
theorem dX7_note_86 : decode cX7_note 86 = .ok (.aload_n 0, 1) := by decide +kernel
theorem dX7_note_87 : decode cX7_note 87 = .ok (.dup, 1) := by decide +kernel
theorem dX7_note_88 : decode cX7_note 88 = .ok (.getfield 127, 3) := by decide +kernel
theorem dX7_note_91 : decode cX7_note 91 = .ok (.iconst 1, 1) := by decide +kernel
theorem dX7_note_92 : decode cX7_note 92 = .ok (.iadd, 1) := by decide +kernel
theorem dX7_note_93 : decode cX7_note 93 = .ok (.putfield 127, 3) := by decide +kernel
theorem dX7_note_96 : decode cX7_note 96 = .ok (.aload_n 0, 1) := by decide +kernel
theorem dX7_note_97 : decode cX7_note 97 = .ok (.iconst 0, 1) := by decide +kernel
theorem dX7_note_98 : decode cX7_note 98 = .ok (.putfield 133, 3) := by decide +kernel
theorem dX7_note_101 : decode cX7_note 101 = .ok (.return_, 1) := by decide +kernel
theorem dX7_rule_0 : decode cX7_rule 0 = .ok (.iload_n 1, 1) := by decide +kernel
theorem dX7_rule_1 : decode cX7_rule 1 = .ok (.i2l, 1) := by decide +kernel
theorem dX7_rule_2 : decode cX7_rule 2 = .ok (.lconst 0, 1) := by decide +kernel
theorem dX7_rule_3 : decode cX7_rule 3 = .ok (.ldc2_w 139, 3) := by decide +kernel
theorem dX7_rule_6 : decode cX7_rule 6 = .ok (.invokestatic 79, 3) := by decide +kernel
theorem dX7_rule_9 : decode cX7_rule 9 = .ok (.ifCond .eq 44, 3) := by decide +kernel
theorem dX7_rule_12 : decode cX7_rule 12 = .ok (.iload_n 2, 1) := by decide +kernel
theorem dX7_rule_13 : decode cX7_rule 13 = .ok (.i2l, 1) := by decide +kernel
theorem dX7_rule_14 : decode cX7_rule 14 = .ok (.iload_n 1, 1) := by decide +kernel
theorem dX7_rule_15 : decode cX7_rule 15 = .ok (.iconst 3, 1) := by decide +kernel
theorem dX7_rule_16 : decode cX7_rule 16 = .ok (.if_icmp .ge 7, 3) := by decide +kernel
theorem dX7_rule_19 : decode cX7_rule 19 = .ok (.lconst 1, 1) := by decide +kernel
theorem dX7_rule_20 : decode cX7_rule 20 = .ok (.goto 4, 3) := by decide +kernel
theorem dX7_rule_23 : decode cX7_rule 23 = .ok (.lconst 0, 1) := by decide +kernel
theorem dX7_rule_24 : decode cX7_rule 24 = .ok (.iload_n 1, 1) := by decide +kernel
theorem dX7_rule_25 : decode cX7_rule 25 = .ok (.iconst 1, 1) := by decide +kernel
theorem dX7_rule_26 : decode cX7_rule 26 = .ok (.if_icmp .eq 8, 3) := by decide +kernel
theorem dX7_rule_29 : decode cX7_rule 29 = .ok (.iload_n 1, 1) := by decide +kernel
theorem dX7_rule_30 : decode cX7_rule 30 = .ok (.iconst 2, 1) := by decide +kernel
theorem dX7_rule_31 : decode cX7_rule 31 = .ok (.if_icmp .ne 9, 3) := by decide +kernel
theorem dX7_rule_34 : decode cX7_rule 34 = .ok (.ldc2_w 141, 3) := by decide +kernel
theorem dX7_rule_37 : decode cX7_rule 37 = .ok (.goto 6, 3) := by decide +kernel
theorem dX7_rule_40 : decode cX7_rule 40 = .ok (.ldc2_w 143, 3) := by decide +kernel
theorem dX7_rule_43 : decode cX7_rule 43 = .ok (.invokestatic 79, 3) := by decide +kernel
theorem dX7_rule_46 : decode cX7_rule 46 = .ok (.ifCond .eq 7, 3) := by decide +kernel
theorem dX7_rule_49 : decode cX7_rule 49 = .ok (.iconst 1, 1) := by decide +kernel
theorem dX7_rule_50 : decode cX7_rule 50 = .ok (.goto 4, 3) := by decide +kernel
theorem dX7_rule_53 : decode cX7_rule 53 = .ok (.iconst 0, 1) := by decide +kernel
theorem dX7_rule_54 : decode cX7_rule 54 = .ok (.istore_n 3, 1) := by decide +kernel
theorem dX7_rule_55 : decode cX7_rule 55 = .ok (.iload_n 3, 1) := by decide +kernel
theorem dX7_rule_56 : decode cX7_rule 56 = .ok (.ifCond .ne 5, 3) := by decide +kernel
theorem dX7_rule_59 : decode cX7_rule 59 = .ok (.iconst (-1), 1) := by decide +kernel
theorem dX7_rule_60 : decode cX7_rule 60 = .ok (.ireturn, 1) := by decide +kernel
theorem dX7_rule_61 : decode cX7_rule 61 = .ok (.aload_n 0, 1) := by decide +kernel
theorem dX7_rule_62 : decode cX7_rule 62 = .ok (.iload_n 1, 1) := by decide +kernel
theorem dX7_rule_63 : decode cX7_rule 63 = .ok (.invokevirtual 145, 3) := by decide +kernel
theorem dX7_rule_66 : decode cX7_rule 66 = .ok (.istore 4, 2) := by decide +kernel
theorem dX7_rule_68 : decode cX7_rule 68 = .ok (.iload 4, 2) := by decide +kernel
theorem dX7_rule_70 : decode cX7_rule 70 = .ok (.iload_n 2, 1) := by decide +kernel
theorem dX7_rule_71 : decode cX7_rule 71 = .ok (.if_icmp .ne 6, 3) := by decide +kernel
theorem dX7_rule_74 : decode cX7_rule 74 = .ok (.bipush (-2), 2) := by decide +kernel
theorem dX7_rule_76 : decode cX7_rule 76 = .ok (.ireturn, 1) := by decide +kernel
theorem dX7_rule_77 : decode cX7_rule 77 = .ok (.aload_n 0, 1) := by decide +kernel
theorem dX7_rule_78 : decode cX7_rule 78 = .ok (.invokevirtual 148, 3) := by decide +kernel
theorem dX7_rule_81 : decode cX7_rule 81 = .ok (.aload_n 0, 1) := by decide +kernel
theorem dX7_rule_82 : decode cX7_rule 82 = .ok (.getfield 13, 3) := by decide +kernel
theorem dX7_rule_85 : decode cX7_rule 85 = .ok (.sipush 328, 3) := by decide +kernel
theorem dX7_rule_88 : decode cX7_rule 88 = .ok (.iload_n 1, 1) := by decide +kernel
theorem dX7_rule_89 : decode cX7_rule 89 = .ok (.iadd, 1) := by decide +kernel
theorem dX7_rule_90 : decode cX7_rule 90 = .ok (.iload_n 2, 1) := by decide +kernel
theorem dX7_rule_91 : decode cX7_rule 91 = .ok (.iastore, 1) := by decide +kernel
theorem dX7_rule_92 : decode cX7_rule 92 = .ok (.iload 4, 2) := by decide +kernel
theorem dX7_rule_94 : decode cX7_rule 94 = .ok (.ireturn, 1) := by decide +kernel
theorem dX7_code_0 : decode cX7_code 0 = .ok (.aload_n 0, 1) := by decide +kernel
theorem dX7_code_1 : decode cX7_code 1 = .ok (.iload_n 1, 1) := by decide +kernel
theorem dX7_code_2 : decode cX7_code 2 = .ok (.invokevirtual 151, 3) := by decide +kernel
theorem dX7_code_5 : decode cX7_code 5 = .ok (.ifCond .eq 35, 3) := by decide +kernel
theorem dX7_code_8 : decode cX7_code 8 = .ok (.iload_n 2, 1) := by decide +kernel
theorem dX7_code_9 : decode cX7_code 9 = .ok (.i2l, 1) := by decide +kernel
theorem dX7_code_10 : decode cX7_code 10 = .ok (.lconst 0, 1) := by decide +kernel
theorem dX7_code_11 : decode cX7_code 11 = .ok (.lconst 1, 1) := by decide +kernel
theorem dX7_code_12 : decode cX7_code 12 = .ok (.invokestatic 79, 3) := by decide +kernel
theorem dX7_code_15 : decode cX7_code 15 = .ok (.ifCond .eq 25, 3) := by decide +kernel
theorem dX7_code_18 : decode cX7_code 18 = .ok (.iload_n 2, 1) := by decide +kernel
theorem dX7_code_19 : decode cX7_code 19 = .ok (.ifCond .ne 12, 3) := by decide +kernel
theorem dX7_code_22 : decode cX7_code 22 = .ok (.aload_n 0, 1) := by decide +kernel
theorem dX7_code_23 : decode cX7_code 23 = .ok (.getfield 19, 3) := by decide +kernel
theorem dX7_code_26 : decode cX7_code 26 = .ok (.iload_n 1, 1) := by decide +kernel
theorem dX7_code_27 : decode cX7_code 27 = .ok (.iaload, 1) := by decide +kernel
theorem dX7_code_28 : decode cX7_code 28 = .ok (.goto 13, 3) := by decide +kernel
theorem dX7_code_31 : decode cX7_code 31 = .ok (.aload_n 0, 1) := by decide +kernel
theorem dX7_code_32 : decode cX7_code 32 = .ok (.getfield 22, 3) := by decide +kernel
theorem dX7_code_35 : decode cX7_code 35 = .ok (.iload_n 1, 1) := by decide +kernel
theorem dX7_code_36 : decode cX7_code 36 = .ok (.iaload, 1) := by decide +kernel
theorem dX7_code_37 : decode cX7_code 37 = .ok (.goto 4, 3) := by decide +kernel
theorem dX7_code_40 : decode cX7_code 40 = .ok (.iconst (-1), 1) := by decide +kernel
theorem dX7_code_41 : decode cX7_code 41 = .ok (.ireturn, 1) := by decide +kernel
theorem dX7_pass_0 : decode cX7_pass 0 = .ok (.iload_n 1, 1) := by decide +kernel
theorem dX7_pass_1 : decode cX7_pass 1 = .ok (.i2l, 1) := by decide +kernel
theorem dX7_pass_2 : decode cX7_pass 2 = .ok (.lconst 0, 1) := by decide +kernel
theorem dX7_pass_3 : decode cX7_pass 3 = .ok (.ldc2_w 155, 3) := by decide +kernel
theorem dX7_pass_6 : decode cX7_pass 6 = .ok (.invokestatic 79, 3) := by decide +kernel
theorem dX7_pass_9 : decode cX7_pass 9 = .ok (.ifCond .ne 5, 3) := by decide +kernel
theorem dX7_pass_12 : decode cX7_pass 12 = .ok (.iconst (-1), 1) := by decide +kernel
theorem dX7_pass_13 : decode cX7_pass 13 = .ok (.ireturn, 1) := by decide +kernel
theorem dX7_pass_14 : decode cX7_pass 14 = .ok (.aload_n 0, 1) := by decide +kernel
theorem dX7_pass_15 : decode cX7_pass 15 = .ok (.getfield 130, 3) := by decide +kernel
theorem dX7_pass_18 : decode cX7_pass 18 = .ok (.iload_n 1, 1) := by decide +kernel
theorem dX7_pass_19 : decode cX7_pass 19 = .ok (.iadd, 1) := by decide +kernel
theorem dX7_pass_20 : decode cX7_pass 20 = .ok (.sipush 9999, 3) := by decide +kernel
theorem dX7_pass_23 : decode cX7_pass 23 = .ok (.if_icmp .le 6, 3) := by decide +kernel
theorem dX7_pass_26 : decode cX7_pass 26 = .ok (.bipush (-3), 2) := by decide +kernel
theorem dX7_pass_28 : decode cX7_pass 28 = .ok (.ireturn, 1) := by decide +kernel
theorem dX7_pass_29 : decode cX7_pass 29 = .ok (.aload_n 0, 1) := by decide +kernel
theorem dX7_pass_30 : decode cX7_pass 30 = .ok (.dup, 1) := by decide +kernel
theorem dX7_pass_31 : decode cX7_pass 31 = .ok (.getfield 130, 3) := by decide +kernel
theorem dX7_pass_34 : decode cX7_pass 34 = .ok (.iload_n 1, 1) := by decide +kernel
theorem dX7_pass_35 : decode cX7_pass 35 = .ok (.iadd, 1) := by decide +kernel
theorem dX7_pass_36 : decode cX7_pass 36 = .ok (.putfield 130, 3) := by decide +kernel
theorem dX7_pass_39 : decode cX7_pass 39 = .ok (.aload_n 0, 1) := by decide +kernel
theorem dX7_pass_40 : decode cX7_pass 40 = .ok (.getfield 130, 3) := by decide +kernel
theorem dX7_pass_43 : decode cX7_pass 43 = .ok (.ireturn, 1) := by decide +kernel
theorem dX7_comes_0 : decode cX7_comes 0 = .ok (.bipush 8, 2) := by decide +kernel
theorem dX7_comes_2 : decode cX7_comes 2 = .ok (.aload_n 0, 1) := by decide +kernel
theorem dX7_comes_3 : decode cX7_comes 3 = .ok (.getfield 13, 3) := by decide +kernel
theorem dX7_comes_6 : decode cX7_comes 6 = .ok (.sipush 334, 3) := by decide +kernel
theorem dX7_comes_9 : decode cX7_comes 9 = .ok (.iaload, 1) := by decide +kernel
theorem dX7_comes_10 : decode cX7_comes 10 = .ok (.imul, 1) := by decide +kernel
theorem dX7_comes_11 : decode cX7_comes 11 = .ok (.istore 6, 2) := by decide +kernel
theorem dX7_comes_13 : decode cX7_comes 13 = .ok (.aload_n 0, 1) := by decide +kernel
theorem dX7_comes_14 : decode cX7_comes 14 = .ok (.getfield 13, 3) := by decide +kernel
theorem dX7_comes_17 : decode cX7_comes 17 = .ok (.iload 6, 2) := by decide +kernel
theorem dX7_comes_19 : decode cX7_comes 19 = .ok (.iconst 0, 1) := by decide +kernel
theorem dX7_comes_20 : decode cX7_comes 20 = .ok (.iadd, 1) := by decide +kernel
theorem dX7_comes_21 : decode cX7_comes 21 = .ok (.iload_n 1, 1) := by decide +kernel
theorem dX7_comes_22 : decode cX7_comes 22 = .ok (.iastore, 1) := by decide +kernel
theorem dX7_comes_23 : decode cX7_comes 23 = .ok (.aload_n 0, 1) := by decide +kernel
theorem dX7_comes_24 : decode cX7_comes 24 = .ok (.getfield 13, 3) := by decide +kernel
theorem dX7_comes_27 : decode cX7_comes 27 = .ok (.iload 6, 2) := by decide +kernel
theorem dX7_comes_29 : decode cX7_comes 29 = .ok (.iconst 1, 1) := by decide +kernel
theorem dX7_comes_30 : decode cX7_comes 30 = .ok (.iadd, 1) := by decide +kernel
theorem dX7_comes_31 : decode cX7_comes 31 = .ok (.aload_n 0, 1) := by decide +kernel
theorem dX7_comes_32 : decode cX7_comes 32 = .ok (.getfield 130, 3) := by decide +kernel
theorem dX7_comes_35 : decode cX7_comes 35 = .ok (.iastore, 1) := by decide +kernel
theorem dX7_comes_36 : decode cX7_comes 36 = .ok (.aload_n 0, 1) := by decide +kernel
theorem dX7_comes_37 : decode cX7_comes 37 = .ok (.getfield 13, 3) := by decide +kernel
theorem dX7_comes_40 : decode cX7_comes 40 = .ok (.iload 6, 2) := by decide +kernel
theorem dX7_comes_42 : decode cX7_comes 42 = .ok (.iconst 2, 1) := by decide +kernel
theorem dX7_comes_43 : decode cX7_comes 43 = .ok (.iadd, 1) := by decide +kernel
theorem dX7_comes_44 : decode cX7_comes 44 = .ok (.iload_n 2, 1) := by decide +kernel
theorem dX7_comes_45 : decode cX7_comes 45 = .ok (.iastore, 1) := by decide +kernel
theorem dX7_comes_46 : decode cX7_comes 46 = .ok (.aload_n 0, 1) := by decide +kernel
theorem dX7_comes_47 : decode cX7_comes 47 = .ok (.getfield 13, 3) := by decide +kernel
theorem dX7_comes_50 : decode cX7_comes 50 = .ok (.iload 6, 2) := by decide +kernel
theorem dX7_comes_52 : decode cX7_comes 52 = .ok (.iconst 3, 1) := by decide +kernel
theorem dX7_comes_53 : decode cX7_comes 53 = .ok (.iadd, 1) := by decide +kernel
theorem dX7_comes_54 : decode cX7_comes 54 = .ok (.iload_n 3, 1) := by decide +kernel
theorem dX7_comes_55 : decode cX7_comes 55 = .ok (.iastore, 1) := by decide +kernel
theorem dX7_comes_56 : decode cX7_comes 56 = .ok (.aload_n 0, 1) := by decide +kernel
theorem dX7_comes_57 : decode cX7_comes 57 = .ok (.getfield 13, 3) := by decide +kernel
theorem dX7_comes_60 : decode cX7_comes 60 = .ok (.iload 6, 2) := by decide +kernel
theorem dX7_comes_62 : decode cX7_comes 62 = .ok (.iconst 4, 1) := by decide +kernel
theorem dX7_comes_63 : decode cX7_comes 63 = .ok (.iadd, 1) := by decide +kernel
theorem dX7_comes_64 : decode cX7_comes 64 = .ok (.iload 4, 2) := by decide +kernel
theorem dX7_comes_66 : decode cX7_comes 66 = .ok (.iastore, 1) := by decide +kernel
theorem dX7_comes_67 : decode cX7_comes 67 = .ok (.aload_n 0, 1) := by decide +kernel
theorem dX7_comes_68 : decode cX7_comes 68 = .ok (.getfield 13, 3) := by decide +kernel
theorem dX7_comes_71 : decode cX7_comes 71 = .ok (.iload 6, 2) := by decide +kernel
theorem dX7_comes_73 : decode cX7_comes 73 = .ok (.iconst 5, 1) := by decide +kernel
theorem dX7_comes_74 : decode cX7_comes 74 = .ok (.iadd, 1) := by decide +kernel
theorem dX7_comes_75 : decode cX7_comes 75 = .ok (.iload_n 2, 1) := by decide +kernel
theorem dX7_comes_76 : decode cX7_comes 76 = .ok (.ifCond .ne 13, 3) := by decide +kernel
theorem dX7_comes_79 : decode cX7_comes 79 = .ok (.aload_n 0, 1) := by decide +kernel
theorem dX7_comes_80 : decode cX7_comes 80 = .ok (.getfield 19, 3) := by decide +kernel
theorem dX7_comes_83 : decode cX7_comes 83 = .ok (.iload 4, 2) := by decide +kernel
theorem dX7_comes_85 : decode cX7_comes 85 = .ok (.iaload, 1) := by decide +kernel
theorem dX7_comes_86 : decode cX7_comes 86 = .ok (.goto 4, 3) := by decide +kernel
theorem dX7_comes_89 : decode cX7_comes 89 = .ok (.iconst 0, 1) := by decide +kernel
theorem dX7_comes_90 : decode cX7_comes 90 = .ok (.iastore, 1) := by decide +kernel
theorem dX7_comes_91 : decode cX7_comes 91 = .ok (.aload_n 0, 1) := by decide +kernel
theorem dX7_comes_92 : decode cX7_comes 92 = .ok (.getfield 13, 3) := by decide +kernel
theorem dX7_comes_95 : decode cX7_comes 95 = .ok (.iload 6, 2) := by decide +kernel
theorem dX7_comes_97 : decode cX7_comes 97 = .ok (.bipush 6, 2) := by decide +kernel
theorem dX7_comes_99 : decode cX7_comes 99 = .ok (.iadd, 1) := by decide +kernel
theorem dX7_comes_100 : decode cX7_comes 100 = .ok (.iload 5, 2) := by decide +kernel
theorem dX7_comes_102 : decode cX7_comes 102 = .ok (.iastore, 1) := by decide +kernel
theorem dX7_comes_103 : decode cX7_comes 103 = .ok (.aload_n 0, 1) := by decide +kernel
theorem dX7_comes_104 : decode cX7_comes 104 = .ok (.getfield 13, 3) := by decide +kernel
theorem dX7_comes_107 : decode cX7_comes 107 = .ok (.iload 6, 2) := by decide +kernel
theorem dX7_comes_109 : decode cX7_comes 109 = .ok (.bipush 7, 2) := by decide +kernel
theorem dX7_comes_111 : decode cX7_comes 111 = .ok (.iadd, 1) := by decide +kernel
theorem dX7_comes_112 : decode cX7_comes 112 = .ok (.iconst 0, 1) := by decide +kernel
theorem dX7_comes_113 : decode cX7_comes 113 = .ok (.iastore, 1) := by decide +kernel
theorem dX7_comes_114 : decode cX7_comes 114 = .ok (.aload_n 0, 1) := by decide +kernel
theorem dX7_comes_115 : decode cX7_comes 115 = .ok (.getfield 13, 3) := by decide +kernel
theorem dX7_comes_118 : decode cX7_comes 118 = .ok (.sipush 334, 3) := by decide +kernel
theorem dX7_comes_121 : decode cX7_comes 121 = .ok (.dup2, 1) := by decide +kernel
theorem dX7_comes_122 : decode cX7_comes 122 = .ok (.iaload, 1) := by decide +kernel
theorem dX7_comes_123 : decode cX7_comes 123 = .ok (.iconst 1, 1) := by decide +kernel
theorem dX7_comes_124 : decode cX7_comes 124 = .ok (.iadd, 1) := by decide +kernel
theorem dX7_comes_125 : decode cX7_comes 125 = .ok (.iastore, 1) := by decide +kernel
theorem dX7_comes_126 : decode cX7_comes 126 = .ok (.aload_n 0, 1) := by decide +kernel
theorem dX7_comes_127 : decode cX7_comes 127 = .ok (.iconst 0, 1) := by decide +kernel
theorem dX7_comes_128 : decode cX7_comes 128 = .ok (.putfield 133, 3) := by decide +kernel
theorem dX7_comes_131 : decode cX7_comes 131 = .ok (.return_, 1) := by decide +kernel
theorem dX7_convict_0 : decode cX7_convict 0 = .ok (.iload_n 1, 1) := by decide +kernel
theorem dX7_convict_1 : decode cX7_convict 1 = .ok (.invokestatic 157, 3) := by decide +kernel
theorem dX7_convict_4 : decode cX7_convict 4 = .ok (.ifCond .eq 36, 3) := by decide +kernel
theorem dX7_convict_7 : decode cX7_convict 7 = .ok (.iload_n 2, 1) := by decide +kernel
theorem dX7_convict_8 : decode cX7_convict 8 = .ok (.i2l, 1) := by decide +kernel
theorem dX7_convict_9 : decode cX7_convict 9 = .ok (.lconst 0, 1) := by decide +kernel
theorem dX7_convict_10 : decode cX7_convict 10 = .ok (.aload_n 0, 1) := by decide +kernel
theorem dX7_convict_11 : decode cX7_convict 11 = .ok (.getfield 130, 3) := by decide +kernel
theorem dX7_convict_14 : decode cX7_convict 14 = .ok (.i2l, 1) := by decide +kernel
theorem dX7_convict_15 : decode cX7_convict 15 = .ok (.invokestatic 79, 3) := by decide +kernel
theorem dX7_convict_18 : decode cX7_convict 18 = .ok (.ifCond .eq 22, 3) := by decide +kernel
theorem dX7_convict_21 : decode cX7_convict 21 = .ok (.aload_n 0, 1) := by decide +kernel
theorem dX7_convict_22 : decode cX7_convict 22 = .ok (.iload_n 3, 1) := by decide +kernel
theorem dX7_convict_23 : decode cX7_convict 23 = .ok (.invokevirtual 151, 3) := by decide +kernel
theorem dX7_convict_26 : decode cX7_convict 26 = .ok (.ifCond .eq 14, 3) := by decide +kernel
theorem dX7_convict_29 : decode cX7_convict 29 = .ok (.iload 4, 2) := by decide +kernel
theorem dX7_convict_31 : decode cX7_convict 31 = .ok (.i2l, 1) := by decide +kernel
theorem dX7_convict_32 : decode cX7_convict 32 = .ok (.lconst 0, 1) := by decide +kernel
theorem dX7_convict_33 : decode cX7_convict 33 = .ok (.lconst 1, 1) := by decide +kernel
theorem dX7_convict_34 : decode cX7_convict 34 = .ok (.invokestatic 79, 3) := by decide +kernel
theorem dX7_convict_37 : decode cX7_convict 37 = .ok (.ifCond .ne 5, 3) := by decide +kernel
theorem dX7_convict_40 : decode cX7_convict 40 = .ok (.iconst (-1), 1) := by decide +kernel
theorem dX7_convict_41 : decode cX7_convict 41 = .ok (.ireturn, 1) := by decide +kernel
theorem dX7_convict_42 : decode cX7_convict 42 = .ok (.aload_n 0, 1) := by decide +kernel
theorem dX7_convict_43 : decode cX7_convict 43 = .ok (.getfield 13, 3) := by decide +kernel
theorem dX7_convict_46 : decode cX7_convict 46 = .ok (.sipush 334, 3) := by decide +kernel
theorem dX7_convict_49 : decode cX7_convict 49 = .ok (.iaload, 1) := by decide +kernel
theorem dX7_convict_50 : decode cX7_convict 50 = .ok (.bipush 40, 2) := by decide +kernel
theorem dX7_convict_52 : decode cX7_convict 52 = .ok (.if_icmp .ne 6, 3) := by decide +kernel
theorem dX7_convict_55 : decode cX7_convict 55 = .ok (.bipush (-3), 2) := by decide +kernel
theorem dX7_convict_57 : decode cX7_convict 57 = .ok (.ireturn, 1) := by decide +kernel
theorem dX7_convict_58 : decode cX7_convict 58 = .ok (.aload_n 0, 1) := by decide +kernel
theorem dX7_convict_59 : decode cX7_convict 59 = .ok (.invokevirtual 148, 3) := by decide +kernel
theorem dX7_convict_62 : decode cX7_convict 62 = .ok (.aload_n 0, 1) := by decide +kernel
theorem dX7_convict_63 : decode cX7_convict 63 = .ok (.iload_n 1, 1) := by decide +kernel
theorem dX7_convict_64 : decode cX7_convict 64 = .ok (.iconst 0, 1) := by decide +kernel
theorem dX7_convict_65 : decode cX7_convict 65 = .ok (.iload_n 2, 1) := by decide +kernel
theorem dX7_convict_66 : decode cX7_convict 66 = .ok (.iload_n 3, 1) := by decide +kernel
theorem dX7_convict_67 : decode cX7_convict 67 = .ok (.iload 4, 2) := by decide +kernel
theorem dX7_convict_69 : decode cX7_convict 69 = .ok (.invokevirtual 160, 3) := by decide +kernel
theorem dX7_convict_72 : decode cX7_convict 72 = .ok (.aload_n 0, 1) := by decide +kernel
theorem dX7_convict_73 : decode cX7_convict 73 = .ok (.getfield 13, 3) := by decide +kernel
theorem dX7_convict_76 : decode cX7_convict 76 = .ok (.sipush 334, 3) := by decide +kernel
theorem dX7_convict_79 : decode cX7_convict 79 = .ok (.iaload, 1) := by decide +kernel
theorem dX7_convict_80 : decode cX7_convict 80 = .ok (.iconst 1, 1) := by decide +kernel
theorem dX7_convict_81 : decode cX7_convict 81 = .ok (.isub, 1) := by decide +kernel
theorem dX7_convict_82 : decode cX7_convict 82 = .ok (.ireturn, 1) := by decide +kernel
theorem dX7_wasLight_0 : decode cX7_wasLight 0 = .ok (.iconst 0, 1) := by decide +kernel
theorem dX7_wasLight_1 : decode cX7_wasLight 1 = .ok (.istore_n 2, 1) := by decide +kernel
theorem dX7_wasLight_2 : decode cX7_wasLight 2 = .ok (.iconst 0, 1) := by decide +kernel
theorem dX7_wasLight_3 : decode cX7_wasLight 3 = .ok (.istore_n 3, 1) := by decide +kernel
theorem dX7_wasLight_4 : decode cX7_wasLight 4 = .ok (.iload_n 3, 1) := by decide +kernel
theorem dX7_wasLight_5 : decode cX7_wasLight 5 = .ok (.aload_n 0, 1) := by decide +kernel
theorem dX7_wasLight_6 : decode cX7_wasLight 6 = .ok (.getfield 13, 3) := by decide +kernel
theorem dX7_wasLight_9 : decode cX7_wasLight 9 = .ok (.sipush 334, 3) := by decide +kernel
theorem dX7_wasLight_12 : decode cX7_wasLight 12 = .ok (.iaload, 1) := by decide +kernel
theorem dX7_wasLight_13 : decode cX7_wasLight 13 = .ok (.if_icmp .ge 58, 3) := by decide +kernel
theorem dX7_wasLight_16 : decode cX7_wasLight 16 = .ok (.iload_n 2, 1) := by decide +kernel
theorem dX7_wasLight_17 : decode cX7_wasLight 17 = .ok (.ifCond .ne 42, 3) := by decide +kernel
theorem dX7_wasLight_20 : decode cX7_wasLight 20 = .ok (.aload_n 0, 1) := by decide +kernel
theorem dX7_wasLight_21 : decode cX7_wasLight 21 = .ok (.iload_n 3, 1) := by decide +kernel
theorem dX7_wasLight_22 : decode cX7_wasLight 22 = .ok (.iconst 0, 1) := by decide +kernel
theorem dX7_wasLight_23 : decode cX7_wasLight 23 = .ok (.invokevirtual 164, 3) := by decide +kernel
theorem dX7_wasLight_26 : decode cX7_wasLight 26 = .ok (.iload_n 1, 1) := by decide +kernel
theorem dX7_wasLight_27 : decode cX7_wasLight 27 = .ok (.if_icmp .ne 36, 3) := by decide +kernel
theorem dX7_wasLight_30 : decode cX7_wasLight 30 = .ok (.aload_n 0, 1) := by decide +kernel
theorem dX7_wasLight_31 : decode cX7_wasLight 31 = .ok (.iload_n 3, 1) := by decide +kernel
theorem dX7_wasLight_32 : decode cX7_wasLight 32 = .ok (.iconst 2, 1) := by decide +kernel
theorem dX7_wasLight_33 : decode cX7_wasLight 33 = .ok (.invokevirtual 164, 3) := by decide +kernel
theorem dX7_wasLight_36 : decode cX7_wasLight 36 = .ok (.iconst 1, 1) := by decide +kernel
theorem dX7_wasLight_37 : decode cX7_wasLight 37 = .ok (.if_icmp .ne 26, 3) := by decide +kernel
theorem dX7_wasLight_40 : decode cX7_wasLight 40 = .ok (.aload_n 0, 1) := by decide +kernel
theorem dX7_wasLight_41 : decode cX7_wasLight 41 = .ok (.getfield 130, 3) := by decide +kernel
theorem dX7_wasLight_44 : decode cX7_wasLight 44 = .ok (.aload_n 0, 1) := by decide +kernel
theorem dX7_wasLight_45 : decode cX7_wasLight 45 = .ok (.iload_n 3, 1) := by decide +kernel
theorem dX7_wasLight_46 : decode cX7_wasLight 46 = .ok (.iconst 1, 1) := by decide +kernel
theorem dX7_wasLight_47 : decode cX7_wasLight 47 = .ok (.invokevirtual 164, 3) := by decide +kernel
theorem dX7_wasLight_50 : decode cX7_wasLight 50 = .ok (.isub, 1) := by decide +kernel
theorem dX7_wasLight_51 : decode cX7_wasLight 51 = .ok (.aload_n 0, 1) := by decide +kernel
theorem dX7_wasLight_52 : decode cX7_wasLight 52 = .ok (.iconst 0, 1) := by decide +kernel
theorem dX7_wasLight_53 : decode cX7_wasLight 53 = .ok (.invokevirtual 145, 3) := by decide +kernel
theorem dX7_wasLight_56 : decode cX7_wasLight 56 = .ok (.if_icmp .ge 7, 3) := by decide +kernel
theorem dX7_wasLight_59 : decode cX7_wasLight 59 = .ok (.iconst 1, 1) := by decide +kernel
theorem dX7_wasLight_60 : decode cX7_wasLight 60 = .ok (.goto 4, 3) := by decide +kernel
theorem dX7_wasLight_63 : decode cX7_wasLight 63 = .ok (.iconst 0, 1) := by decide +kernel
theorem dX7_wasLight_64 : decode cX7_wasLight 64 = .ok (.istore_n 2, 1) := by decide +kernel
theorem dX7_wasLight_65 : decode cX7_wasLight 65 = .ok (.iinc 3 1, 3) := by decide +kernel
theorem dX7_wasLight_68 : decode cX7_wasLight 68 = .ok (.goto (-64), 3) := by decide +kernel
theorem dX7_wasLight_71 : decode cX7_wasLight 71 = .ok (.iload_n 2, 1) := by decide +kernel
theorem dX7_wasLight_72 : decode cX7_wasLight 72 = .ok (.ireturn, 1) := by decide +kernel
theorem dX7_course_0 : decode cX7_course 0 = .ok (.iload_n 1, 1) := by decide +kernel
theorem dX7_course_1 : decode cX7_course 1 = .ok (.invokestatic 157, 3) := by decide +kernel
theorem dX7_course_4 : decode cX7_course 4 = .ok (.ifCond .eq 13, 3) := by decide +kernel
theorem dX7_course_7 : decode cX7_course 7 = .ok (.iload_n 2, 1) := by decide +kernel
theorem dX7_course_8 : decode cX7_course 8 = .ok (.i2l, 1) := by decide +kernel
theorem dX7_course_9 : decode cX7_course 9 = .ok (.lconst 0, 1) := by decide +kernel
theorem dX7_course_10 : decode cX7_course 10 = .ok (.lconst 1, 1) := by decide +kernel
theorem dX7_course_11 : decode cX7_course 11 = .ok (.invokestatic 79, 3) := by decide +kernel
theorem dX7_course_14 : decode cX7_course 14 = .ok (.ifCond .ne 5, 3) := by decide +kernel
theorem dX7_course_17 : decode cX7_course 17 = .ok (.iconst (-1), 1) := by decide +kernel
theorem dX7_course_18 : decode cX7_course 18 = .ok (.ireturn, 1) := by decide +kernel
theorem dX7_course_19 : decode cX7_course 19 = .ok (.aload_n 0, 1) := by decide +kernel
theorem dX7_course_20 : decode cX7_course 20 = .ok (.getfield 13, 3) := by decide +kernel
theorem dX7_course_23 : decode cX7_course 23 = .ok (.sipush 334, 3) := by decide +kernel
theorem dX7_course_26 : decode cX7_course 26 = .ok (.iaload, 1) := by decide +kernel
theorem dX7_course_27 : decode cX7_course 27 = .ok (.bipush 40, 2) := by decide +kernel
theorem dX7_course_29 : decode cX7_course 29 = .ok (.if_icmp .ne 6, 3) := by decide +kernel
theorem dX7_course_32 : decode cX7_course 32 = .ok (.bipush (-3), 2) := by decide +kernel
theorem dX7_course_34 : decode cX7_course 34 = .ok (.ireturn, 1) := by decide +kernel
theorem dX7_course_35 : decode cX7_course 35 = .ok (.aload_n 0, 1) := by decide +kernel
theorem dX7_course_36 : decode cX7_course 36 = .ok (.invokevirtual 167, 3) := by decide +kernel
theorem dX7_course_39 : decode cX7_course 39 = .ok (.iload_n 2, 1) := by decide +kernel
theorem dX7_course_40 : decode cX7_course 40 = .ok (.ifCond .ne 14, 3) := by decide +kernel
theorem dX7_course_43 : decode cX7_course 43 = .ok (.aload_n 0, 1) := by decide +kernel
theorem dX7_course_44 : decode cX7_course 44 = .ok (.iload_n 1, 1) := by decide +kernel
theorem dX7_course_45 : decode cX7_course 45 = .ok (.invokevirtual 170, 3) := by decide +kernel
theorem dX7_course_48 : decode cX7_course 48 = .ok (.ifCond .eq 23, 3) := by decide +kernel
theorem dX7_course_51 : decode cX7_course 51 = .ok (.goto 17, 3) := by decide +kernel
theorem dX7_course_54 : decode cX7_course 54 = .ok (.aload_n 0, 1) := by decide +kernel
theorem dX7_course_55 : decode cX7_course 55 = .ok (.iload_n 1, 1) := by decide +kernel
theorem dX7_course_56 : decode cX7_course 56 = .ok (.aload_n 0, 1) := by decide +kernel
theorem dX7_course_57 : decode cX7_course 57 = .ok (.getfield 130, 3) := by decide +kernel
theorem dX7_course_60 : decode cX7_course 60 = .ok (.invokevirtual 173, 3) := by decide +kernel
theorem dX7_course_63 : decode cX7_course 63 = .ok (.bipush (-4), 2) := by decide +kernel
theorem dX7_course_65 : decode cX7_course 65 = .ok (.if_icmp .ne 6, 3) := by decide +kernel
theorem dX7_course_68 : decode cX7_course 68 = .ok (.bipush (-2), 2) := by decide +kernel
theorem dX7_course_70 : decode cX7_course 70 = .ok (.ireturn, 1) := by decide +kernel
theorem dX7_course_71 : decode cX7_course 71 = .ok (.aload_n 0, 1) := by decide +kernel
theorem dX7_course_72 : decode cX7_course 72 = .ok (.invokevirtual 148, 3) := by decide +kernel
theorem dX7_course_75 : decode cX7_course 75 = .ok (.aload_n 0, 1) := by decide +kernel
theorem dX7_course_76 : decode cX7_course 76 = .ok (.iload_n 1, 1) := by decide +kernel
theorem dX7_course_77 : decode cX7_course 77 = .ok (.iload_n 2, 1) := by decide +kernel
theorem dX7_course_78 : decode cX7_course 78 = .ok (.iconst 1, 1) := by decide +kernel
theorem dX7_course_79 : decode cX7_course 79 = .ok (.iadd, 1) := by decide +kernel
theorem dX7_course_80 : decode cX7_course 80 = .ok (.iconst 0, 1) := by decide +kernel
theorem dX7_course_81 : decode cX7_course 81 = .ok (.iconst 0, 1) := by decide +kernel
theorem dX7_course_82 : decode cX7_course 82 = .ok (.iconst 0, 1) := by decide +kernel
theorem dX7_course_83 : decode cX7_course 83 = .ok (.invokevirtual 160, 3) := by decide +kernel
theorem dX7_course_86 : decode cX7_course 86 = .ok (.aload_n 0, 1) := by decide +kernel
theorem dX7_course_87 : decode cX7_course 87 = .ok (.getfield 13, 3) := by decide +kernel
theorem dX7_course_90 : decode cX7_course 90 = .ok (.sipush 334, 3) := by decide +kernel
theorem dX7_course_93 : decode cX7_course 93 = .ok (.iaload, 1) := by decide +kernel
theorem dX7_course_94 : decode cX7_course 94 = .ok (.iconst 1, 1) := by decide +kernel
theorem dX7_course_95 : decode cX7_course 95 = .ok (.isub, 1) := by decide +kernel
theorem dX7_course_96 : decode cX7_course 96 = .ok (.ireturn, 1) := by decide +kernel
theorem dX7_isConviction_0 : decode cX7_isConviction 0 = .ok (.aload_n 0, 1) := by decide +kernel
theorem dX7_isConviction_1 : decode cX7_isConviction 1 = .ok (.iload_n 1, 1) := by decide +kernel
theorem dX7_isConviction_2 : decode cX7_isConviction 2 = .ok (.invokevirtual 176, 3) := by decide +kernel
theorem dX7_isConviction_5 : decode cX7_isConviction 5 = .ok (.ifCond .eq 16, 3) := by decide +kernel
theorem dX7_isConviction_8 : decode cX7_isConviction 8 = .ok (.aload_n 0, 1) := by decide +kernel
theorem dX7_isConviction_9 : decode cX7_isConviction 9 = .ok (.iload_n 1, 1) := by decide +kernel
theorem dX7_isConviction_10 : decode cX7_isConviction 10 = .ok (.iconst 2, 1) := by decide +kernel
theorem dX7_isConviction_11 : decode cX7_isConviction 11 = .ok (.invokevirtual 164, 3) := by decide +kernel
theorem dX7_isConviction_14 : decode cX7_isConviction 14 = .ok (.ifCond .ne 7, 3) := by decide +kernel
theorem dX7_isConviction_17 : decode cX7_isConviction 17 = .ok (.iconst 1, 1) := by decide +kernel
theorem dX7_isConviction_18 : decode cX7_isConviction 18 = .ok (.goto 4, 3) := by decide +kernel
theorem dX7_isConviction_21 : decode cX7_isConviction 21 = .ok (.iconst 0, 1) := by decide +kernel
theorem dX7_isConviction_22 : decode cX7_isConviction 22 = .ok (.ireturn, 1) := by decide +kernel
theorem dX7_retell_0 : decode cX7_retell 0 = .ok (.aload_n 0, 1) := by decide +kernel
theorem dX7_retell_1 : decode cX7_retell 1 = .ok (.iload_n 1, 1) := by decide +kernel
theorem dX7_retell_2 : decode cX7_retell 2 = .ok (.iconst 0, 1) := by decide +kernel
theorem dX7_retell_3 : decode cX7_retell 3 = .ok (.invokevirtual 164, 3) := by decide +kernel
theorem dX7_retell_6 : decode cX7_retell 6 = .ok (.istore 4, 2) := by decide +kernel
theorem dX7_retell_8 : decode cX7_retell 8 = .ok (.aload_n 0, 1) := by decide +kernel
theorem dX7_retell_9 : decode cX7_retell 9 = .ok (.iload 4, 2) := by decide +kernel
theorem dX7_retell_11 : decode cX7_retell 11 = .ok (.invokevirtual 179, 3) := by decide +kernel
theorem dX7_retell_14 : decode cX7_retell 14 = .ok (.istore 5, 2) := by decide +kernel
theorem dX7_retell_16 : decode cX7_retell 16 = .ok (.aload_n 0, 1) := by decide +kernel
theorem dX7_retell_17 : decode cX7_retell 17 = .ok (.invokevirtual 148, 3) := by decide +kernel
theorem dX7_retell_20 : decode cX7_retell 20 = .ok (.aload_n 0, 1) := by decide +kernel
theorem dX7_retell_21 : decode cX7_retell 21 = .ok (.getfield 13, 3) := by decide +kernel
theorem dX7_retell_24 : decode cX7_retell 24 = .ok (.bipush 8, 2) := by decide +kernel
theorem dX7_retell_26 : decode cX7_retell 26 = .ok (.iload_n 1, 1) := by decide +kernel
theorem dX7_retell_27 : decode cX7_retell 27 = .ok (.imul, 1) := by decide +kernel
theorem dX7_retell_28 : decode cX7_retell 28 = .ok (.iload_n 2, 1) := by decide +kernel
theorem dX7_retell_29 : decode cX7_retell 29 = .ok (.iadd, 1) := by decide +kernel
theorem dX7_retell_30 : decode cX7_retell 30 = .ok (.iload_n 3, 1) := by decide +kernel
theorem dX7_retell_31 : decode cX7_retell 31 = .ok (.iastore, 1) := by decide +kernel
theorem dX7_retell_32 : decode cX7_retell 32 = .ok (.aload_n 0, 1) := by decide +kernel
theorem dX7_retell_33 : decode cX7_retell 33 = .ok (.iload 4, 2) := by decide +kernel
theorem dX7_retell_35 : decode cX7_retell 35 = .ok (.invokevirtual 179, 3) := by decide +kernel
theorem dX7_retell_38 : decode cX7_retell 38 = .ok (.iload 5, 2) := by decide +kernel
theorem dX7_retell_40 : decode cX7_retell 40 = .ok (.isub, 1) := by decide +kernel
theorem dX7_retell_41 : decode cX7_retell 41 = .ok (.ldc 182, 2) := by decide +kernel
theorem dX7_retell_43 : decode cX7_retell 43 = .ok (.iadd, 1) := by decide +kernel
theorem dX7_retell_44 : decode cX7_retell 44 = .ok (.ireturn, 1) := by decide +kernel
theorem dX7_strike_0 : decode cX7_strike 0 = .ok (.aload_n 0, 1) := by decide +kernel
theorem dX7_strike_1 : decode cX7_strike 1 = .ok (.iload_n 1, 1) := by decide +kernel
theorem dX7_strike_2 : decode cX7_strike 2 = .ok (.invokevirtual 183, 3) := by decide +kernel
theorem dX7_strike_5 : decode cX7_strike 5 = .ok (.ifCond .ne 5, 3) := by decide +kernel
theorem dX7_strike_8 : decode cX7_strike 8 = .ok (.iconst (-1), 1) := by decide +kernel
theorem dX7_strike_9 : decode cX7_strike 9 = .ok (.ireturn, 1) := by decide +kernel
theorem dX7_strike_10 : decode cX7_strike 10 = .ok (.aload_n 0, 1) := by decide +kernel
theorem dX7_strike_11 : decode cX7_strike 11 = .ok (.iload_n 1, 1) := by decide +kernel
theorem dX7_strike_12 : decode cX7_strike 12 = .ok (.bipush 7, 2) := by decide +kernel
theorem dX7_strike_14 : decode cX7_strike 14 = .ok (.invokevirtual 164, 3) := by decide +kernel
theorem dX7_strike_17 : decode cX7_strike 17 = .ok (.iconst 1, 1) := by decide +kernel
theorem dX7_strike_18 : decode cX7_strike 18 = .ok (.if_icmp .ne 8, 3) := by decide +kernel
theorem dX7_strike_21 : decode cX7_strike 21 = .ok (.bipush (-2), 2) := by decide +kernel
theorem dX7_strike_23 : decode cX7_strike 23 = .ok (.goto 11, 3) := by decide +kernel
theorem dX7_strike_26 : decode cX7_strike 26 = .ok (.aload_n 0, 1) := by decide +kernel
theorem dX7_strike_27 : decode cX7_strike 27 = .ok (.iload_n 1, 1) := by decide +kernel
theorem dX7_strike_28 : decode cX7_strike 28 = .ok (.bipush 7, 2) := by decide +kernel
theorem dX7_strike_30 : decode cX7_strike 30 = .ok (.iconst 1, 1) := by decide +kernel
theorem dX7_strike_31 : decode cX7_strike 31 = .ok (.invokevirtual 186, 3) := by decide +kernel
theorem dX7_strike_34 : decode cX7_strike 34 = .ok (.ireturn, 1) := by decide +kernel
theorem dX7_lower_0 : decode cX7_lower 0 = .ok (.aload_n 0, 1) := by decide +kernel
theorem dX7_lower_1 : decode cX7_lower 1 = .ok (.iload_n 1, 1) := by decide +kernel
theorem dX7_lower_2 : decode cX7_lower 2 = .ok (.invokevirtual 183, 3) := by decide +kernel
theorem dX7_lower_5 : decode cX7_lower 5 = .ok (.ifCond .eq 15, 3) := by decide +kernel
theorem dX7_lower_8 : decode cX7_lower 8 = .ok (.iload_n 2, 1) := by decide +kernel
theorem dX7_lower_9 : decode cX7_lower 9 = .ok (.i2l, 1) := by decide +kernel
theorem dX7_lower_10 : decode cX7_lower 10 = .ok (.lconst 0, 1) := by decide +kernel
theorem dX7_lower_11 : decode cX7_lower 11 = .ok (.ldc2_w 189, 3) := by decide +kernel
theorem dX7_lower_14 : decode cX7_lower 14 = .ok (.invokestatic 79, 3) := by decide +kernel
theorem dX7_lower_17 : decode cX7_lower 17 = .ok (.ifCond .ne 5, 3) := by decide +kernel
theorem dX7_lower_20 : decode cX7_lower 20 = .ok (.iconst (-1), 1) := by decide +kernel
theorem dX7_lower_21 : decode cX7_lower 21 = .ok (.ireturn, 1) := by decide +kernel
theorem dX7_lower_22 : decode cX7_lower 22 = .ok (.aload_n 0, 1) := by decide +kernel
theorem dX7_lower_23 : decode cX7_lower 23 = .ok (.iload_n 1, 1) := by decide +kernel
theorem dX7_lower_24 : decode cX7_lower 24 = .ok (.bipush 7, 2) := by decide +kernel
theorem dX7_lower_26 : decode cX7_lower 26 = .ok (.invokevirtual 164, 3) := by decide +kernel
theorem dX7_lower_29 : decode cX7_lower 29 = .ok (.iconst 1, 1) := by decide +kernel
theorem dX7_lower_30 : decode cX7_lower 30 = .ok (.if_icmp .eq 13, 3) := by decide +kernel
theorem dX7_lower_33 : decode cX7_lower 33 = .ok (.aload_n 0, 1) := by decide +kernel
theorem dX7_lower_34 : decode cX7_lower 34 = .ok (.iload_n 1, 1) := by decide +kernel
theorem dX7_lower_35 : decode cX7_lower 35 = .ok (.iconst 5, 1) := by decide +kernel
theorem dX7_lower_36 : decode cX7_lower 36 = .ok (.invokevirtual 164, 3) := by decide +kernel
theorem dX7_lower_39 : decode cX7_lower 39 = .ok (.iload_n 2, 1) := by decide +kernel
theorem dX7_lower_40 : decode cX7_lower 40 = .ok (.if_icmp .gt 8, 3) := by decide +kernel
theorem dX7_lower_43 : decode cX7_lower 43 = .ok (.bipush (-2), 2) := by decide +kernel
theorem dX7_lower_45 : decode cX7_lower 45 = .ok (.goto 10, 3) := by decide +kernel
theorem dX7_lower_48 : decode cX7_lower 48 = .ok (.aload_n 0, 1) := by decide +kernel
theorem dX7_lower_49 : decode cX7_lower 49 = .ok (.iload_n 1, 1) := by decide +kernel
theorem dX7_lower_50 : decode cX7_lower 50 = .ok (.iconst 5, 1) := by decide +kernel
theorem dX7_lower_51 : decode cX7_lower 51 = .ok (.iload_n 2, 1) := by decide +kernel
theorem dX7_lower_52 : decode cX7_lower 52 = .ok (.invokevirtual 186, 3) := by decide +kernel
theorem dX7_lower_55 : decode cX7_lower 55 = .ok (.ireturn, 1) := by decide +kernel
theorem dX7_redate_0 : decode cX7_redate 0 = .ok (.aload_n 0, 1) := by decide +kernel
theorem dX7_redate_1 : decode cX7_redate 1 = .ok (.iload_n 1, 1) := by decide +kernel
theorem dX7_redate_2 : decode cX7_redate 2 = .ok (.invokevirtual 183, 3) := by decide +kernel
theorem dX7_redate_5 : decode cX7_redate 5 = .ok (.ifCond .eq 19, 3) := by decide +kernel
theorem dX7_redate_8 : decode cX7_redate 8 = .ok (.iload_n 2, 1) := by decide +kernel
theorem dX7_redate_9 : decode cX7_redate 9 = .ok (.i2l, 1) := by decide +kernel
theorem dX7_redate_10 : decode cX7_redate 10 = .ok (.lconst 0, 1) := by decide +kernel
theorem dX7_redate_11 : decode cX7_redate 11 = .ok (.aload_n 0, 1) := by decide +kernel
theorem dX7_redate_12 : decode cX7_redate 12 = .ok (.iload_n 1, 1) := by decide +kernel
theorem dX7_redate_13 : decode cX7_redate 13 = .ok (.iconst 1, 1) := by decide +kernel
theorem dX7_redate_14 : decode cX7_redate 14 = .ok (.invokevirtual 164, 3) := by decide +kernel
theorem dX7_redate_17 : decode cX7_redate 17 = .ok (.i2l, 1) := by decide +kernel
theorem dX7_redate_18 : decode cX7_redate 18 = .ok (.invokestatic 79, 3) := by decide +kernel
theorem dX7_redate_21 : decode cX7_redate 21 = .ok (.ifCond .ne 5, 3) := by decide +kernel
theorem dX7_redate_24 : decode cX7_redate 24 = .ok (.iconst (-1), 1) := by decide +kernel
theorem dX7_redate_25 : decode cX7_redate 25 = .ok (.ireturn, 1) := by decide +kernel
theorem dX7_redate_26 : decode cX7_redate 26 = .ok (.aload_n 0, 1) := by decide +kernel
theorem dX7_redate_27 : decode cX7_redate 27 = .ok (.iload_n 1, 1) := by decide +kernel
theorem dX7_redate_28 : decode cX7_redate 28 = .ok (.bipush 7, 2) := by decide +kernel
theorem dX7_redate_30 : decode cX7_redate 30 = .ok (.invokevirtual 164, 3) := by decide +kernel
theorem dX7_redate_33 : decode cX7_redate 33 = .ok (.iconst 1, 1) := by decide +kernel
theorem dX7_redate_34 : decode cX7_redate 34 = .ok (.if_icmp .eq 13, 3) := by decide +kernel
theorem dX7_redate_37 : decode cX7_redate 37 = .ok (.aload_n 0, 1) := by decide +kernel
theorem dX7_redate_38 : decode cX7_redate 38 = .ok (.iload_n 1, 1) := by decide +kernel
theorem dX7_redate_39 : decode cX7_redate 39 = .ok (.iconst 3, 1) := by decide +kernel
theorem dX7_redate_40 : decode cX7_redate 40 = .ok (.invokevirtual 164, 3) := by decide +kernel
theorem dX7_redate_43 : decode cX7_redate 43 = .ok (.iload_n 2, 1) := by decide +kernel
theorem dX7_redate_44 : decode cX7_redate 44 = .ok (.if_icmp .ne 8, 3) := by decide +kernel
theorem dX7_redate_47 : decode cX7_redate 47 = .ok (.bipush (-2), 2) := by decide +kernel
theorem dX7_redate_49 : decode cX7_redate 49 = .ok (.goto 10, 3) := by decide +kernel
theorem dX7_redate_52 : decode cX7_redate 52 = .ok (.aload_n 0, 1) := by decide +kernel
theorem dX7_redate_53 : decode cX7_redate 53 = .ok (.iload_n 1, 1) := by decide +kernel
theorem dX7_redate_54 : decode cX7_redate 54 = .ok (.iconst 3, 1) := by decide +kernel
theorem dX7_redate_55 : decode cX7_redate 55 = .ok (.iload_n 2, 1) := by decide +kernel
theorem dX7_redate_56 : decode cX7_redate 56 = .ok (.invokevirtual 186, 3) := by decide +kernel
theorem dX7_redate_59 : decode cX7_redate 59 = .ok (.ireturn, 1) := by decide +kernel
theorem dX7_excuse_0 : decode cX7_excuse 0 = .ok (.aload_n 0, 1) := by decide +kernel
theorem dX7_excuse_1 : decode cX7_excuse 1 = .ok (.iload_n 1, 1) := by decide +kernel
theorem dX7_excuse_2 : decode cX7_excuse 2 = .ok (.invokevirtual 183, 3) := by decide +kernel
theorem dX7_excuse_5 : decode cX7_excuse 5 = .ok (.ifCond .ne 5, 3) := by decide +kernel
theorem dX7_excuse_8 : decode cX7_excuse 8 = .ok (.iconst (-1), 1) := by decide +kernel
theorem dX7_excuse_9 : decode cX7_excuse 9 = .ok (.ireturn, 1) := by decide +kernel
theorem dX7_excuse_10 : decode cX7_excuse 10 = .ok (.aload_n 0, 1) := by decide +kernel
theorem dX7_excuse_11 : decode cX7_excuse 11 = .ok (.iload_n 1, 1) := by decide +kernel
theorem dX7_excuse_12 : decode cX7_excuse 12 = .ok (.bipush 7, 2) := by decide +kernel
theorem dX7_excuse_14 : decode cX7_excuse 14 = .ok (.invokevirtual 164, 3) := by decide +kernel
theorem dX7_excuse_17 : decode cX7_excuse 17 = .ok (.iconst 1, 1) := by decide +kernel
theorem dX7_excuse_18 : decode cX7_excuse 18 = .ok (.if_icmp .ne 8, 3) := by decide +kernel
theorem dX7_excuse_21 : decode cX7_excuse 21 = .ok (.bipush (-2), 2) := by decide +kernel
theorem dX7_excuse_23 : decode cX7_excuse 23 = .ok (.goto 19, 3) := by decide +kernel
theorem dX7_excuse_26 : decode cX7_excuse 26 = .ok (.aload_n 0, 1) := by decide +kernel
theorem dX7_excuse_27 : decode cX7_excuse 27 = .ok (.iload_n 1, 1) := by decide +kernel
theorem dX7_excuse_28 : decode cX7_excuse 28 = .ok (.bipush 6, 2) := by decide +kernel
theorem dX7_excuse_30 : decode cX7_excuse 30 = .ok (.iconst 1, 1) := by decide +kernel
theorem dX7_excuse_31 : decode cX7_excuse 31 = .ok (.aload_n 0, 1) := by decide +kernel
theorem dX7_excuse_32 : decode cX7_excuse 32 = .ok (.iload_n 1, 1) := by decide +kernel
theorem dX7_excuse_33 : decode cX7_excuse 33 = .ok (.bipush 6, 2) := by decide +kernel
theorem dX7_excuse_35 : decode cX7_excuse 35 = .ok (.invokevirtual 164, 3) := by decide +kernel
theorem dX7_excuse_38 : decode cX7_excuse 38 = .ok (.isub, 1) := by decide +kernel
theorem dX7_excuse_39 : decode cX7_excuse 39 = .ok (.invokevirtual 186, 3) := by decide +kernel
theorem dX7_excuse_42 : decode cX7_excuse 42 = .ok (.ireturn, 1) := by decide +kernel
theorem dX7_undo_0 : decode cX7_undo 0 = .ok (.aload_n 0, 1) := by decide +kernel
theorem dX7_undo_1 : decode cX7_undo 1 = .ok (.getfield 127, 3) := by decide +kernel
theorem dX7_undo_4 : decode cX7_undo 4 = .ok (.ifCond .ne 6, 3) := by decide +kernel
theorem dX7_undo_7 : decode cX7_undo 7 = .ok (.bipush (-2), 2) := by decide +kernel
theorem dX7_undo_9 : decode cX7_undo 9 = .ok (.ireturn, 1) := by decide +kernel
theorem dX7_undo_10 : decode cX7_undo 10 = .ok (.aload_n 0, 1) := by decide +kernel
theorem dX7_undo_11 : decode cX7_undo 11 = .ok (.dup, 1) := by decide +kernel
theorem dX7_undo_12 : decode cX7_undo 12 = .ok (.getfield 127, 3) := by decide +kernel
theorem dX7_undo_15 : decode cX7_undo 15 = .ok (.iconst 1, 1) := by decide +kernel
theorem dX7_undo_16 : decode cX7_undo 16 = .ok (.isub, 1) := by decide +kernel
theorem dX7_undo_17 : decode cX7_undo 17 = .ok (.putfield 127, 3) := by decide +kernel
theorem dX7_undo_20 : decode cX7_undo 20 = .ok (.iconst 0, 1) := by decide +kernel
theorem dX7_undo_21 : decode cX7_undo 21 = .ok (.istore_n 1, 1) := by decide +kernel
theorem dX7_undo_22 : decode cX7_undo 22 = .ok (.iload_n 1, 1) := by decide +kernel
theorem dX7_undo_23 : decode cX7_undo 23 = .ok (.sipush 335, 3) := by decide +kernel
theorem dX7_undo_26 : decode cX7_undo 26 = .ok (.if_icmp .ge 30, 3) := by decide +kernel
theorem dX7_undo_29 : decode cX7_undo 29 = .ok (.aload_n 0, 1) := by decide +kernel
theorem dX7_undo_30 : decode cX7_undo 30 = .ok (.getfield 13, 3) := by decide +kernel
theorem dX7_undo_33 : decode cX7_undo 33 = .ok (.iload_n 1, 1) := by decide +kernel
theorem dX7_undo_34 : decode cX7_undo 34 = .ok (.aload_n 0, 1) := by decide +kernel
theorem dX7_undo_35 : decode cX7_undo 35 = .ok (.getfield 16, 3) := by decide +kernel
theorem dX7_undo_38 : decode cX7_undo 38 = .ok (.sipush 335, 3) := by decide +kernel
theorem dX7_undo_41 : decode cX7_undo 41 = .ok (.aload_n 0, 1) := by decide +kernel
theorem dX7_undo_42 : decode cX7_undo 42 = .ok (.getfield 127, 3) := by decide +kernel
theorem dX7_undo_45 : decode cX7_undo 45 = .ok (.imul, 1) := by decide +kernel
theorem dX7_undo_46 : decode cX7_undo 46 = .ok (.iload_n 1, 1) := by decide +kernel
theorem dX7_undo_47 : decode cX7_undo 47 = .ok (.iadd, 1) := by decide +kernel
theorem dX7_undo_48 : decode cX7_undo 48 = .ok (.iaload, 1) := by decide +kernel
theorem dX7_undo_49 : decode cX7_undo 49 = .ok (.iastore, 1) := by decide +kernel
theorem dX7_undo_50 : decode cX7_undo 50 = .ok (.iinc 1 1, 3) := by decide +kernel
theorem dX7_undo_53 : decode cX7_undo 53 = .ok (.goto (-31), 3) := by decide +kernel
theorem dX7_undo_56 : decode cX7_undo 56 = .ok (.aload_n 0, 1) := by decide +kernel
theorem dX7_undo_57 : decode cX7_undo 57 = .ok (.iconst 0, 1) := by decide +kernel
theorem dX7_undo_58 : decode cX7_undo 58 = .ok (.putfield 133, 3) := by decide +kernel
theorem dX7_undo_61 : decode cX7_undo 61 = .ok (.aload_n 0, 1) := by decide +kernel
theorem dX7_undo_62 : decode cX7_undo 62 = .ok (.getfield 127, 3) := by decide +kernel
theorem dX7_undo_65 : decode cX7_undo 65 = .ok (.ireturn, 1) := by decide +kernel
theorem dX7_year_0 : decode cX7_year 0 = .ok (.iload_n 1, 1) := by decide +kernel
theorem dX7_year_1 : decode cX7_year 1 = .ok (.i2l, 1) := by decide +kernel
theorem dX7_year_2 : decode cX7_year 2 = .ok (.lconst 0, 1) := by decide +kernel
theorem dX7_year_3 : decode cX7_year 3 = .ok (.ldc2_w 155, 3) := by decide +kernel
theorem dX7_year_6 : decode cX7_year 6 = .ok (.invokestatic 79, 3) := by decide +kernel
theorem dX7_year_9 : decode cX7_year 9 = .ok (.ifCond .eq 15, 3) := by decide +kernel
theorem dX7_year_12 : decode cX7_year 12 = .ok (.iload_n 2, 1) := by decide +kernel
theorem dX7_year_13 : decode cX7_year 13 = .ok (.i2l, 1) := by decide +kernel
theorem dX7_year_14 : decode cX7_year 14 = .ok (.lconst 1, 1) := by decide +kernel
theorem dX7_year_15 : decode cX7_year 15 = .ok (.ldc2_w 191, 3) := by decide +kernel
theorem dX7_year_18 : decode cX7_year 18 = .ok (.invokestatic 79, 3) := by decide +kernel
theorem dX7_year_21 : decode cX7_year 21 = .ok (.ifCond .ne 5, 3) := by decide +kernel
theorem dX7_year_24 : decode cX7_year 24 = .ok (.iconst (-1), 1) := by decide +kernel
theorem dX7_year_25 : decode cX7_year 25 = .ok (.ireturn, 1) := by decide +kernel
theorem dX7_year_26 : decode cX7_year 26 = .ok (.iconst 0, 1) := by decide +kernel
theorem dX7_year_27 : decode cX7_year 27 = .ok (.istore_n 3, 1) := by decide +kernel
theorem dX7_year_28 : decode cX7_year 28 = .ok (.iconst 0, 1) := by decide +kernel
theorem dX7_year_29 : decode cX7_year 29 = .ok (.istore 4, 2) := by decide +kernel
theorem dX7_year_31 : decode cX7_year 31 = .ok (.iload 4, 2) := by decide +kernel
theorem dX7_year_33 : decode cX7_year 33 = .ok (.iload_n 2, 1) := by decide +kernel
theorem dX7_year_34 : decode cX7_year 34 = .ok (.if_icmp .ge 145, 3) := by decide +kernel
theorem dX7_year_37 : decode cX7_year 37 = .ok (.ldc2_w 193, 3) := by decide +kernel
theorem dX7_year_40 : decode cX7_year 40 = .ok (.iload_n 1, 1) := by decide +kernel
theorem dX7_year_41 : decode cX7_year 41 = .ok (.i2l, 1) := by decide +kernel
theorem dX7_year_42 : decode cX7_year 42 = .ok (.lmul, 1) := by decide +kernel
theorem dX7_year_43 : decode cX7_year 43 = .ok (.ldc2_w 195, 3) := by decide +kernel
theorem dX7_year_46 : decode cX7_year 46 = .ok (.iload 4, 2) := by decide +kernel
theorem dX7_year_48 : decode cX7_year 48 = .ok (.i2l, 1) := by decide +kernel
theorem dX7_year_49 : decode cX7_year 49 = .ok (.lmul, 1) := by decide +kernel
theorem dX7_year_50 : decode cX7_year 50 = .ok (.ladd, 1) := by decide +kernel
theorem dX7_year_51 : decode cX7_year 51 = .ok (.lconst 1, 1) := by decide +kernel
theorem dX7_year_52 : decode cX7_year 52 = .ok (.ladd, 1) := by decide +kernel
theorem dX7_year_53 : decode cX7_year 53 = .ok (.lstore 5, 2) := by decide +kernel
theorem dX7_year_55 : decode cX7_year 55 = .ok (.lload 5, 2) := by decide +kernel
theorem dX7_year_57 : decode cX7_year 57 = .ok (.lload 5, 2) := by decide +kernel
theorem dX7_year_59 : decode cX7_year 59 = .ok (.lmul, 1) := by decide +kernel
theorem dX7_year_60 : decode cX7_year 60 = .ok (.ldc2_w 197, 3) := by decide +kernel
theorem dX7_year_63 : decode cX7_year 63 = .ok (.lrem, 1) := by decide +kernel
theorem dX7_year_64 : decode cX7_year 64 = .ok (.l2i, 1) := by decide +kernel
theorem dX7_year_65 : decode cX7_year 65 = .ok (.istore 7, 2) := by decide +kernel
theorem dX7_year_67 : decode cX7_year 67 = .ok (.aload_n 0, 1) := by decide +kernel
theorem dX7_year_68 : decode cX7_year 68 = .ok (.aload_n 0, 1) := by decide +kernel
theorem dX7_year_69 : decode cX7_year 69 = .ok (.getfield 130, 3) := by decide +kernel
theorem dX7_year_72 : decode cX7_year 72 = .ok (.iload 7, 2) := by decide +kernel
theorem dX7_year_74 : decode cX7_year 74 = .ok (.bipush 16, 2) := by decide +kernel
theorem dX7_year_76 : decode cX7_year 76 = .ok (.irem, 1) := by decide +kernel
theorem dX7_year_77 : decode cX7_year 77 = .ok (.iadd, 1) := by decide +kernel
theorem dX7_year_78 : decode cX7_year 78 = .ok (.sipush 9999, 3) := by decide +kernel
theorem dX7_year_81 : decode cX7_year 81 = .ok (.if_icmp .le 9, 3) := by decide +kernel
theorem dX7_year_84 : decode cX7_year 84 = .ok (.sipush 9999, 3) := by decide +kernel
theorem dX7_year_87 : decode cX7_year 87 = .ok (.goto 13, 3) := by decide +kernel
theorem dX7_year_90 : decode cX7_year 90 = .ok (.aload_n 0, 1) := by decide +kernel
theorem dX7_year_91 : decode cX7_year 91 = .ok (.getfield 130, 3) := by decide +kernel
theorem dX7_year_94 : decode cX7_year 94 = .ok (.iload 7, 2) := by decide +kernel
theorem dX7_year_96 : decode cX7_year 96 = .ok (.bipush 16, 2) := by decide +kernel
theorem dX7_year_98 : decode cX7_year 98 = .ok (.irem, 1) := by decide +kernel
theorem dX7_year_99 : decode cX7_year 99 = .ok (.iadd, 1) := by decide +kernel
theorem dX7_year_100 : decode cX7_year 100 = .ok (.putfield 130, 3) := by decide +kernel
theorem dX7_year_103 : decode cX7_year 103 = .ok (.aload_n 0, 1) := by decide +kernel
theorem dX7_year_104 : decode cX7_year 104 = .ok (.getfield 130, 3) := by decide +kernel
theorem dX7_year_107 : decode cX7_year 107 = .ok (.iload 7, 2) := by decide +kernel
theorem dX7_year_109 : decode cX7_year 109 = .ok (.sipush 256, 3) := by decide +kernel
theorem dX7_year_112 : decode cX7_year 112 = .ok (.idiv, 1) := by decide +kernel
theorem dX7_year_113 : decode cX7_year 113 = .ok (.bipush 32, 2) := by decide +kernel
theorem dX7_year_115 : decode cX7_year 115 = .ok (.irem, 1) := by decide +kernel
theorem dX7_year_116 : decode cX7_year 116 = .ok (.isub, 1) := by decide +kernel
theorem dX7_year_117 : decode cX7_year 117 = .ok (.istore 8, 2) := by decide +kernel
theorem dX7_year_119 : decode cX7_year 119 = .ok (.aload_n 0, 1) := by decide +kernel
theorem dX7_year_120 : decode cX7_year 120 = .ok (.getfield 13, 3) := by decide +kernel
theorem dX7_year_123 : decode cX7_year 123 = .ok (.sipush 334, 3) := by decide +kernel
theorem dX7_year_126 : decode cX7_year 126 = .ok (.iaload, 1) := by decide +kernel
theorem dX7_year_127 : decode cX7_year 127 = .ok (.bipush 40, 2) := by decide +kernel
theorem dX7_year_129 : decode cX7_year 129 = .ok (.if_icmp .ge 44, 3) := by decide +kernel
theorem dX7_year_132 : decode cX7_year 132 = .ok (.aload_n 0, 1) := by decide +kernel
theorem dX7_year_133 : decode cX7_year 133 = .ok (.invokevirtual 148, 3) := by decide +kernel
theorem dX7_year_136 : decode cX7_year 136 = .ok (.aload_n 0, 1) := by decide +kernel
theorem dX7_year_137 : decode cX7_year 137 = .ok (.iload 7, 2) := by decide +kernel
theorem dX7_year_139 : decode cX7_year 139 = .ok (.bipush 16, 2) := by decide +kernel
theorem dX7_year_141 : decode cX7_year 141 = .ok (.idiv, 1) := by decide +kernel
theorem dX7_year_142 : decode cX7_year 142 = .ok (.iconst 4, 1) := by decide +kernel
theorem dX7_year_143 : decode cX7_year 143 = .ok (.irem, 1) := by decide +kernel
theorem dX7_year_144 : decode cX7_year 144 = .ok (.iconst 0, 1) := by decide +kernel
theorem dX7_year_145 : decode cX7_year 145 = .ok (.iload 8, 2) := by decide +kernel
theorem dX7_year_147 : decode cX7_year 147 = .ok (.ifCond .ge 7, 3) := by decide +kernel
theorem dX7_year_150 : decode cX7_year 150 = .ok (.iconst 0, 1) := by decide +kernel
theorem dX7_year_151 : decode cX7_year 151 = .ok (.goto 5, 3) := by decide +kernel
theorem dX7_year_154 : decode cX7_year 154 = .ok (.iload 8, 2) := by decide +kernel
theorem dX7_year_156 : decode cX7_year 156 = .ok (.iload 7, 2) := by decide +kernel
theorem dX7_year_158 : decode cX7_year 158 = .ok (.bipush 64, 2) := by decide +kernel
theorem dX7_year_160 : decode cX7_year 160 = .ok (.idiv, 1) := by decide +kernel
theorem dX7_year_161 : decode cX7_year 161 = .ok (.aload_n 0, 1) := by decide +kernel
theorem dX7_year_162 : decode cX7_year 162 = .ok (.getfield 124, 3) := by decide +kernel
theorem dX7_year_165 : decode cX7_year 165 = .ok (.irem, 1) := by decide +kernel
theorem dX7_year_166 : decode cX7_year 166 = .ok (.iconst 0, 1) := by decide +kernel
theorem dX7_year_167 : decode cX7_year 167 = .ok (.invokevirtual 160, 3) := by decide +kernel
theorem dX7_year_170 : decode cX7_year 170 = .ok (.iinc 3 1, 3) := by decide +kernel
theorem dX7_year_173 : decode cX7_year 173 = .ok (.iinc 4 1, 3) := by decide +kernel
theorem dX7_year_176 : decode cX7_year 176 = .ok (.goto (-145), 3) := by decide +kernel
theorem dX7_year_179 : decode cX7_year 179 = .ok (.iload_n 3, 1) := by decide +kernel
theorem dX7_year_180 : decode cX7_year 180 = .ok (.ireturn, 1) := by decide +kernel
theorem dX7_lastOf_0 : decode cX7_lastOf 0 = .ok (.aload_n 0, 1) := by decide +kernel
theorem dX7_lastOf_1 : decode cX7_lastOf 1 = .ok (.getfield 46, 3) := by decide +kernel
theorem dX7_lastOf_4 : decode cX7_lastOf 4 = .ok (.iload_n 1, 1) := by decide +kernel
theorem dX7_lastOf_5 : decode cX7_lastOf 5 = .ok (.iaload, 1) := by decide +kernel
theorem dX7_lastOf_6 : decode cX7_lastOf 6 = .ok (.aload_n 0, 1) := by decide +kernel
theorem dX7_lastOf_7 : decode cX7_lastOf 7 = .ok (.getfield 49, 3) := by decide +kernel
theorem dX7_lastOf_10 : decode cX7_lastOf 10 = .ok (.iload_n 1, 1) := by decide +kernel
theorem dX7_lastOf_11 : decode cX7_lastOf 11 = .ok (.iaload, 1) := by decide +kernel
theorem dX7_lastOf_12 : decode cX7_lastOf 12 = .ok (.iadd, 1) := by decide +kernel
theorem dX7_lastOf_13 : decode cX7_lastOf 13 = .ok (.iconst 1, 1) := by decide +kernel
theorem dX7_lastOf_14 : decode cX7_lastOf 14 = .ok (.isub, 1) := by decide +kernel
theorem dX7_lastOf_15 : decode cX7_lastOf 15 = .ok (.ireturn, 1) := by decide +kernel
theorem dX7_isBanned_0 : decode cX7_isBanned 0 = .ok (.iconst 0, 1) := by decide +kernel
theorem dX7_isBanned_1 : decode cX7_isBanned 1 = .ok (.istore_n 3, 1) := by decide +kernel
theorem dX7_isBanned_2 : decode cX7_isBanned 2 = .ok (.iconst 0, 1) := by decide +kernel
theorem dX7_isBanned_3 : decode cX7_isBanned 3 = .ok (.istore 4, 2) := by decide +kernel
theorem dX7_isBanned_5 : decode cX7_isBanned 5 = .ok (.iload 4, 2) := by decide +kernel
theorem dX7_isBanned_7 : decode cX7_isBanned 7 = .ok (.aload_n 0, 1) := by decide +kernel
theorem dX7_isBanned_8 : decode cX7_isBanned 8 = .ok (.getfield 199, 3) := by decide +kernel
theorem dX7_isBanned_11 : decode cX7_isBanned 11 = .ok (.if_icmp .ge 53, 3) := by decide +kernel
theorem dX7_isBanned_14 : decode cX7_isBanned 14 = .ok (.iload_n 3, 1) := by decide +kernel
theorem dX7_isBanned_15 : decode cX7_isBanned 15 = .ok (.ifCond .ne 37, 3) := by decide +kernel
theorem dX7_isBanned_18 : decode cX7_isBanned 18 = .ok (.aload_n 0, 1) := by decide +kernel
theorem dX7_isBanned_19 : decode cX7_isBanned 19 = .ok (.getfield 43, 3) := by decide +kernel
theorem dX7_isBanned_22 : decode cX7_isBanned 22 = .ok (.iload 4, 2) := by decide +kernel
theorem dX7_isBanned_24 : decode cX7_isBanned 24 = .ok (.iaload, 1) := by decide +kernel
theorem dX7_isBanned_25 : decode cX7_isBanned 25 = .ok (.iload_n 1, 1) := by decide +kernel
theorem dX7_isBanned_26 : decode cX7_isBanned 26 = .ok (.if_icmp .ne 30, 3) := by decide +kernel
theorem dX7_isBanned_29 : decode cX7_isBanned 29 = .ok (.iload_n 2, 1) := by decide +kernel
theorem dX7_isBanned_30 : decode cX7_isBanned 30 = .ok (.i2l, 1) := by decide +kernel
theorem dX7_isBanned_31 : decode cX7_isBanned 31 = .ok (.aload_n 0, 1) := by decide +kernel
theorem dX7_isBanned_32 : decode cX7_isBanned 32 = .ok (.getfield 46, 3) := by decide +kernel
theorem dX7_isBanned_35 : decode cX7_isBanned 35 = .ok (.iload 4, 2) := by decide +kernel
theorem dX7_isBanned_37 : decode cX7_isBanned 37 = .ok (.iaload, 1) := by decide +kernel
theorem dX7_isBanned_38 : decode cX7_isBanned 38 = .ok (.i2l, 1) := by decide +kernel
theorem dX7_isBanned_39 : decode cX7_isBanned 39 = .ok (.aload_n 0, 1) := by decide +kernel
theorem dX7_isBanned_40 : decode cX7_isBanned 40 = .ok (.iload 4, 2) := by decide +kernel
theorem dX7_isBanned_42 : decode cX7_isBanned 42 = .ok (.invokevirtual 202, 3) := by decide +kernel
theorem dX7_isBanned_45 : decode cX7_isBanned 45 = .ok (.i2l, 1) := by decide +kernel
theorem dX7_isBanned_46 : decode cX7_isBanned 46 = .ok (.invokestatic 79, 3) := by decide +kernel
theorem dX7_isBanned_49 : decode cX7_isBanned 49 = .ok (.ifCond .eq 7, 3) := by decide +kernel
theorem dX7_isBanned_52 : decode cX7_isBanned 52 = .ok (.iconst 1, 1) := by decide +kernel
theorem dX7_isBanned_53 : decode cX7_isBanned 53 = .ok (.goto 4, 3) := by decide +kernel
theorem dX7_isBanned_56 : decode cX7_isBanned 56 = .ok (.iconst 0, 1) := by decide +kernel
theorem dX7_isBanned_57 : decode cX7_isBanned 57 = .ok (.istore_n 3, 1) := by decide +kernel
theorem dX7_isBanned_58 : decode cX7_isBanned 58 = .ok (.iinc 4 1, 3) := by decide +kernel
theorem dX7_isBanned_61 : decode cX7_isBanned 61 = .ok (.goto (-56), 3) := by decide +kernel
theorem dX7_isBanned_64 : decode cX7_isBanned 64 = .ok (.iload_n 3, 1) := by decide +kernel
theorem dX7_isBanned_65 : decode cX7_isBanned 65 = .ok (.ireturn, 1) := by decide +kernel
theorem dX7_gives_0 : decode cX7_gives 0 = .ok (.aload_n 0, 1) := by decide +kernel
theorem dX7_gives_1 : decode cX7_gives 1 = .ok (.getfield 43, 3) := by decide +kernel
theorem dX7_gives_4 : decode cX7_gives 4 = .ok (.aload_n 0, 1) := by decide +kernel
theorem dX7_gives_5 : decode cX7_gives 5 = .ok (.getfield 199, 3) := by decide +kernel
theorem dX7_gives_8 : decode cX7_gives 8 = .ok (.iload_n 1, 1) := by decide +kernel
theorem dX7_gives_9 : decode cX7_gives 9 = .ok (.iastore, 1) := by decide +kernel
theorem dX7_gives_10 : decode cX7_gives 10 = .ok (.aload_n 0, 1) := by decide +kernel
theorem dX7_gives_11 : decode cX7_gives 11 = .ok (.getfield 46, 3) := by decide +kernel
theorem dX7_gives_14 : decode cX7_gives 14 = .ok (.aload_n 0, 1) := by decide +kernel
theorem dX7_gives_15 : decode cX7_gives 15 = .ok (.getfield 199, 3) := by decide +kernel
theorem dX7_gives_18 : decode cX7_gives 18 = .ok (.iload_n 2, 1) := by decide +kernel
theorem dX7_gives_19 : decode cX7_gives 19 = .ok (.iastore, 1) := by decide +kernel
theorem dX7_gives_20 : decode cX7_gives 20 = .ok (.aload_n 0, 1) := by decide +kernel
theorem dX7_gives_21 : decode cX7_gives 21 = .ok (.getfield 49, 3) := by decide +kernel
theorem dX7_gives_24 : decode cX7_gives 24 = .ok (.aload_n 0, 1) := by decide +kernel
theorem dX7_gives_25 : decode cX7_gives 25 = .ok (.getfield 199, 3) := by decide +kernel
theorem dX7_gives_28 : decode cX7_gives 28 = .ok (.iload_n 3, 1) := by decide +kernel
theorem dX7_gives_29 : decode cX7_gives 29 = .ok (.iastore, 1) := by decide +kernel
theorem dX7_gives_30 : decode cX7_gives 30 = .ok (.aload_n 0, 1) := by decide +kernel
theorem dX7_gives_31 : decode cX7_gives 31 = .ok (.getfield 52, 3) := by decide +kernel
theorem dX7_gives_34 : decode cX7_gives 34 = .ok (.aload_n 0, 1) := by decide +kernel
theorem dX7_gives_35 : decode cX7_gives 35 = .ok (.getfield 199, 3) := by decide +kernel
theorem dX7_gives_38 : decode cX7_gives 38 = .ok (.iload 4, 2) := by decide +kernel
theorem dX7_gives_40 : decode cX7_gives 40 = .ok (.iastore, 1) := by decide +kernel
theorem dX7_gives_41 : decode cX7_gives 41 = .ok (.aload_n 0, 1) := by decide +kernel
theorem dX7_gives_42 : decode cX7_gives 42 = .ok (.getfield 55, 3) := by decide +kernel
theorem dX7_gives_45 : decode cX7_gives 45 = .ok (.aload_n 0, 1) := by decide +kernel
theorem dX7_gives_46 : decode cX7_gives 46 = .ok (.getfield 199, 3) := by decide +kernel
theorem dX7_gives_49 : decode cX7_gives 49 = .ok (.iload 5, 2) := by decide +kernel
theorem dX7_gives_51 : decode cX7_gives 51 = .ok (.iastore, 1) := by decide +kernel
theorem dX7_gives_52 : decode cX7_gives 52 = .ok (.aload_n 0, 1) := by decide +kernel
theorem dX7_gives_53 : decode cX7_gives 53 = .ok (.getfield 58, 3) := by decide +kernel
theorem dX7_gives_56 : decode cX7_gives 56 = .ok (.aload_n 0, 1) := by decide +kernel
theorem dX7_gives_57 : decode cX7_gives 57 = .ok (.getfield 199, 3) := by decide +kernel
theorem dX7_gives_60 : decode cX7_gives 60 = .ok (.iconst 0, 1) := by decide +kernel
theorem dX7_gives_61 : decode cX7_gives 61 = .ok (.iastore, 1) := by decide +kernel
theorem dX7_gives_62 : decode cX7_gives 62 = .ok (.aload_n 0, 1) := by decide +kernel
theorem dX7_gives_63 : decode cX7_gives 63 = .ok (.dup, 1) := by decide +kernel
theorem dX7_gives_64 : decode cX7_gives 64 = .ok (.getfield 199, 3) := by decide +kernel
theorem dX7_gives_67 : decode cX7_gives 67 = .ok (.iconst 1, 1) := by decide +kernel
theorem dX7_gives_68 : decode cX7_gives 68 = .ok (.iadd, 1) := by decide +kernel
theorem dX7_gives_69 : decode cX7_gives 69 = .ok (.putfield 199, 3) := by decide +kernel
theorem dX7_gives_72 : decode cX7_gives 72 = .ok (.return_, 1) := by decide +kernel
theorem dX7_countOf_0 : decode cX7_countOf 0 = .ok (.aload_n 0, 1) := by decide +kernel
theorem dX7_countOf_1 : decode cX7_countOf 1 = .ok (.getfield 37, 3) := by decide +kernel
theorem dX7_countOf_4 : decode cX7_countOf 4 = .ok (.iload_n 1, 1) := by decide +kernel
theorem dX7_countOf_5 : decode cX7_countOf 5 = .ok (.iaload, 1) := by decide +kernel
theorem dX7_countOf_6 : decode cX7_countOf 6 = .ok (.iconst 1, 1) := by decide +kernel
theorem dX7_countOf_7 : decode cX7_countOf 7 = .ok (.if_icmp .eq 24, 3) := by decide +kernel
theorem dX7_countOf_10 : decode cX7_countOf 10 = .ok (.aload_n 0, 1) := by decide +kernel
theorem dX7_countOf_11 : decode cX7_countOf 11 = .ok (.iload_n 1, 1) := by decide +kernel
theorem dX7_countOf_12 : decode cX7_countOf 12 = .ok (.bipush 7, 2) := by decide +kernel
theorem dX7_countOf_14 : decode cX7_countOf 14 = .ok (.invokevirtual 164, 3) := by decide +kernel
theorem dX7_countOf_17 : decode cX7_countOf 17 = .ok (.iconst 1, 1) := by decide +kernel
theorem dX7_countOf_18 : decode cX7_countOf 18 = .ok (.if_icmp .eq 13, 3) := by decide +kernel
theorem dX7_countOf_21 : decode cX7_countOf 21 = .ok (.aload_n 0, 1) := by decide +kernel
theorem dX7_countOf_22 : decode cX7_countOf 22 = .ok (.iload_n 1, 1) := by decide +kernel
theorem dX7_countOf_23 : decode cX7_countOf 23 = .ok (.iconst 2, 1) := by decide +kernel
theorem dX7_countOf_24 : decode cX7_countOf 24 = .ok (.invokevirtual 164, 3) := by decide +kernel
theorem dX7_countOf_27 : decode cX7_countOf 27 = .ok (.iconst 2, 1) := by decide +kernel
theorem dX7_countOf_28 : decode cX7_countOf 28 = .ok (.if_icmp .ne 5, 3) := by decide +kernel
theorem dX7_countOf_31 : decode cX7_countOf 31 = .ok (.iconst 0, 1) := by decide +kernel
theorem dX7_countOf_32 : decode cX7_countOf 32 = .ok (.ireturn, 1) := by decide +kernel
theorem dX7_countOf_33 : decode cX7_countOf 33 = .ok (.aload_n 0, 1) := by decide +kernel
theorem dX7_countOf_34 : decode cX7_countOf 34 = .ok (.iload_n 1, 1) := by decide +kernel
theorem dX7_countOf_35 : decode cX7_countOf 35 = .ok (.iconst 2, 1) := by decide +kernel
theorem dX7_countOf_36 : decode cX7_countOf 36 = .ok (.invokevirtual 164, 3) := by decide +kernel
theorem dX7_countOf_39 : decode cX7_countOf 39 = .ok (.iconst 1, 1) := by decide +kernel
theorem dX7_countOf_40 : decode cX7_countOf 40 = .ok (.if_icmp .ne 8, 3) := by decide +kernel
theorem dX7_countOf_43 : decode cX7_countOf 43 = .ok (.bipush (-3), 2) := by decide +kernel
theorem dX7_countOf_45 : decode cX7_countOf 45 = .ok (.goto 25, 3) := by decide +kernel
theorem dX7_countOf_48 : decode cX7_countOf 48 = .ok (.aload_n 0, 1) := by decide +kernel
theorem dX7_countOf_49 : decode cX7_countOf 49 = .ok (.iload_n 1, 1) := by decide +kernel
theorem dX7_countOf_50 : decode cX7_countOf 50 = .ok (.iconst 5, 1) := by decide +kernel
theorem dX7_countOf_51 : decode cX7_countOf 51 = .ok (.invokevirtual 164, 3) := by decide +kernel
theorem dX7_countOf_54 : decode cX7_countOf 54 = .ok (.aload_n 0, 1) := by decide +kernel
theorem dX7_countOf_55 : decode cX7_countOf 55 = .ok (.getfield 34, 3) := by decide +kernel
theorem dX7_countOf_58 : decode cX7_countOf 58 = .ok (.iload_n 1, 1) := by decide +kernel
theorem dX7_countOf_59 : decode cX7_countOf 59 = .ok (.iaload, 1) := by decide +kernel
theorem dX7_countOf_60 : decode cX7_countOf 60 = .ok (.iconst 1, 1) := by decide +kernel
theorem dX7_countOf_61 : decode cX7_countOf 61 = .ok (.if_icmp .ne 7, 3) := by decide +kernel
theorem dX7_countOf_64 : decode cX7_countOf 64 = .ok (.iconst 2, 1) := by decide +kernel
theorem dX7_countOf_65 : decode cX7_countOf 65 = .ok (.goto 4, 3) := by decide +kernel
theorem dX7_countOf_68 : decode cX7_countOf 68 = .ok (.iconst 1, 1) := by decide +kernel
theorem dX7_countOf_69 : decode cX7_countOf 69 = .ok (.imul, 1) := by decide +kernel
theorem dX7_countOf_70 : decode cX7_countOf 70 = .ok (.ireturn, 1) := by decide +kernel
theorem dX7_mostOf_0 : decode cX7_mostOf 0 = .ok (.ldc 205, 2) := by decide +kernel
theorem dX7_mostOf_2 : decode cX7_mostOf 2 = .ok (.istore 4, 2) := by decide +kernel
theorem dX7_mostOf_4 : decode cX7_mostOf 4 = .ok (.iload_n 2, 1) := by decide +kernel
theorem dX7_mostOf_5 : decode cX7_mostOf 5 = .ok (.aload_n 0, 1) := by decide +kernel
theorem dX7_mostOf_6 : decode cX7_mostOf 6 = .ok (.iconst 0, 1) := by decide +kernel
theorem dX7_mostOf_7 : decode cX7_mostOf 7 = .ok (.invokevirtual 145, 3) := by decide +kernel
theorem dX7_mostOf_10 : decode cX7_mostOf 10 = .ok (.isub, 1) := by decide +kernel
theorem dX7_mostOf_11 : decode cX7_mostOf 11 = .ok (.iconst 1, 1) := by decide +kernel
theorem dX7_mostOf_12 : decode cX7_mostOf 12 = .ok (.iadd, 1) := by decide +kernel
theorem dX7_mostOf_13 : decode cX7_mostOf 13 = .ok (.istore 5, 2) := by decide +kernel
theorem dX7_mostOf_15 : decode cX7_mostOf 15 = .ok (.iload 5, 2) := by decide +kernel
theorem dX7_mostOf_17 : decode cX7_mostOf 17 = .ok (.iload_n 2, 1) := by decide +kernel
theorem dX7_mostOf_18 : decode cX7_mostOf 18 = .ok (.if_icmp .gt 121, 3) := by decide +kernel
theorem dX7_mostOf_21 : decode cX7_mostOf 21 = .ok (.iconst 0, 1) := by decide +kernel
theorem dX7_mostOf_22 : decode cX7_mostOf 22 = .ok (.istore 6, 2) := by decide +kernel
theorem dX7_mostOf_24 : decode cX7_mostOf 24 = .ok (.iconst 0, 1) := by decide +kernel
theorem dX7_mostOf_25 : decode cX7_mostOf 25 = .ok (.istore 7, 2) := by decide +kernel
theorem dX7_mostOf_27 : decode cX7_mostOf 27 = .ok (.iload 7, 2) := by decide +kernel
theorem dX7_mostOf_29 : decode cX7_mostOf 29 = .ok (.iload_n 3, 1) := by decide +kernel
theorem dX7_mostOf_30 : decode cX7_mostOf 30 = .ok (.if_icmp .ge 87, 3) := by decide +kernel
theorem dX7_mostOf_33 : decode cX7_mostOf 33 = .ok (.aload_n 0, 1) := by decide +kernel
theorem dX7_mostOf_34 : decode cX7_mostOf 34 = .ok (.iload 7, 2) := by decide +kernel
theorem dX7_mostOf_36 : decode cX7_mostOf 36 = .ok (.iconst 2, 1) := by decide +kernel
theorem dX7_mostOf_37 : decode cX7_mostOf 37 = .ok (.invokevirtual 164, 3) := by decide +kernel
theorem dX7_mostOf_40 : decode cX7_mostOf 40 = .ok (.ifCond .ne 13, 3) := by decide +kernel
theorem dX7_mostOf_43 : decode cX7_mostOf 43 = .ok (.aload_n 0, 1) := by decide +kernel
theorem dX7_mostOf_44 : decode cX7_mostOf 44 = .ok (.iload 7, 2) := by decide +kernel
theorem dX7_mostOf_46 : decode cX7_mostOf 46 = .ok (.iconst 3, 1) := by decide +kernel
theorem dX7_mostOf_47 : decode cX7_mostOf 47 = .ok (.invokevirtual 164, 3) := by decide +kernel
theorem dX7_mostOf_50 : decode cX7_mostOf 50 = .ok (.goto 10, 3) := by decide +kernel
theorem dX7_mostOf_53 : decode cX7_mostOf 53 = .ok (.aload_n 0, 1) := by decide +kernel
theorem dX7_mostOf_54 : decode cX7_mostOf 54 = .ok (.iload 7, 2) := by decide +kernel
theorem dX7_mostOf_56 : decode cX7_mostOf 56 = .ok (.iconst 1, 1) := by decide +kernel
theorem dX7_mostOf_57 : decode cX7_mostOf 57 = .ok (.invokevirtual 164, 3) := by decide +kernel
theorem dX7_mostOf_60 : decode cX7_mostOf 60 = .ok (.istore 8, 2) := by decide +kernel
theorem dX7_mostOf_62 : decode cX7_mostOf 62 = .ok (.iload 6, 2) := by decide +kernel
theorem dX7_mostOf_64 : decode cX7_mostOf 64 = .ok (.aload_n 0, 1) := by decide +kernel
theorem dX7_mostOf_65 : decode cX7_mostOf 65 = .ok (.iload 7, 2) := by decide +kernel
theorem dX7_mostOf_67 : decode cX7_mostOf 67 = .ok (.iconst 0, 1) := by decide +kernel
theorem dX7_mostOf_68 : decode cX7_mostOf 68 = .ok (.invokevirtual 164, 3) := by decide +kernel
theorem dX7_mostOf_71 : decode cX7_mostOf 71 = .ok (.iload_n 1, 1) := by decide +kernel
theorem dX7_mostOf_72 : decode cX7_mostOf 72 = .ok (.if_icmp .ne 35, 3) := by decide +kernel
theorem dX7_mostOf_75 : decode cX7_mostOf 75 = .ok (.iload 8, 2) := by decide +kernel
theorem dX7_mostOf_77 : decode cX7_mostOf 77 = .ok (.i2l, 1) := by decide +kernel
theorem dX7_mostOf_78 : decode cX7_mostOf 78 = .ok (.iload 5, 2) := by decide +kernel
theorem dX7_mostOf_80 : decode cX7_mostOf 80 = .ok (.i2l, 1) := by decide +kernel
theorem dX7_mostOf_81 : decode cX7_mostOf 81 = .ok (.iload 5, 2) := by decide +kernel
theorem dX7_mostOf_83 : decode cX7_mostOf 83 = .ok (.aload_n 0, 1) := by decide +kernel
theorem dX7_mostOf_84 : decode cX7_mostOf 84 = .ok (.iconst 0, 1) := by decide +kernel
theorem dX7_mostOf_85 : decode cX7_mostOf 85 = .ok (.invokevirtual 145, 3) := by decide +kernel
theorem dX7_mostOf_88 : decode cX7_mostOf 88 = .ok (.iadd, 1) := by decide +kernel
theorem dX7_mostOf_89 : decode cX7_mostOf 89 = .ok (.iconst 1, 1) := by decide +kernel
theorem dX7_mostOf_90 : decode cX7_mostOf 90 = .ok (.isub, 1) := by decide +kernel
theorem dX7_mostOf_91 : decode cX7_mostOf 91 = .ok (.i2l, 1) := by decide +kernel
theorem dX7_mostOf_92 : decode cX7_mostOf 92 = .ok (.invokestatic 79, 3) := by decide +kernel
theorem dX7_mostOf_95 : decode cX7_mostOf 95 = .ok (.ifCond .eq 12, 3) := by decide +kernel
theorem dX7_mostOf_98 : decode cX7_mostOf 98 = .ok (.aload_n 0, 1) := by decide +kernel
theorem dX7_mostOf_99 : decode cX7_mostOf 99 = .ok (.iload 7, 2) := by decide +kernel
theorem dX7_mostOf_101 : decode cX7_mostOf 101 = .ok (.invokevirtual 206, 3) := by decide +kernel
theorem dX7_mostOf_104 : decode cX7_mostOf 104 = .ok (.goto 4, 3) := by decide +kernel
theorem dX7_mostOf_107 : decode cX7_mostOf 107 = .ok (.iconst 0, 1) := by decide +kernel
theorem dX7_mostOf_108 : decode cX7_mostOf 108 = .ok (.iadd, 1) := by decide +kernel
theorem dX7_mostOf_109 : decode cX7_mostOf 109 = .ok (.istore 6, 2) := by decide +kernel
theorem dX7_mostOf_111 : decode cX7_mostOf 111 = .ok (.iinc 7 1, 3) := by decide +kernel
theorem dX7_mostOf_114 : decode cX7_mostOf 114 = .ok (.goto (-87), 3) := by decide +kernel
theorem dX7_mostOf_117 : decode cX7_mostOf 117 = .ok (.iload 6, 2) := by decide +kernel
theorem dX7_mostOf_119 : decode cX7_mostOf 119 = .ok (.iload 4, 2) := by decide +kernel
theorem dX7_mostOf_121 : decode cX7_mostOf 121 = .ok (.if_icmp .le 8, 3) := by decide +kernel
theorem dX7_mostOf_124 : decode cX7_mostOf 124 = .ok (.iload 6, 2) := by decide +kernel
theorem dX7_mostOf_126 : decode cX7_mostOf 126 = .ok (.goto 5, 3) := by decide +kernel
theorem dX7_mostOf_129 : decode cX7_mostOf 129 = .ok (.iload 4, 2) := by decide +kernel
theorem dX7_mostOf_131 : decode cX7_mostOf 131 = .ok (.istore 4, 2) := by decide +kernel
theorem dX7_mostOf_133 : decode cX7_mostOf 133 = .ok (.iinc 5 1, 3) := by decide +kernel
theorem dX7_mostOf_136 : decode cX7_mostOf 136 = .ok (.goto (-121), 3) := by decide +kernel
theorem dX7_mostOf_139 : decode cX7_mostOf 139 = .ok (.iload 4, 2) := by decide +kernel
theorem dX7_mostOf_141 : decode cX7_mostOf 141 = .ok (.ireturn, 1) := by decide +kernel
theorem dX7_greatOnes_0 : decode cX7_greatOnes 0 = .ok (.iconst 0, 1) := by decide +kernel
theorem dX7_greatOnes_1 : decode cX7_greatOnes 1 = .ok (.istore_n 3, 1) := by decide +kernel
theorem dX7_greatOnes_2 : decode cX7_greatOnes 2 = .ok (.iconst 0, 1) := by decide +kernel
theorem dX7_greatOnes_3 : decode cX7_greatOnes 3 = .ok (.istore 4, 2) := by decide +kernel
theorem dX7_greatOnes_5 : decode cX7_greatOnes 5 = .ok (.iload 4, 2) := by decide +kernel
theorem dX7_greatOnes_7 : decode cX7_greatOnes 7 = .ok (.aload_n 0, 1) := by decide +kernel
theorem dX7_greatOnes_8 : decode cX7_greatOnes 8 = .ok (.getfield 199, 3) := by decide +kernel
theorem dX7_greatOnes_11 : decode cX7_greatOnes 11 = .ok (.if_icmp .ge 68, 3) := by decide +kernel
theorem dX7_greatOnes_14 : decode cX7_greatOnes 14 = .ok (.iload_n 3, 1) := by decide +kernel
theorem dX7_greatOnes_15 : decode cX7_greatOnes 15 = .ok (.aload_n 0, 1) := by decide +kernel
theorem dX7_greatOnes_16 : decode cX7_greatOnes 16 = .ok (.getfield 43, 3) := by decide +kernel
theorem dX7_greatOnes_19 : decode cX7_greatOnes 19 = .ok (.iload 4, 2) := by decide +kernel
theorem dX7_greatOnes_21 : decode cX7_greatOnes 21 = .ok (.iaload, 1) := by decide +kernel
theorem dX7_greatOnes_22 : decode cX7_greatOnes 22 = .ok (.iload_n 1, 1) := by decide +kernel
theorem dX7_greatOnes_23 : decode cX7_greatOnes 23 = .ok (.if_icmp .ne 47, 3) := by decide +kernel
theorem dX7_greatOnes_26 : decode cX7_greatOnes 26 = .ok (.aload_n 0, 1) := by decide +kernel
theorem dX7_greatOnes_27 : decode cX7_greatOnes 27 = .ok (.getfield 55, 3) := by decide +kernel
theorem dX7_greatOnes_30 : decode cX7_greatOnes 30 = .ok (.iload 4, 2) := by decide +kernel
theorem dX7_greatOnes_32 : decode cX7_greatOnes 32 = .ok (.iaload, 1) := by decide +kernel
theorem dX7_greatOnes_33 : decode cX7_greatOnes 33 = .ok (.iconst 1, 1) := by decide +kernel
theorem dX7_greatOnes_34 : decode cX7_greatOnes 34 = .ok (.if_icmp .ne 36, 3) := by decide +kernel
theorem dX7_greatOnes_37 : decode cX7_greatOnes 37 = .ok (.aload_n 0, 1) := by decide +kernel
theorem dX7_greatOnes_38 : decode cX7_greatOnes 38 = .ok (.aload_n 0, 1) := by decide +kernel
theorem dX7_greatOnes_39 : decode cX7_greatOnes 39 = .ok (.getfield 52, 3) := by decide +kernel
theorem dX7_greatOnes_42 : decode cX7_greatOnes 42 = .ok (.iload 4, 2) := by decide +kernel
theorem dX7_greatOnes_44 : decode cX7_greatOnes 44 = .ok (.iaload, 1) := by decide +kernel
theorem dX7_greatOnes_45 : decode cX7_greatOnes 45 = .ok (.iconst 1, 1) := by decide +kernel
theorem dX7_greatOnes_46 : decode cX7_greatOnes 46 = .ok (.invokevirtual 164, 3) := by decide +kernel
theorem dX7_greatOnes_49 : decode cX7_greatOnes 49 = .ok (.i2l, 1) := by decide +kernel
theorem dX7_greatOnes_50 : decode cX7_greatOnes 50 = .ok (.iload_n 2, 1) := by decide +kernel
theorem dX7_greatOnes_51 : decode cX7_greatOnes 51 = .ok (.aload_n 0, 1) := by decide +kernel
theorem dX7_greatOnes_52 : decode cX7_greatOnes 52 = .ok (.iconst 3, 1) := by decide +kernel
theorem dX7_greatOnes_53 : decode cX7_greatOnes 53 = .ok (.invokevirtual 145, 3) := by decide +kernel
theorem dX7_greatOnes_56 : decode cX7_greatOnes 56 = .ok (.isub, 1) := by decide +kernel
theorem dX7_greatOnes_57 : decode cX7_greatOnes 57 = .ok (.i2l, 1) := by decide +kernel
theorem dX7_greatOnes_58 : decode cX7_greatOnes 58 = .ok (.iload_n 2, 1) := by decide +kernel
theorem dX7_greatOnes_59 : decode cX7_greatOnes 59 = .ok (.i2l, 1) := by decide +kernel
theorem dX7_greatOnes_60 : decode cX7_greatOnes 60 = .ok (.invokestatic 79, 3) := by decide +kernel
theorem dX7_greatOnes_63 : decode cX7_greatOnes 63 = .ok (.ifCond .eq 7, 3) := by decide +kernel
theorem dX7_greatOnes_66 : decode cX7_greatOnes 66 = .ok (.iconst 1, 1) := by decide +kernel
theorem dX7_greatOnes_67 : decode cX7_greatOnes 67 = .ok (.goto 4, 3) := by decide +kernel
theorem dX7_greatOnes_70 : decode cX7_greatOnes 70 = .ok (.iconst 0, 1) := by decide +kernel
theorem dX7_greatOnes_71 : decode cX7_greatOnes 71 = .ok (.iadd, 1) := by decide +kernel
theorem dX7_greatOnes_72 : decode cX7_greatOnes 72 = .ok (.istore_n 3, 1) := by decide +kernel
theorem dX7_greatOnes_73 : decode cX7_greatOnes 73 = .ok (.iinc 4 1, 3) := by decide +kernel
theorem dX7_greatOnes_76 : decode cX7_greatOnes 76 = .ok (.goto (-71), 3) := by decide +kernel
theorem dX7_greatOnes_79 : decode cX7_greatOnes 79 = .ok (.iload_n 3, 1) := by decide +kernel
theorem dX7_greatOnes_80 : decode cX7_greatOnes 80 = .ok (.ireturn, 1) := by decide +kernel
theorem dX7_beginOf_0 : decode cX7_beginOf 0 = .ok (.iload_n 2, 1) := by decide +kernel
theorem dX7_beginOf_1 : decode cX7_beginOf 1 = .ok (.istore_n 3, 1) := by decide +kernel
theorem dX7_beginOf_2 : decode cX7_beginOf 2 = .ok (.iconst 0, 1) := by decide +kernel
theorem dX7_beginOf_3 : decode cX7_beginOf 3 = .ok (.istore 4, 2) := by decide +kernel
theorem dX7_beginOf_5 : decode cX7_beginOf 5 = .ok (.iload 4, 2) := by decide +kernel
theorem dX7_beginOf_7 : decode cX7_beginOf 7 = .ok (.aload_n 0, 1) := by decide +kernel
theorem dX7_beginOf_8 : decode cX7_beginOf 8 = .ok (.getfield 199, 3) := by decide +kernel
theorem dX7_beginOf_11 : decode cX7_beginOf 11 = .ok (.if_icmp .ge 43, 3) := by decide +kernel
theorem dX7_beginOf_14 : decode cX7_beginOf 14 = .ok (.aload_n 0, 1) := by decide +kernel
theorem dX7_beginOf_15 : decode cX7_beginOf 15 = .ok (.getfield 43, 3) := by decide +kernel
theorem dX7_beginOf_18 : decode cX7_beginOf 18 = .ok (.iload 4, 2) := by decide +kernel
theorem dX7_beginOf_20 : decode cX7_beginOf 20 = .ok (.iaload, 1) := by decide +kernel
theorem dX7_beginOf_21 : decode cX7_beginOf 21 = .ok (.iload_n 1, 1) := by decide +kernel
theorem dX7_beginOf_22 : decode cX7_beginOf 22 = .ok (.if_icmp .ne 24, 3) := by decide +kernel
theorem dX7_beginOf_25 : decode cX7_beginOf 25 = .ok (.aload_n 0, 1) := by decide +kernel
theorem dX7_beginOf_26 : decode cX7_beginOf 26 = .ok (.iload 4, 2) := by decide +kernel
theorem dX7_beginOf_28 : decode cX7_beginOf 28 = .ok (.invokevirtual 202, 3) := by decide +kernel
theorem dX7_beginOf_31 : decode cX7_beginOf 31 = .ok (.iload_n 3, 1) := by decide +kernel
theorem dX7_beginOf_32 : decode cX7_beginOf 32 = .ok (.if_icmp .lt 14, 3) := by decide +kernel
theorem dX7_beginOf_35 : decode cX7_beginOf 35 = .ok (.aload_n 0, 1) := by decide +kernel
theorem dX7_beginOf_36 : decode cX7_beginOf 36 = .ok (.iload 4, 2) := by decide +kernel
theorem dX7_beginOf_38 : decode cX7_beginOf 38 = .ok (.invokevirtual 202, 3) := by decide +kernel
theorem dX7_beginOf_41 : decode cX7_beginOf 41 = .ok (.iconst 1, 1) := by decide +kernel
theorem dX7_beginOf_42 : decode cX7_beginOf 42 = .ok (.iadd, 1) := by decide +kernel
theorem dX7_beginOf_43 : decode cX7_beginOf 43 = .ok (.goto 4, 3) := by decide +kernel
theorem dX7_beginOf_46 : decode cX7_beginOf 46 = .ok (.iload_n 3, 1) := by decide +kernel
theorem dX7_beginOf_47 : decode cX7_beginOf 47 = .ok (.istore_n 3, 1) := by decide +kernel
theorem dX7_beginOf_48 : decode cX7_beginOf 48 = .ok (.iinc 4 1, 3) := by decide +kernel
theorem dX7_beginOf_51 : decode cX7_beginOf 51 = .ok (.goto (-46), 3) := by decide +kernel
theorem dX7_beginOf_54 : decode cX7_beginOf 54 = .ok (.iload_n 3, 1) := by decide +kernel
theorem dX7_beginOf_55 : decode cX7_beginOf 55 = .ok (.ireturn, 1) := by decide +kernel
theorem dX7_convicts_0 : decode cX7_convicts 0 = .ok (.aload_n 0, 1) := by decide +kernel
theorem dX7_convicts_1 : decode cX7_convicts 1 = .ok (.iload_n 1, 1) := by decide +kernel
theorem dX7_convicts_2 : decode cX7_convicts 2 = .ok (.iconst 0, 1) := by decide +kernel
theorem dX7_convicts_3 : decode cX7_convicts 3 = .ok (.invokevirtual 164, 3) := by decide +kernel
theorem dX7_convicts_6 : decode cX7_convicts 6 = .ok (.istore_n 2, 1) := by decide +kernel
theorem dX7_convicts_7 : decode cX7_convicts 7 = .ok (.aload_n 0, 1) := by decide +kernel
theorem dX7_convicts_8 : decode cX7_convicts 8 = .ok (.iload_n 1, 1) := by decide +kernel
theorem dX7_convicts_9 : decode cX7_convicts 9 = .ok (.iconst 1, 1) := by decide +kernel
theorem dX7_convicts_10 : decode cX7_convicts 10 = .ok (.invokevirtual 164, 3) := by decide +kernel
theorem dX7_convicts_13 : decode cX7_convicts 13 = .ok (.istore_n 3, 1) := by decide +kernel
theorem dX7_convicts_14 : decode cX7_convicts 14 = .ok (.aload_n 0, 1) := by decide +kernel
theorem dX7_convicts_15 : decode cX7_convicts 15 = .ok (.iload_n 1, 1) := by decide +kernel
theorem dX7_convicts_16 : decode cX7_convicts 16 = .ok (.bipush 7, 2) := by decide +kernel
theorem dX7_convicts_18 : decode cX7_convicts 18 = .ok (.invokevirtual 164, 3) := by decide +kernel
theorem dX7_convicts_21 : decode cX7_convicts 21 = .ok (.iconst 1, 1) := by decide +kernel
theorem dX7_convicts_22 : decode cX7_convicts 22 = .ok (.if_icmp .ne 4, 3) := by decide +kernel
theorem dX7_convicts_25 : decode cX7_convicts 25 = .ok (.return_, 1) := by decide +kernel
theorem dX7_convicts_26 : decode cX7_convicts 26 = .ok (.aload_n 0, 1) := by decide +kernel
theorem dX7_convicts_27 : decode cX7_convicts 27 = .ok (.getfield 34, 3) := by decide +kernel
theorem dX7_convicts_30 : decode cX7_convicts 30 = .ok (.iload_n 1, 1) := by decide +kernel
theorem dX7_convicts_31 : decode cX7_convicts 31 = .ok (.aload_n 0, 1) := by decide +kernel
theorem dX7_convicts_32 : decode cX7_convicts 32 = .ok (.iload_n 2, 1) := by decide +kernel
theorem dX7_convicts_33 : decode cX7_convicts 33 = .ok (.aload_n 0, 1) := by decide +kernel
theorem dX7_convicts_34 : decode cX7_convicts 34 = .ok (.iload_n 1, 1) := by decide +kernel
theorem dX7_convicts_35 : decode cX7_convicts 35 = .ok (.iconst 3, 1) := by decide +kernel
theorem dX7_convicts_36 : decode cX7_convicts 36 = .ok (.invokevirtual 164, 3) := by decide +kernel
theorem dX7_convicts_39 : decode cX7_convicts 39 = .ok (.invokevirtual 209, 3) := by decide +kernel
theorem dX7_convicts_42 : decode cX7_convicts 42 = .ok (.ifCond .eq 7, 3) := by decide +kernel
theorem dX7_convicts_45 : decode cX7_convicts 45 = .ok (.iconst 1, 1) := by decide +kernel
theorem dX7_convicts_46 : decode cX7_convicts 46 = .ok (.goto 4, 3) := by decide +kernel
theorem dX7_convicts_49 : decode cX7_convicts 49 = .ok (.iconst 0, 1) := by decide +kernel
theorem dX7_convicts_50 : decode cX7_convicts 50 = .ok (.iastore, 1) := by decide +kernel
theorem dX7_convicts_51 : decode cX7_convicts 51 = .ok (.aload_n 0, 1) := by decide +kernel
theorem dX7_convicts_52 : decode cX7_convicts 52 = .ok (.getfield 22, 3) := by decide +kernel
theorem dX7_convicts_55 : decode cX7_convicts 55 = .ok (.aload_n 0, 1) := by decide +kernel
theorem dX7_convicts_56 : decode cX7_convicts 56 = .ok (.iload_n 1, 1) := by decide +kernel
theorem dX7_convicts_57 : decode cX7_convicts 57 = .ok (.iconst 4, 1) := by decide +kernel
theorem dX7_convicts_58 : decode cX7_convicts 58 = .ok (.invokevirtual 164, 3) := by decide +kernel
theorem dX7_convicts_61 : decode cX7_convicts 61 = .ok (.iaload, 1) := by decide +kernel
theorem dX7_convicts_62 : decode cX7_convicts 62 = .ok (.ifCond .le 22, 3) := by decide +kernel
theorem dX7_convicts_65 : decode cX7_convicts 65 = .ok (.aload_n 0, 1) := by decide +kernel
theorem dX7_convicts_66 : decode cX7_convicts 66 = .ok (.iload_n 2, 1) := by decide +kernel
theorem dX7_convicts_67 : decode cX7_convicts 67 = .ok (.iload_n 3, 1) := by decide +kernel
theorem dX7_convicts_68 : decode cX7_convicts 68 = .ok (.aload_n 0, 1) := by decide +kernel
theorem dX7_convicts_69 : decode cX7_convicts 69 = .ok (.getfield 22, 3) := by decide +kernel
theorem dX7_convicts_72 : decode cX7_convicts 72 = .ok (.aload_n 0, 1) := by decide +kernel
theorem dX7_convicts_73 : decode cX7_convicts 73 = .ok (.iload_n 1, 1) := by decide +kernel
theorem dX7_convicts_74 : decode cX7_convicts 74 = .ok (.iconst 4, 1) := by decide +kernel
theorem dX7_convicts_75 : decode cX7_convicts 75 = .ok (.invokevirtual 164, 3) := by decide +kernel
theorem dX7_convicts_78 : decode cX7_convicts 78 = .ok (.iaload, 1) := by decide +kernel
theorem dX7_convicts_79 : decode cX7_convicts 79 = .ok (.iload_n 1, 1) := by decide +kernel
theorem dX7_convicts_80 : decode cX7_convicts 80 = .ok (.iconst 0, 1) := by decide +kernel
theorem dX7_convicts_81 : decode cX7_convicts 81 = .ok (.invokevirtual 213, 3) := by decide +kernel
theorem dX7_convicts_84 : decode cX7_convicts 84 = .ok (.aload_n 0, 1) := by decide +kernel
theorem dX7_convicts_85 : decode cX7_convicts 85 = .ok (.iload_n 1, 1) := by decide +kernel
theorem dX7_convicts_86 : decode cX7_convicts 86 = .ok (.bipush 6, 2) := by decide +kernel
theorem dX7_convicts_88 : decode cX7_convicts 88 = .ok (.invokevirtual 164, 3) := by decide +kernel
theorem dX7_convicts_91 : decode cX7_convicts 91 = .ok (.iconst 1, 1) := by decide +kernel
theorem dX7_convicts_92 : decode cX7_convicts 92 = .ok (.if_icmp .eq 25, 3) := by decide +kernel
theorem dX7_convicts_95 : decode cX7_convicts 95 = .ok (.aload_n 0, 1) := by decide +kernel
theorem dX7_convicts_96 : decode cX7_convicts 96 = .ok (.iload_n 2, 1) := by decide +kernel
theorem dX7_convicts_97 : decode cX7_convicts 97 = .ok (.aload_n 0, 1) := by decide +kernel
theorem dX7_convicts_98 : decode cX7_convicts 98 = .ok (.iload_n 1, 1) := by decide +kernel
theorem dX7_convicts_99 : decode cX7_convicts 99 = .ok (.iconst 3, 1) := by decide +kernel
theorem dX7_convicts_100 : decode cX7_convicts 100 = .ok (.invokevirtual 164, 3) := by decide +kernel
theorem dX7_convicts_103 : decode cX7_convicts 103 = .ok (.iload_n 1, 1) := by decide +kernel
theorem dX7_convicts_104 : decode cX7_convicts 104 = .ok (.iconst 1, 1) := by decide +kernel
theorem dX7_convicts_105 : decode cX7_convicts 105 = .ok (.iadd, 1) := by decide +kernel
theorem dX7_convicts_106 : decode cX7_convicts 106 = .ok (.invokevirtual 216, 3) := by decide +kernel
theorem dX7_convicts_109 : decode cX7_convicts 109 = .ok (.aload_n 0, 1) := by decide +kernel
theorem dX7_convicts_110 : decode cX7_convicts 110 = .ok (.iconst 1, 1) := by decide +kernel
theorem dX7_convicts_111 : decode cX7_convicts 111 = .ok (.invokevirtual 145, 3) := by decide +kernel
theorem dX7_convicts_114 : decode cX7_convicts 114 = .ok (.if_icmp .ge 4, 3) := by decide +kernel
theorem dX7_convicts_117 : decode cX7_convicts 117 = .ok (.return_, 1) := by decide +kernel
theorem dX7_convicts_118 : decode cX7_convicts 118 = .ok (.aload_n 0, 1) := by decide +kernel
theorem dX7_convicts_119 : decode cX7_convicts 119 = .ok (.iload_n 2, 1) := by decide +kernel
theorem dX7_convicts_120 : decode cX7_convicts 120 = .ok (.iload_n 3, 1) := by decide +kernel
theorem dX7_convicts_121 : decode cX7_convicts 121 = .ok (.invokevirtual 219, 3) := by decide +kernel
theorem dX7_convicts_124 : decode cX7_convicts 124 = .ok (.istore 4, 2) := by decide +kernel
theorem dX7_convicts_126 : decode cX7_convicts 126 = .ok (.aload_n 0, 1) := by decide +kernel
theorem dX7_convicts_127 : decode cX7_convicts 127 = .ok (.iload_n 2, 1) := by decide +kernel
theorem dX7_convicts_128 : decode cX7_convicts 128 = .ok (.aload_n 0, 1) := by decide +kernel
theorem dX7_convicts_129 : decode cX7_convicts 129 = .ok (.iload_n 2, 1) := by decide +kernel
theorem dX7_convicts_130 : decode cX7_convicts 130 = .ok (.iload_n 3, 1) := by decide +kernel
theorem dX7_convicts_131 : decode cX7_convicts 131 = .ok (.invokevirtual 222, 3) := by decide +kernel
theorem dX7_convicts_134 : decode cX7_convicts 134 = .ok (.aload_n 0, 1) := by decide +kernel
theorem dX7_convicts_135 : decode cX7_convicts 135 = .ok (.iconst 2, 1) := by decide +kernel
theorem dX7_convicts_136 : decode cX7_convicts 136 = .ok (.invokevirtual 145, 3) := by decide +kernel
theorem dX7_convicts_139 : decode cX7_convicts 139 = .ok (.iload 4, 2) := by decide +kernel
theorem dX7_convicts_141 : decode cX7_convicts 141 = .ok (.ifCond .ne 7, 3) := by decide +kernel
theorem dX7_convicts_144 : decode cX7_convicts 144 = .ok (.iconst 1, 1) := by decide +kernel
theorem dX7_convicts_145 : decode cX7_convicts 145 = .ok (.goto 14, 3) := by decide +kernel
theorem dX7_convicts_148 : decode cX7_convicts 148 = .ok (.iload 4, 2) := by decide +kernel
theorem dX7_convicts_150 : decode cX7_convicts 150 = .ok (.iconst 1, 1) := by decide +kernel
theorem dX7_convicts_151 : decode cX7_convicts 151 = .ok (.if_icmp .ne 7, 3) := by decide +kernel
theorem dX7_convicts_154 : decode cX7_convicts 154 = .ok (.iconst 2, 1) := by decide +kernel
theorem dX7_convicts_155 : decode cX7_convicts 155 = .ok (.goto 4, 3) := by decide +kernel
theorem dX7_convicts_158 : decode cX7_convicts 158 = .ok (.iconst 4, 1) := by decide +kernel
theorem dX7_convicts_159 : decode cX7_convicts 159 = .ok (.imul, 1) := by decide +kernel
theorem dX7_convicts_160 : decode cX7_convicts 160 = .ok (.iload_n 1, 1) := by decide +kernel
theorem dX7_convicts_161 : decode cX7_convicts 161 = .ok (.iconst 1, 1) := by decide +kernel
theorem dX7_convicts_162 : decode cX7_convicts 162 = .ok (.invokevirtual 213, 3) := by decide +kernel
theorem dX7_convicts_165 : decode cX7_convicts 165 = .ok (.iconst 0, 1) := by decide +kernel
theorem dX7_convicts_166 : decode cX7_convicts 166 = .ok (.istore 5, 2) := by decide +kernel
theorem dX7_convicts_168 : decode cX7_convicts 168 = .ok (.iload 5, 2) := by decide +kernel
theorem dX7_convicts_170 : decode cX7_convicts 170 = .ok (.iload_n 1, 1) := by decide +kernel
theorem dX7_convicts_171 : decode cX7_convicts 171 = .ok (.if_icmp .gt 38, 3) := by decide +kernel
theorem dX7_convicts_174 : decode cX7_convicts 174 = .ok (.aload_n 0, 1) := by decide +kernel
theorem dX7_convicts_175 : decode cX7_convicts 175 = .ok (.getfield 37, 3) := by decide +kernel
theorem dX7_convicts_178 : decode cX7_convicts 178 = .ok (.iload 5, 2) := by decide +kernel
theorem dX7_convicts_180 : decode cX7_convicts 180 = .ok (.aload_n 0, 1) := by decide +kernel
theorem dX7_convicts_181 : decode cX7_convicts 181 = .ok (.iload 5, 2) := by decide +kernel
theorem dX7_convicts_183 : decode cX7_convicts 183 = .ok (.iconst 0, 1) := by decide +kernel
theorem dX7_convicts_184 : decode cX7_convicts 184 = .ok (.invokevirtual 164, 3) := by decide +kernel
theorem dX7_convicts_187 : decode cX7_convicts 187 = .ok (.iload_n 2, 1) := by decide +kernel
theorem dX7_convicts_188 : decode cX7_convicts 188 = .ok (.if_icmp .ne 7, 3) := by decide +kernel
theorem dX7_convicts_191 : decode cX7_convicts 191 = .ok (.iconst 1, 1) := by decide +kernel
theorem dX7_convicts_192 : decode cX7_convicts 192 = .ok (.goto 10, 3) := by decide +kernel
theorem dX7_convicts_195 : decode cX7_convicts 195 = .ok (.aload_n 0, 1) := by decide +kernel
theorem dX7_convicts_196 : decode cX7_convicts 196 = .ok (.getfield 37, 3) := by decide +kernel
theorem dX7_convicts_199 : decode cX7_convicts 199 = .ok (.iload 5, 2) := by decide +kernel
theorem dX7_convicts_201 : decode cX7_convicts 201 = .ok (.iaload, 1) := by decide +kernel
theorem dX7_convicts_202 : decode cX7_convicts 202 = .ok (.iastore, 1) := by decide +kernel
theorem dX7_convicts_203 : decode cX7_convicts 203 = .ok (.iinc 5 1, 3) := by decide +kernel
theorem dX7_convicts_206 : decode cX7_convicts 206 = .ok (.goto (-38), 3) := by decide +kernel
theorem dX7_convicts_209 : decode cX7_convicts 209 = .ok (.return_, 1) := by decide +kernel
theorem dX7_toShorten_0 : decode cX7_toShorten 0 = .ok (.bipush (-4), 2) := by decide +kernel
theorem dX7_toShorten_2 : decode cX7_toShorten 2 = .ok (.istore_n 3, 1) := by decide +kernel
theorem dX7_toShorten_3 : decode cX7_toShorten 3 = .ok (.iconst 0, 1) := by decide +kernel
theorem dX7_toShorten_4 : decode cX7_toShorten 4 = .ok (.istore 4, 2) := by decide +kernel
theorem dX7_toShorten_6 : decode cX7_toShorten 6 = .ok (.iload 4, 2) := by decide +kernel
theorem dX7_toShorten_8 : decode cX7_toShorten 8 = .ok (.aload_n 0, 1) := by decide +kernel
theorem dX7_toShorten_9 : decode cX7_toShorten 9 = .ok (.getfield 199, 3) := by decide +kernel
theorem dX7_toShorten_12 : decode cX7_toShorten 12 = .ok (.if_icmp .ge 76, 3) := by decide +kernel
theorem dX7_toShorten_15 : decode cX7_toShorten 15 = .ok (.aload_n 0, 1) := by decide +kernel
theorem dX7_toShorten_16 : decode cX7_toShorten 16 = .ok (.getfield 43, 3) := by decide +kernel
theorem dX7_toShorten_19 : decode cX7_toShorten 19 = .ok (.iload 4, 2) := by decide +kernel
theorem dX7_toShorten_21 : decode cX7_toShorten 21 = .ok (.iaload, 1) := by decide +kernel
theorem dX7_toShorten_22 : decode cX7_toShorten 22 = .ok (.iload_n 1, 1) := by decide +kernel
theorem dX7_toShorten_23 : decode cX7_toShorten 23 = .ok (.if_icmp .ne 59, 3) := by decide +kernel
theorem dX7_toShorten_26 : decode cX7_toShorten 26 = .ok (.aload_n 0, 1) := by decide +kernel
theorem dX7_toShorten_27 : decode cX7_toShorten 27 = .ok (.getfield 58, 3) := by decide +kernel
theorem dX7_toShorten_30 : decode cX7_toShorten 30 = .ok (.iload 4, 2) := by decide +kernel
theorem dX7_toShorten_32 : decode cX7_toShorten 32 = .ok (.iaload, 1) := by decide +kernel
theorem dX7_toShorten_33 : decode cX7_toShorten 33 = .ok (.ifCond .ne 49, 3) := by decide +kernel
theorem dX7_toShorten_36 : decode cX7_toShorten 36 = .ok (.iload_n 2, 1) := by decide +kernel
theorem dX7_toShorten_37 : decode cX7_toShorten 37 = .ok (.i2l, 1) := by decide +kernel
theorem dX7_toShorten_38 : decode cX7_toShorten 38 = .ok (.aload_n 0, 1) := by decide +kernel
theorem dX7_toShorten_39 : decode cX7_toShorten 39 = .ok (.getfield 46, 3) := by decide +kernel
theorem dX7_toShorten_42 : decode cX7_toShorten 42 = .ok (.iload 4, 2) := by decide +kernel
theorem dX7_toShorten_44 : decode cX7_toShorten 44 = .ok (.iaload, 1) := by decide +kernel
theorem dX7_toShorten_45 : decode cX7_toShorten 45 = .ok (.i2l, 1) := by decide +kernel
theorem dX7_toShorten_46 : decode cX7_toShorten 46 = .ok (.aload_n 0, 1) := by decide +kernel
theorem dX7_toShorten_47 : decode cX7_toShorten 47 = .ok (.iload 4, 2) := by decide +kernel
theorem dX7_toShorten_49 : decode cX7_toShorten 49 = .ok (.invokevirtual 202, 3) := by decide +kernel
theorem dX7_toShorten_52 : decode cX7_toShorten 52 = .ok (.i2l, 1) := by decide +kernel
theorem dX7_toShorten_53 : decode cX7_toShorten 53 = .ok (.invokestatic 79, 3) := by decide +kernel
theorem dX7_toShorten_56 : decode cX7_toShorten 56 = .ok (.ifCond .eq 26, 3) := by decide +kernel
theorem dX7_toShorten_59 : decode cX7_toShorten 59 = .ok (.iload_n 3, 1) := by decide +kernel
theorem dX7_toShorten_60 : decode cX7_toShorten 60 = .ok (.bipush (-4), 2) := by decide +kernel
theorem dX7_toShorten_62 : decode cX7_toShorten 62 = .ok (.if_icmp .eq 17, 3) := by decide +kernel
theorem dX7_toShorten_65 : decode cX7_toShorten 65 = .ok (.aload_n 0, 1) := by decide +kernel
theorem dX7_toShorten_66 : decode cX7_toShorten 66 = .ok (.iload 4, 2) := by decide +kernel
theorem dX7_toShorten_68 : decode cX7_toShorten 68 = .ok (.invokevirtual 202, 3) := by decide +kernel
theorem dX7_toShorten_71 : decode cX7_toShorten 71 = .ok (.aload_n 0, 1) := by decide +kernel
theorem dX7_toShorten_72 : decode cX7_toShorten 72 = .ok (.iload_n 3, 1) := by decide +kernel
theorem dX7_toShorten_73 : decode cX7_toShorten 73 = .ok (.invokevirtual 202, 3) := by decide +kernel
theorem dX7_toShorten_76 : decode cX7_toShorten 76 = .ok (.if_icmp .lt 6, 3) := by decide +kernel
theorem dX7_toShorten_79 : decode cX7_toShorten 79 = .ok (.iload 4, 2) := by decide +kernel
theorem dX7_toShorten_81 : decode cX7_toShorten 81 = .ok (.istore_n 3, 1) := by decide +kernel
theorem dX7_toShorten_82 : decode cX7_toShorten 82 = .ok (.iinc 4 1, 3) := by decide +kernel
theorem dX7_toShorten_85 : decode cX7_toShorten 85 = .ok (.goto (-79), 3) := by decide +kernel
theorem dX7_toShorten_88 : decode cX7_toShorten 88 = .ok (.iload_n 3, 1) := by decide +kernel
theorem dX7_toShorten_89 : decode cX7_toShorten 89 = .ok (.ireturn, 1) := by decide +kernel
theorem dX7_shortens_0 : decode cX7_shortens 0 = .ok (.aload_n 0, 1) := by decide +kernel
theorem dX7_shortens_1 : decode cX7_shortens 1 = .ok (.iload_n 1, 1) := by decide +kernel
theorem dX7_shortens_2 : decode cX7_shortens 2 = .ok (.iconst 1, 1) := by decide +kernel
theorem dX7_shortens_3 : decode cX7_shortens 3 = .ok (.invokevirtual 164, 3) := by decide +kernel
theorem dX7_shortens_6 : decode cX7_shortens 6 = .ok (.istore_n 2, 1) := by decide +kernel
theorem dX7_shortens_7 : decode cX7_shortens 7 = .ok (.aload_n 0, 1) := by decide +kernel
theorem dX7_shortens_8 : decode cX7_shortens 8 = .ok (.aload_n 0, 1) := by decide +kernel
theorem dX7_shortens_9 : decode cX7_shortens 9 = .ok (.iload_n 1, 1) := by decide +kernel
theorem dX7_shortens_10 : decode cX7_shortens 10 = .ok (.iconst 0, 1) := by decide +kernel
theorem dX7_shortens_11 : decode cX7_shortens 11 = .ok (.invokevirtual 164, 3) := by decide +kernel
theorem dX7_shortens_14 : decode cX7_shortens 14 = .ok (.iload_n 2, 1) := by decide +kernel
theorem dX7_shortens_15 : decode cX7_shortens 15 = .ok (.invokevirtual 173, 3) := by decide +kernel
theorem dX7_shortens_18 : decode cX7_shortens 18 = .ok (.istore_n 3, 1) := by decide +kernel
theorem dX7_shortens_19 : decode cX7_shortens 19 = .ok (.aload_n 0, 1) := by decide +kernel
theorem dX7_shortens_20 : decode cX7_shortens 20 = .ok (.getfield 40, 3) := by decide +kernel
theorem dX7_shortens_23 : decode cX7_shortens 23 = .ok (.iload_n 1, 1) := by decide +kernel
theorem dX7_shortens_24 : decode cX7_shortens 24 = .ok (.iload_n 3, 1) := by decide +kernel
theorem dX7_shortens_25 : decode cX7_shortens 25 = .ok (.bipush (-4), 2) := by decide +kernel
theorem dX7_shortens_27 : decode cX7_shortens 27 = .ok (.if_icmp .ne 7, 3) := by decide +kernel
theorem dX7_shortens_30 : decode cX7_shortens 30 = .ok (.iconst 1, 1) := by decide +kernel
theorem dX7_shortens_31 : decode cX7_shortens 31 = .ok (.goto 4, 3) := by decide +kernel
theorem dX7_shortens_34 : decode cX7_shortens 34 = .ok (.iconst 0, 1) := by decide +kernel
theorem dX7_shortens_35 : decode cX7_shortens 35 = .ok (.iastore, 1) := by decide +kernel
theorem dX7_shortens_36 : decode cX7_shortens 36 = .ok (.iload_n 3, 1) := by decide +kernel
theorem dX7_shortens_37 : decode cX7_shortens 37 = .ok (.bipush (-4), 2) := by decide +kernel
theorem dX7_shortens_39 : decode cX7_shortens 39 = .ok (.if_icmp .eq 59, 3) := by decide +kernel
theorem dX7_shortens_42 : decode cX7_shortens 42 = .ok (.aload_n 0, 1) := by decide +kernel
theorem dX7_shortens_43 : decode cX7_shortens 43 = .ok (.getfield 49, 3) := by decide +kernel
theorem dX7_shortens_46 : decode cX7_shortens 46 = .ok (.iload_n 3, 1) := by decide +kernel
theorem dX7_shortens_47 : decode cX7_shortens 47 = .ok (.iaload, 1) := by decide +kernel
theorem dX7_shortens_48 : decode cX7_shortens 48 = .ok (.aload_n 0, 1) := by decide +kernel
theorem dX7_shortens_49 : decode cX7_shortens 49 = .ok (.getfield 49, 3) := by decide +kernel
theorem dX7_shortens_52 : decode cX7_shortens 52 = .ok (.iload_n 3, 1) := by decide +kernel
theorem dX7_shortens_53 : decode cX7_shortens 53 = .ok (.iaload, 1) := by decide +kernel
theorem dX7_shortens_54 : decode cX7_shortens 54 = .ok (.iconst 4, 1) := by decide +kernel
theorem dX7_shortens_55 : decode cX7_shortens 55 = .ok (.idiv, 1) := by decide +kernel
theorem dX7_shortens_56 : decode cX7_shortens 56 = .ok (.isub, 1) := by decide +kernel
theorem dX7_shortens_57 : decode cX7_shortens 57 = .ok (.istore 4, 2) := by decide +kernel
theorem dX7_shortens_59 : decode cX7_shortens 59 = .ok (.iload_n 2, 1) := by decide +kernel
theorem dX7_shortens_60 : decode cX7_shortens 60 = .ok (.aload_n 0, 1) := by decide +kernel
theorem dX7_shortens_61 : decode cX7_shortens 61 = .ok (.getfield 46, 3) := by decide +kernel
theorem dX7_shortens_64 : decode cX7_shortens 64 = .ok (.iload_n 3, 1) := by decide +kernel
theorem dX7_shortens_65 : decode cX7_shortens 65 = .ok (.iaload, 1) := by decide +kernel
theorem dX7_shortens_66 : decode cX7_shortens 66 = .ok (.isub, 1) := by decide +kernel
theorem dX7_shortens_67 : decode cX7_shortens 67 = .ok (.iconst 1, 1) := by decide +kernel
theorem dX7_shortens_68 : decode cX7_shortens 68 = .ok (.iadd, 1) := by decide +kernel
theorem dX7_shortens_69 : decode cX7_shortens 69 = .ok (.istore 5, 2) := by decide +kernel
theorem dX7_shortens_71 : decode cX7_shortens 71 = .ok (.aload_n 0, 1) := by decide +kernel
theorem dX7_shortens_72 : decode cX7_shortens 72 = .ok (.getfield 49, 3) := by decide +kernel
theorem dX7_shortens_75 : decode cX7_shortens 75 = .ok (.iload_n 3, 1) := by decide +kernel
theorem dX7_shortens_76 : decode cX7_shortens 76 = .ok (.iload 4, 2) := by decide +kernel
theorem dX7_shortens_78 : decode cX7_shortens 78 = .ok (.iload 5, 2) := by decide +kernel
theorem dX7_shortens_80 : decode cX7_shortens 80 = .ok (.if_icmp .ge 8, 3) := by decide +kernel
theorem dX7_shortens_83 : decode cX7_shortens 83 = .ok (.iload 5, 2) := by decide +kernel
theorem dX7_shortens_85 : decode cX7_shortens 85 = .ok (.goto 5, 3) := by decide +kernel
theorem dX7_shortens_88 : decode cX7_shortens 88 = .ok (.iload 4, 2) := by decide +kernel
theorem dX7_shortens_90 : decode cX7_shortens 90 = .ok (.iastore, 1) := by decide +kernel
theorem dX7_shortens_91 : decode cX7_shortens 91 = .ok (.aload_n 0, 1) := by decide +kernel
theorem dX7_shortens_92 : decode cX7_shortens 92 = .ok (.getfield 58, 3) := by decide +kernel
theorem dX7_shortens_95 : decode cX7_shortens 95 = .ok (.iload_n 3, 1) := by decide +kernel
theorem dX7_shortens_96 : decode cX7_shortens 96 = .ok (.iconst 1, 1) := by decide +kernel
theorem dX7_shortens_97 : decode cX7_shortens 97 = .ok (.iastore, 1) := by decide +kernel
theorem dX7_shortens_98 : decode cX7_shortens 98 = .ok (.return_, 1) := by decide +kernel
theorem dX7_reckon_0 : decode cX7_reckon 0 = .ok (.aload_n 0, 1) := by decide +kernel
theorem dX7_reckon_1 : decode cX7_reckon 1 = .ok (.iconst 0, 1) := by decide +kernel
theorem dX7_reckon_2 : decode cX7_reckon 2 = .ok (.putfield 199, 3) := by decide +kernel
theorem dX7_reckon_5 : decode cX7_reckon 5 = .ok (.iconst 0, 1) := by decide +kernel
theorem dX7_reckon_6 : decode cX7_reckon 6 = .ok (.istore_n 1, 1) := by decide +kernel
theorem dX7_reckon_7 : decode cX7_reckon 7 = .ok (.iload_n 1, 1) := by decide +kernel
theorem dX7_reckon_8 : decode cX7_reckon 8 = .ok (.aload_n 0, 1) := by decide +kernel
theorem dX7_reckon_9 : decode cX7_reckon 9 = .ok (.getfield 13, 3) := by decide +kernel
theorem dX7_reckon_12 : decode cX7_reckon 12 = .ok (.sipush 334, 3) := by decide +kernel
theorem dX7_reckon_15 : decode cX7_reckon 15 = .ok (.iaload, 1) := by decide +kernel
theorem dX7_reckon_16 : decode cX7_reckon 16 = .ok (.if_icmp .ge 30, 3) := by decide +kernel
theorem dX7_reckon_19 : decode cX7_reckon 19 = .ok (.aload_n 0, 1) := by decide +kernel
theorem dX7_reckon_20 : decode cX7_reckon 20 = .ok (.getfield 34, 3) := by decide +kernel
theorem dX7_reckon_23 : decode cX7_reckon 23 = .ok (.iload_n 1, 1) := by decide +kernel
theorem dX7_reckon_24 : decode cX7_reckon 24 = .ok (.iconst 0, 1) := by decide +kernel
theorem dX7_reckon_25 : decode cX7_reckon 25 = .ok (.iastore, 1) := by decide +kernel
theorem dX7_reckon_26 : decode cX7_reckon 26 = .ok (.aload_n 0, 1) := by decide +kernel
theorem dX7_reckon_27 : decode cX7_reckon 27 = .ok (.getfield 37, 3) := by decide +kernel
theorem dX7_reckon_30 : decode cX7_reckon 30 = .ok (.iload_n 1, 1) := by decide +kernel
theorem dX7_reckon_31 : decode cX7_reckon 31 = .ok (.iconst 0, 1) := by decide +kernel
theorem dX7_reckon_32 : decode cX7_reckon 32 = .ok (.iastore, 1) := by decide +kernel
theorem dX7_reckon_33 : decode cX7_reckon 33 = .ok (.aload_n 0, 1) := by decide +kernel
theorem dX7_reckon_34 : decode cX7_reckon 34 = .ok (.getfield 40, 3) := by decide +kernel
theorem dX7_reckon_37 : decode cX7_reckon 37 = .ok (.iload_n 1, 1) := by decide +kernel
theorem dX7_reckon_38 : decode cX7_reckon 38 = .ok (.iconst 0, 1) := by decide +kernel
theorem dX7_reckon_39 : decode cX7_reckon 39 = .ok (.iastore, 1) := by decide +kernel
theorem dX7_reckon_40 : decode cX7_reckon 40 = .ok (.iinc 1 1, 3) := by decide +kernel
theorem dX7_reckon_43 : decode cX7_reckon 43 = .ok (.goto (-36), 3) := by decide +kernel
theorem dX7_reckon_46 : decode cX7_reckon 46 = .ok (.iconst 0, 1) := by decide +kernel
theorem dX7_reckon_47 : decode cX7_reckon 47 = .ok (.istore_n 1, 1) := by decide +kernel
theorem dX7_reckon_48 : decode cX7_reckon 48 = .ok (.iload_n 1, 1) := by decide +kernel
theorem dX7_reckon_49 : decode cX7_reckon 49 = .ok (.aload_n 0, 1) := by decide +kernel
theorem dX7_reckon_50 : decode cX7_reckon 50 = .ok (.getfield 13, 3) := by decide +kernel
theorem dX7_reckon_53 : decode cX7_reckon 53 = .ok (.sipush 334, 3) := by decide +kernel
theorem dX7_reckon_56 : decode cX7_reckon 56 = .ok (.iaload, 1) := by decide +kernel
theorem dX7_reckon_57 : decode cX7_reckon 57 = .ok (.if_icmp .ge 38, 3) := by decide +kernel
theorem dX7_reckon_60 : decode cX7_reckon 60 = .ok (.aload_n 0, 1) := by decide +kernel
theorem dX7_reckon_61 : decode cX7_reckon 61 = .ok (.iload_n 1, 1) := by decide +kernel
theorem dX7_reckon_62 : decode cX7_reckon 62 = .ok (.iconst 2, 1) := by decide +kernel
theorem dX7_reckon_63 : decode cX7_reckon 63 = .ok (.invokevirtual 164, 3) := by decide +kernel
theorem dX7_reckon_66 : decode cX7_reckon 66 = .ok (.ifCond .ne 8, 3) := by decide +kernel
theorem dX7_reckon_69 : decode cX7_reckon 69 = .ok (.aload_n 0, 1) := by decide +kernel
theorem dX7_reckon_70 : decode cX7_reckon 70 = .ok (.iload_n 1, 1) := by decide +kernel
theorem dX7_reckon_71 : decode cX7_reckon 71 = .ok (.invokevirtual 225, 3) := by decide +kernel
theorem dX7_reckon_74 : decode cX7_reckon 74 = .ok (.aload_n 0, 1) := by decide +kernel
theorem dX7_reckon_75 : decode cX7_reckon 75 = .ok (.iload_n 1, 1) := by decide +kernel
theorem dX7_reckon_76 : decode cX7_reckon 76 = .ok (.iconst 2, 1) := by decide +kernel
theorem dX7_reckon_77 : decode cX7_reckon 77 = .ok (.invokevirtual 164, 3) := by decide +kernel
theorem dX7_reckon_80 : decode cX7_reckon 80 = .ok (.iconst 2, 1) := by decide +kernel
theorem dX7_reckon_81 : decode cX7_reckon 81 = .ok (.if_icmp .ne 8, 3) := by decide +kernel
theorem dX7_reckon_84 : decode cX7_reckon 84 = .ok (.aload_n 0, 1) := by decide +kernel
theorem dX7_reckon_85 : decode cX7_reckon 85 = .ok (.iload_n 1, 1) := by decide +kernel
theorem dX7_reckon_86 : decode cX7_reckon 86 = .ok (.invokevirtual 229, 3) := by decide +kernel
theorem dX7_reckon_89 : decode cX7_reckon 89 = .ok (.iinc 1 1, 3) := by decide +kernel
theorem dX7_reckon_92 : decode cX7_reckon 92 = .ok (.goto (-44), 3) := by decide +kernel
theorem dX7_reckon_95 : decode cX7_reckon 95 = .ok (.return_, 1) := by decide +kernel
theorem dX7_know_0 : decode cX7_know 0 = .ok (.aload_n 0, 1) := by decide +kernel
theorem dX7_know_1 : decode cX7_know 1 = .ok (.getfield 133, 3) := by decide +kernel
theorem dX7_know_4 : decode cX7_know 4 = .ok (.ifCond .ne 12, 3) := by decide +kernel
theorem dX7_know_7 : decode cX7_know 7 = .ok (.aload_n 0, 1) := by decide +kernel
theorem dX7_know_8 : decode cX7_know 8 = .ok (.invokevirtual 232, 3) := by decide +kernel
theorem dX7_know_11 : decode cX7_know 11 = .ok (.aload_n 0, 1) := by decide +kernel
theorem dX7_know_12 : decode cX7_know 12 = .ok (.iconst 1, 1) := by decide +kernel
theorem dX7_know_13 : decode cX7_know 13 = .ok (.putfield 133, 3) := by decide +kernel
theorem dX7_know_16 : decode cX7_know 16 = .ok (.return_, 1) := by decide +kernel
theorem dX7_daysFrom_0 : decode cX7_daysFrom 0 = .ok (.iconst 0, 1) := by decide +kernel
theorem dX7_daysFrom_1 : decode cX7_daysFrom 1 = .ok (.istore 4, 2) := by decide +kernel
theorem dX7_daysFrom_3 : decode cX7_daysFrom 3 = .ok (.iload_n 2, 1) := by decide +kernel
theorem dX7_daysFrom_4 : decode cX7_daysFrom 4 = .ok (.istore 5, 2) := by decide +kernel
theorem dX7_daysFrom_6 : decode cX7_daysFrom 6 = .ok (.iload 5, 2) := by decide +kernel
theorem dX7_daysFrom_8 : decode cX7_daysFrom 8 = .ok (.iload_n 3, 1) := by decide +kernel
theorem dX7_daysFrom_9 : decode cX7_daysFrom 9 = .ok (.if_icmp .gt 29, 3) := by decide +kernel
theorem dX7_daysFrom_12 : decode cX7_daysFrom 12 = .ok (.iload 4, 2) := by decide +kernel
theorem dX7_daysFrom_14 : decode cX7_daysFrom 14 = .ok (.aload_n 0, 1) := by decide +kernel
theorem dX7_daysFrom_15 : decode cX7_daysFrom 15 = .ok (.iload_n 1, 1) := by decide +kernel
theorem dX7_daysFrom_16 : decode cX7_daysFrom 16 = .ok (.iload 5, 2) := by decide +kernel
theorem dX7_daysFrom_18 : decode cX7_daysFrom 18 = .ok (.invokevirtual 209, 3) := by decide +kernel
theorem dX7_daysFrom_21 : decode cX7_daysFrom 21 = .ok (.ifCond .eq 7, 3) := by decide +kernel
theorem dX7_daysFrom_24 : decode cX7_daysFrom 24 = .ok (.iconst 1, 1) := by decide +kernel
theorem dX7_daysFrom_25 : decode cX7_daysFrom 25 = .ok (.goto 4, 3) := by decide +kernel
theorem dX7_daysFrom_28 : decode cX7_daysFrom 28 = .ok (.iconst 0, 1) := by decide +kernel
theorem dX7_daysFrom_29 : decode cX7_daysFrom 29 = .ok (.iadd, 1) := by decide +kernel
theorem dX7_daysFrom_30 : decode cX7_daysFrom 30 = .ok (.istore 4, 2) := by decide +kernel
theorem dX7_daysFrom_32 : decode cX7_daysFrom 32 = .ok (.iinc 5 1, 3) := by decide +kernel
theorem dX7_daysFrom_35 : decode cX7_daysFrom 35 = .ok (.goto (-29), 3) := by decide +kernel
theorem dX7_daysFrom_38 : decode cX7_daysFrom 38 = .ok (.iload 4, 2) := by decide +kernel
theorem dX7_daysFrom_40 : decode cX7_daysFrom 40 = .ok (.ireturn, 1) := by decide +kernel
theorem dX7_endOf_0 : decode cX7_endOf 0 = .ok (.iconst (-1), 1) := by decide +kernel
theorem dX7_endOf_1 : decode cX7_endOf 1 = .ok (.istore_n 2, 1) := by decide +kernel
theorem dX7_endOf_2 : decode cX7_endOf 2 = .ok (.iconst 0, 1) := by decide +kernel
theorem dX7_endOf_3 : decode cX7_endOf 3 = .ok (.istore_n 3, 1) := by decide +kernel
theorem dX7_endOf_4 : decode cX7_endOf 4 = .ok (.iload_n 3, 1) := by decide +kernel
theorem dX7_endOf_5 : decode cX7_endOf 5 = .ok (.aload_n 0, 1) := by decide +kernel
theorem dX7_endOf_6 : decode cX7_endOf 6 = .ok (.getfield 199, 3) := by decide +kernel
theorem dX7_endOf_9 : decode cX7_endOf 9 = .ok (.if_icmp .ge 38, 3) := by decide +kernel
theorem dX7_endOf_12 : decode cX7_endOf 12 = .ok (.aload_n 0, 1) := by decide +kernel
theorem dX7_endOf_13 : decode cX7_endOf 13 = .ok (.getfield 43, 3) := by decide +kernel
theorem dX7_endOf_16 : decode cX7_endOf 16 = .ok (.iload_n 3, 1) := by decide +kernel
theorem dX7_endOf_17 : decode cX7_endOf 17 = .ok (.iaload, 1) := by decide +kernel
theorem dX7_endOf_18 : decode cX7_endOf 18 = .ok (.iload_n 1, 1) := by decide +kernel
theorem dX7_endOf_19 : decode cX7_endOf 19 = .ok (.if_icmp .ne 20, 3) := by decide +kernel
theorem dX7_endOf_22 : decode cX7_endOf 22 = .ok (.aload_n 0, 1) := by decide +kernel
theorem dX7_endOf_23 : decode cX7_endOf 23 = .ok (.iload_n 3, 1) := by decide +kernel
theorem dX7_endOf_24 : decode cX7_endOf 24 = .ok (.invokevirtual 202, 3) := by decide +kernel
theorem dX7_endOf_27 : decode cX7_endOf 27 = .ok (.iload_n 2, 1) := by decide +kernel
theorem dX7_endOf_28 : decode cX7_endOf 28 = .ok (.if_icmp .le 11, 3) := by decide +kernel
theorem dX7_endOf_31 : decode cX7_endOf 31 = .ok (.aload_n 0, 1) := by decide +kernel
theorem dX7_endOf_32 : decode cX7_endOf 32 = .ok (.iload_n 3, 1) := by decide +kernel
theorem dX7_endOf_33 : decode cX7_endOf 33 = .ok (.invokevirtual 202, 3) := by decide +kernel
theorem dX7_endOf_36 : decode cX7_endOf 36 = .ok (.goto 4, 3) := by decide +kernel
theorem dX7_endOf_39 : decode cX7_endOf 39 = .ok (.iload_n 2, 1) := by decide +kernel
theorem dX7_endOf_40 : decode cX7_endOf 40 = .ok (.istore_n 2, 1) := by decide +kernel
theorem dX7_endOf_41 : decode cX7_endOf 41 = .ok (.iinc 3 1, 3) := by decide +kernel
theorem dX7_endOf_44 : decode cX7_endOf 44 = .ok (.goto (-40), 3) := by decide +kernel
theorem dX7_endOf_47 : decode cX7_endOf 47 = .ok (.iload_n 2, 1) := by decide +kernel
theorem dX7_endOf_48 : decode cX7_endOf 48 = .ok (.ireturn, 1) := by decide +kernel
theorem dX7_daysOf_0 : decode cX7_daysOf 0 = .ok (.aload_n 0, 1) := by decide +kernel
theorem dX7_daysOf_1 : decode cX7_daysOf 1 = .ok (.invokevirtual 167, 3) := by decide +kernel
theorem dX7_daysOf_4 : decode cX7_daysOf 4 = .ok (.aload_n 0, 1) := by decide +kernel
theorem dX7_daysOf_5 : decode cX7_daysOf 5 = .ok (.iload_n 1, 1) := by decide +kernel
theorem dX7_daysOf_6 : decode cX7_daysOf 6 = .ok (.iconst 0, 1) := by decide +kernel
theorem dX7_daysOf_7 : decode cX7_daysOf 7 = .ok (.aload_n 0, 1) := by decide +kernel
theorem dX7_daysOf_8 : decode cX7_daysOf 8 = .ok (.iload_n 1, 1) := by decide +kernel
theorem dX7_daysOf_9 : decode cX7_daysOf 9 = .ok (.invokevirtual 235, 3) := by decide +kernel
theorem dX7_daysOf_12 : decode cX7_daysOf 12 = .ok (.invokevirtual 238, 3) := by decide +kernel
theorem dX7_daysOf_15 : decode cX7_daysOf 15 = .ok (.ireturn, 1) := by decide +kernel
theorem dX7_event_0 : decode cX7_event 0 = .ok (.aload_n 0, 1) := by decide +kernel
theorem dX7_event_1 : decode cX7_event 1 = .ok (.iload_n 1, 1) := by decide +kernel
theorem dX7_event_2 : decode cX7_event 2 = .ok (.invokevirtual 176, 3) := by decide +kernel
theorem dX7_event_5 : decode cX7_event 5 = .ok (.ifCond .eq 15, 3) := by decide +kernel
theorem dX7_event_8 : decode cX7_event 8 = .ok (.iload_n 2, 1) := by decide +kernel
theorem dX7_event_9 : decode cX7_event 9 = .ok (.i2l, 1) := by decide +kernel
theorem dX7_event_10 : decode cX7_event 10 = .ok (.lconst 0, 1) := by decide +kernel
theorem dX7_event_11 : decode cX7_event 11 = .ok (.ldc2_w 241, 3) := by decide +kernel
theorem dX7_event_14 : decode cX7_event 14 = .ok (.invokestatic 79, 3) := by decide +kernel
theorem dX7_event_17 : decode cX7_event 17 = .ok (.ifCond .ne 5, 3) := by decide +kernel
theorem dX7_event_20 : decode cX7_event 20 = .ok (.iconst (-1), 1) := by decide +kernel
theorem dX7_event_21 : decode cX7_event 21 = .ok (.ireturn, 1) := by decide +kernel
theorem dX7_event_22 : decode cX7_event 22 = .ok (.aload_n 0, 1) := by decide +kernel
theorem dX7_event_23 : decode cX7_event 23 = .ok (.invokevirtual 167, 3) := by decide +kernel
theorem dX7_event_26 : decode cX7_event 26 = .ok (.iload_n 2, 1) := by decide +kernel
theorem dX7_event_27 : decode cX7_event 27 = .ok (.iconst 3, 1) := by decide +kernel
theorem dX7_event_28 : decode cX7_event 28 = .ok (.if_icmp .ge 10, 3) := by decide +kernel
theorem dX7_event_31 : decode cX7_event 31 = .ok (.aload_n 0, 1) := by decide +kernel
theorem dX7_event_32 : decode cX7_event 32 = .ok (.iload_n 1, 1) := by decide +kernel
theorem dX7_event_33 : decode cX7_event 33 = .ok (.iload_n 2, 1) := by decide +kernel
theorem dX7_event_34 : decode cX7_event 34 = .ok (.invokevirtual 164, 3) := by decide +kernel
theorem dX7_event_37 : decode cX7_event 37 = .ok (.ireturn, 1) := by decide +kernel
theorem dX7_event_38 : decode cX7_event 38 = .ok (.iload_n 2, 1) := by decide +kernel
theorem dX7_event_39 : decode cX7_event 39 = .ok (.bipush 9, 2) := by decide +kernel
theorem dX7_event_41 : decode cX7_event 41 = .ok (.if_icmp .ne 10, 3) := by decide +kernel
theorem dX7_event_44 : decode cX7_event 44 = .ok (.aload_n 0, 1) := by decide +kernel
theorem dX7_event_45 : decode cX7_event 45 = .ok (.getfield 37, 3) := by decide +kernel
theorem dX7_event_48 : decode cX7_event 48 = .ok (.iload_n 1, 1) := by decide +kernel
theorem dX7_event_49 : decode cX7_event 49 = .ok (.iaload, 1) := by decide +kernel
theorem dX7_event_50 : decode cX7_event 50 = .ok (.ireturn, 1) := by decide +kernel
theorem dX7_event_51 : decode cX7_event 51 = .ok (.aload_n 0, 1) := by decide +kernel
theorem dX7_event_52 : decode cX7_event 52 = .ok (.iload_n 1, 1) := by decide +kernel
theorem dX7_event_53 : decode cX7_event 53 = .ok (.iconst 2, 1) := by decide +kernel
theorem dX7_event_54 : decode cX7_event 54 = .ok (.invokevirtual 164, 3) := by decide +kernel
theorem dX7_event_57 : decode cX7_event 57 = .ok (.iload_n 2, 1) := by decide +kernel
theorem dX7_event_58 : decode cX7_event 58 = .ok (.bipush 10, 2) := by decide +kernel
theorem dX7_event_60 : decode cX7_event 60 = .ok (.if_icmp .ne 7, 3) := by decide +kernel
theorem dX7_event_63 : decode cX7_event 63 = .ok (.iconst 2, 1) := by decide +kernel
theorem dX7_event_64 : decode cX7_event 64 = .ok (.goto 4, 3) := by decide +kernel
theorem dX7_event_67 : decode cX7_event 67 = .ok (.iconst 0, 1) := by decide +kernel
theorem dX7_event_68 : decode cX7_event 68 = .ok (.if_icmp .eq 6, 3) := by decide +kernel
theorem dX7_event_71 : decode cX7_event 71 = .ok (.bipush (-4), 2) := by decide +kernel
theorem dX7_event_73 : decode cX7_event 73 = .ok (.ireturn, 1) := by decide +kernel
theorem dX7_event_74 : decode cX7_event 74 = .ok (.iload_n 2, 1) := by decide +kernel
theorem dX7_event_75 : decode cX7_event 75 = .ok (.bipush 10, 2) := by decide +kernel
theorem dX7_event_77 : decode cX7_event 77 = .ok (.if_icmp .ne 12, 3) := by decide +kernel
theorem dX7_event_80 : decode cX7_event 80 = .ok (.aload_n 0, 1) := by decide +kernel
theorem dX7_event_81 : decode cX7_event 81 = .ok (.getfield 40, 3) := by decide +kernel
theorem dX7_event_84 : decode cX7_event 84 = .ok (.iload_n 1, 1) := by decide +kernel
theorem dX7_event_85 : decode cX7_event 85 = .ok (.iaload, 1) := by decide +kernel
theorem dX7_event_86 : decode cX7_event 86 = .ok (.goto 24, 3) := by decide +kernel
theorem dX7_event_89 : decode cX7_event 89 = .ok (.iload_n 2, 1) := by decide +kernel
theorem dX7_event_90 : decode cX7_event 90 = .ok (.bipush 8, 2) := by decide +kernel
theorem dX7_event_92 : decode cX7_event 92 = .ok (.if_icmp .ne 12, 3) := by decide +kernel
theorem dX7_event_95 : decode cX7_event 95 = .ok (.aload_n 0, 1) := by decide +kernel
theorem dX7_event_96 : decode cX7_event 96 = .ok (.getfield 34, 3) := by decide +kernel
theorem dX7_event_99 : decode cX7_event 99 = .ok (.iload_n 1, 1) := by decide +kernel
theorem dX7_event_100 : decode cX7_event 100 = .ok (.iaload, 1) := by decide +kernel
theorem dX7_event_101 : decode cX7_event 101 = .ok (.goto 9, 3) := by decide +kernel
theorem dX7_event_104 : decode cX7_event 104 = .ok (.aload_n 0, 1) := by decide +kernel
theorem dX7_event_105 : decode cX7_event 105 = .ok (.iload_n 1, 1) := by decide +kernel
theorem dX7_event_106 : decode cX7_event 106 = .ok (.iload_n 2, 1) := by decide +kernel
theorem dX7_event_107 : decode cX7_event 107 = .ok (.invokevirtual 164, 3) := by decide +kernel
theorem dX7_event_110 : decode cX7_event 110 = .ok (.ireturn, 1) := by decide +kernel
theorem dX7_sum_0 : decode cX7_sum 0 = .ok (.iload_n 1, 1) := by decide +kernel
theorem dX7_sum_1 : decode cX7_sum 1 = .ok (.invokestatic 157, 3) := by decide +kernel
theorem dX7_sum_4 : decode cX7_sum 4 = .ok (.ifCond .eq 15, 3) := by decide +kernel
theorem dX7_sum_7 : decode cX7_sum 7 = .ok (.iload_n 2, 1) := by decide +kernel
theorem dX7_sum_8 : decode cX7_sum 8 = .ok (.i2l, 1) := by decide +kernel
theorem dX7_sum_9 : decode cX7_sum 9 = .ok (.lconst 0, 1) := by decide +kernel
theorem dX7_sum_10 : decode cX7_sum 10 = .ok (.ldc2_w 155, 3) := by decide +kernel
theorem dX7_sum_13 : decode cX7_sum 13 = .ok (.invokestatic 79, 3) := by decide +kernel
theorem dX7_sum_16 : decode cX7_sum 16 = .ok (.ifCond .ne 5, 3) := by decide +kernel
theorem dX7_sum_19 : decode cX7_sum 19 = .ok (.iconst (-1), 1) := by decide +kernel
theorem dX7_sum_20 : decode cX7_sum 20 = .ok (.ireturn, 1) := by decide +kernel
theorem dX7_sum_21 : decode cX7_sum 21 = .ok (.aload_n 0, 1) := by decide +kernel
theorem dX7_sum_22 : decode cX7_sum 22 = .ok (.invokevirtual 167, 3) := by decide +kernel
theorem dX7_sum_25 : decode cX7_sum 25 = .ok (.aload_n 0, 1) := by decide +kernel
theorem dX7_sum_26 : decode cX7_sum 26 = .ok (.iload_n 1, 1) := by decide +kernel
theorem dX7_sum_27 : decode cX7_sum 27 = .ok (.iload_n 2, 1) := by decide +kernel
theorem dX7_sum_28 : decode cX7_sum 28 = .ok (.aload_n 0, 1) := by decide +kernel
theorem dX7_sum_29 : decode cX7_sum 29 = .ok (.getfield 13, 3) := by decide +kernel
theorem dX7_sum_32 : decode cX7_sum 32 = .ok (.sipush 334, 3) := by decide +kernel
theorem dX7_sum_35 : decode cX7_sum 35 = .ok (.iaload, 1) := by decide +kernel
theorem dX7_sum_36 : decode cX7_sum 36 = .ok (.invokevirtual 216, 3) := by decide +kernel
theorem dX7_sum_39 : decode cX7_sum 39 = .ok (.istore_n 3, 1) := by decide +kernel
theorem dX7_sum_40 : decode cX7_sum 40 = .ok (.iload_n 3, 1) := by decide +kernel
theorem dX7_sum_41 : decode cX7_sum 41 = .ok (.ifCond .ge 7, 3) := by decide +kernel
theorem dX7_sum_44 : decode cX7_sum 44 = .ok (.iconst 0, 1) := by decide +kernel
theorem dX7_sum_45 : decode cX7_sum 45 = .ok (.goto 4, 3) := by decide +kernel
theorem dX7_sum_48 : decode cX7_sum 48 = .ok (.iload_n 3, 1) := by decide +kernel
theorem dX7_sum_49 : decode cX7_sum 49 = .ok (.ireturn, 1) := by decide +kernel
theorem dX7_need_0 : decode cX7_need 0 = .ok (.iload_n 1, 1) := by decide +kernel
theorem dX7_need_1 : decode cX7_need 1 = .ok (.invokestatic 157, 3) := by decide +kernel
theorem dX7_need_4 : decode cX7_need 4 = .ok (.ifCond .ne 5, 3) := by decide +kernel
theorem dX7_need_7 : decode cX7_need 7 = .ok (.iconst (-1), 1) := by decide +kernel
theorem dX7_need_8 : decode cX7_need 8 = .ok (.ireturn, 1) := by decide +kernel
theorem dX7_need_9 : decode cX7_need 9 = .ok (.aload_n 0, 1) := by decide +kernel
theorem dX7_need_10 : decode cX7_need 10 = .ok (.invokevirtual 167, 3) := by decide +kernel
theorem dX7_need_13 : decode cX7_need 13 = .ok (.aload_n 0, 1) := by decide +kernel
theorem dX7_need_14 : decode cX7_need 14 = .ok (.iload_n 1, 1) := by decide +kernel
theorem dX7_need_15 : decode cX7_need 15 = .ok (.aload_n 0, 1) := by decide +kernel
theorem dX7_need_16 : decode cX7_need 16 = .ok (.getfield 130, 3) := by decide +kernel
theorem dX7_need_19 : decode cX7_need 19 = .ok (.aload_n 0, 1) := by decide +kernel
theorem dX7_need_20 : decode cX7_need 20 = .ok (.getfield 13, 3) := by decide +kernel
theorem dX7_need_23 : decode cX7_need 23 = .ok (.sipush 334, 3) := by decide +kernel
theorem dX7_need_26 : decode cX7_need 26 = .ok (.iaload, 1) := by decide +kernel
theorem dX7_need_27 : decode cX7_need 27 = .ok (.invokevirtual 216, 3) := by decide +kernel
theorem dX7_need_30 : decode cX7_need 30 = .ok (.istore_n 2, 1) := by decide +kernel
theorem dX7_need_31 : decode cX7_need 31 = .ok (.aload_n 0, 1) := by decide +kernel
theorem dX7_need_32 : decode cX7_need 32 = .ok (.iload_n 1, 1) := by decide +kernel
theorem dX7_need_33 : decode cX7_need 33 = .ok (.aload_n 0, 1) := by decide +kernel
theorem dX7_need_34 : decode cX7_need 34 = .ok (.getfield 130, 3) := by decide +kernel
theorem dX7_need_37 : decode cX7_need 37 = .ok (.invokevirtual 209, 3) := by decide +kernel
theorem dX7_need_40 : decode cX7_need 40 = .ok (.ifCond .eq 7, 3) := by decide +kernel
theorem dX7_need_43 : decode cX7_need 43 = .ok (.iconst 2, 1) := by decide +kernel
theorem dX7_need_44 : decode cX7_need 44 = .ok (.goto 4, 3) := by decide +kernel
theorem dX7_need_47 : decode cX7_need 47 = .ok (.iconst 1, 1) := by decide +kernel
theorem dX7_need_48 : decode cX7_need 48 = .ok (.istore_n 3, 1) := by decide +kernel
theorem dX7_need_49 : decode cX7_need 49 = .ok (.iconst 1, 1) := by decide +kernel
theorem dX7_need_50 : decode cX7_need 50 = .ok (.istore 4, 2) := by decide +kernel
theorem dX7_need_52 : decode cX7_need 52 = .ok (.iload 4, 2) := by decide +kernel
theorem dX7_need_54 : decode cX7_need 54 = .ok (.bipush 100, 2) := by decide +kernel
theorem dX7_need_56 : decode cX7_need 56 = .ok (.if_icmp .ge 26, 3) := by decide +kernel
theorem dX7_need_59 : decode cX7_need 59 = .ok (.iload_n 2, 1) := by decide +kernel
theorem dX7_need_60 : decode cX7_need 60 = .ok (.iload_n 3, 1) := by decide +kernel
theorem dX7_need_61 : decode cX7_need 61 = .ok (.iload 4, 2) := by decide +kernel
theorem dX7_need_63 : decode cX7_need 63 = .ok (.imul, 1) := by decide +kernel
theorem dX7_need_64 : decode cX7_need 64 = .ok (.iadd, 1) := by decide +kernel
theorem dX7_need_65 : decode cX7_need 65 = .ok (.aload_n 0, 1) := by decide +kernel
theorem dX7_need_66 : decode cX7_need 66 = .ok (.iconst 1, 1) := by decide +kernel
theorem dX7_need_67 : decode cX7_need 67 = .ok (.invokevirtual 145, 3) := by decide +kernel
theorem dX7_need_70 : decode cX7_need 70 = .ok (.if_icmp .lt 6, 3) := by decide +kernel
theorem dX7_need_73 : decode cX7_need 73 = .ok (.iload 4, 2) := by decide +kernel
theorem dX7_need_75 : decode cX7_need 75 = .ok (.ireturn, 1) := by decide +kernel
theorem dX7_need_76 : decode cX7_need 76 = .ok (.iinc 4 1, 3) := by decide +kernel
theorem dX7_need_79 : decode cX7_need 79 = .ok (.goto (-27), 3) := by decide +kernel
theorem dX7_need_82 : decode cX7_need 82 = .ok (.bipush (-4), 2) := by decide +kernel
theorem dX7_need_84 : decode cX7_need 84 = .ok (.ireturn, 1) := by decide +kernel
theorem dX7_would_0 : decode cX7_would 0 = .ok (.iload_n 1, 1) := by decide +kernel
theorem dX7_would_1 : decode cX7_would 1 = .ok (.invokestatic 157, 3) := by decide +kernel
theorem dX7_would_4 : decode cX7_would 4 = .ok (.ifCond .eq 25, 3) := by decide +kernel
theorem dX7_would_7 : decode cX7_would 7 = .ok (.iload_n 2, 1) := by decide +kernel
theorem dX7_would_8 : decode cX7_would 8 = .ok (.i2l, 1) := by decide +kernel
theorem dX7_would_9 : decode cX7_would 9 = .ok (.lconst 0, 1) := by decide +kernel
theorem dX7_would_10 : decode cX7_would 10 = .ok (.aload_n 0, 1) := by decide +kernel
theorem dX7_would_11 : decode cX7_would 11 = .ok (.getfield 130, 3) := by decide +kernel
theorem dX7_would_14 : decode cX7_would 14 = .ok (.i2l, 1) := by decide +kernel
theorem dX7_would_15 : decode cX7_would 15 = .ok (.invokestatic 79, 3) := by decide +kernel
theorem dX7_would_18 : decode cX7_would 18 = .ok (.ifCond .eq 11, 3) := by decide +kernel
theorem dX7_would_21 : decode cX7_would 21 = .ok (.aload_n 0, 1) := by decide +kernel
theorem dX7_would_22 : decode cX7_would 22 = .ok (.iload_n 3, 1) := by decide +kernel
theorem dX7_would_23 : decode cX7_would 23 = .ok (.invokevirtual 151, 3) := by decide +kernel
theorem dX7_would_26 : decode cX7_would 26 = .ok (.ifCond .ne 5, 3) := by decide +kernel
theorem dX7_would_29 : decode cX7_would 29 = .ok (.iconst (-1), 1) := by decide +kernel
theorem dX7_would_30 : decode cX7_would 30 = .ok (.ireturn, 1) := by decide +kernel
theorem dX7_would_31 : decode cX7_would 31 = .ok (.aload_n 0, 1) := by decide +kernel
theorem dX7_would_32 : decode cX7_would 32 = .ok (.iload_n 1, 1) := by decide +kernel
theorem dX7_would_33 : decode cX7_would 33 = .ok (.invokevirtual 179, 3) := by decide +kernel
theorem dX7_would_36 : decode cX7_would 36 = .ok (.istore 4, 2) := by decide +kernel
theorem dX7_would_38 : decode cX7_would 38 = .ok (.aload_n 0, 1) := by decide +kernel
theorem dX7_would_39 : decode cX7_would 39 = .ok (.iload_n 1, 1) := by decide +kernel
theorem dX7_would_40 : decode cX7_would 40 = .ok (.iconst 0, 1) := by decide +kernel
theorem dX7_would_41 : decode cX7_would 41 = .ok (.iload_n 2, 1) := by decide +kernel
theorem dX7_would_42 : decode cX7_would 42 = .ok (.iload_n 3, 1) := by decide +kernel
theorem dX7_would_43 : decode cX7_would 43 = .ok (.iconst 0, 1) := by decide +kernel
theorem dX7_would_44 : decode cX7_would 44 = .ok (.invokevirtual 160, 3) := by decide +kernel
theorem dX7_would_47 : decode cX7_would 47 = .ok (.aload_n 0, 1) := by decide +kernel
theorem dX7_would_48 : decode cX7_would 48 = .ok (.iload_n 1, 1) := by decide +kernel
theorem dX7_would_49 : decode cX7_would 49 = .ok (.invokevirtual 179, 3) := by decide +kernel
theorem dX7_would_52 : decode cX7_would 52 = .ok (.istore 5, 2) := by decide +kernel
theorem dX7_would_54 : decode cX7_would 54 = .ok (.aload_n 0, 1) := by decide +kernel
theorem dX7_would_55 : decode cX7_would 55 = .ok (.getfield 13, 3) := by decide +kernel
theorem dX7_would_58 : decode cX7_would 58 = .ok (.sipush 334, 3) := by decide +kernel
theorem dX7_would_61 : decode cX7_would 61 = .ok (.dup2, 1) := by decide +kernel
theorem dX7_would_62 : decode cX7_would 62 = .ok (.iaload, 1) := by decide +kernel
theorem dX7_would_63 : decode cX7_would 63 = .ok (.iconst 1, 1) := by decide +kernel
theorem dX7_would_64 : decode cX7_would 64 = .ok (.isub, 1) := by decide +kernel
theorem dX7_would_65 : decode cX7_would 65 = .ok (.iastore, 1) := by decide +kernel
theorem dX7_would_66 : decode cX7_would 66 = .ok (.aload_n 0, 1) := by decide +kernel
theorem dX7_would_67 : decode cX7_would 67 = .ok (.iconst 0, 1) := by decide +kernel
theorem dX7_would_68 : decode cX7_would 68 = .ok (.putfield 133, 3) := by decide +kernel
theorem dX7_would_71 : decode cX7_would 71 = .ok (.iload 5, 2) := by decide +kernel
theorem dX7_would_73 : decode cX7_would 73 = .ok (.iload 4, 2) := by decide +kernel
theorem dX7_would_75 : decode cX7_would 75 = .ok (.isub, 1) := by decide +kernel
theorem dX7_would_76 : decode cX7_would 76 = .ok (.ireturn, 1) := by decide +kernel
theorem dX7_banned_0 : decode cX7_banned 0 = .ok (.iload_n 1, 1) := by decide +kernel
theorem dX7_banned_1 : decode cX7_banned 1 = .ok (.invokestatic 157, 3) := by decide +kernel
theorem dX7_banned_4 : decode cX7_banned 4 = .ok (.ifCond .eq 15, 3) := by decide +kernel
theorem dX7_banned_7 : decode cX7_banned 7 = .ok (.iload_n 2, 1) := by decide +kernel
theorem dX7_banned_8 : decode cX7_banned 8 = .ok (.i2l, 1) := by decide +kernel
theorem dX7_banned_9 : decode cX7_banned 9 = .ok (.lconst 0, 1) := by decide +kernel
theorem dX7_banned_10 : decode cX7_banned 10 = .ok (.ldc2_w 243, 3) := by decide +kernel
theorem dX7_banned_13 : decode cX7_banned 13 = .ok (.invokestatic 79, 3) := by decide +kernel
theorem dX7_banned_16 : decode cX7_banned 16 = .ok (.ifCond .ne 5, 3) := by decide +kernel
theorem dX7_banned_19 : decode cX7_banned 19 = .ok (.iconst (-1), 1) := by decide +kernel
theorem dX7_banned_20 : decode cX7_banned 20 = .ok (.ireturn, 1) := by decide +kernel
theorem dX7_banned_21 : decode cX7_banned 21 = .ok (.aload_n 0, 1) := by decide +kernel
theorem dX7_banned_22 : decode cX7_banned 22 = .ok (.invokevirtual 167, 3) := by decide +kernel
theorem dX7_banned_25 : decode cX7_banned 25 = .ok (.aload_n 0, 1) := by decide +kernel
theorem dX7_banned_26 : decode cX7_banned 26 = .ok (.iload_n 1, 1) := by decide +kernel
theorem dX7_banned_27 : decode cX7_banned 27 = .ok (.iload_n 2, 1) := by decide +kernel
theorem dX7_banned_28 : decode cX7_banned 28 = .ok (.invokevirtual 209, 3) := by decide +kernel
theorem dX7_banned_31 : decode cX7_banned 31 = .ok (.ifCond .eq 7, 3) := by decide +kernel
theorem dX7_banned_34 : decode cX7_banned 34 = .ok (.iconst 1, 1) := by decide +kernel
theorem dX7_banned_35 : decode cX7_banned 35 = .ok (.goto 4, 3) := by decide +kernel
theorem dX7_banned_38 : decode cX7_banned 38 = .ok (.iconst 0, 1) := by decide +kernel
theorem dX7_banned_39 : decode cX7_banned 39 = .ok (.ireturn, 1) := by decide +kernel
theorem dX7_days_0 : decode cX7_days 0 = .ok (.iload_n 1, 1) := by decide +kernel
theorem dX7_days_1 : decode cX7_days 1 = .ok (.invokestatic 157, 3) := by decide +kernel
theorem dX7_days_4 : decode cX7_days 4 = .ok (.ifCond .eq 28, 3) := by decide +kernel
theorem dX7_days_7 : decode cX7_days 7 = .ok (.iload_n 2, 1) := by decide +kernel
theorem dX7_days_8 : decode cX7_days 8 = .ok (.i2l, 1) := by decide +kernel
theorem dX7_days_9 : decode cX7_days 9 = .ok (.lconst 0, 1) := by decide +kernel
theorem dX7_days_10 : decode cX7_days 10 = .ok (.ldc2_w 243, 3) := by decide +kernel
theorem dX7_days_13 : decode cX7_days 13 = .ok (.invokestatic 79, 3) := by decide +kernel
theorem dX7_days_16 : decode cX7_days 16 = .ok (.ifCond .eq 16, 3) := by decide +kernel
theorem dX7_days_19 : decode cX7_days 19 = .ok (.iload_n 3, 1) := by decide +kernel
theorem dX7_days_20 : decode cX7_days 20 = .ok (.i2l, 1) := by decide +kernel
theorem dX7_days_21 : decode cX7_days 21 = .ok (.iload_n 2, 1) := by decide +kernel
theorem dX7_days_22 : decode cX7_days 22 = .ok (.i2l, 1) := by decide +kernel
theorem dX7_days_23 : decode cX7_days 23 = .ok (.ldc2_w 243, 3) := by decide +kernel
theorem dX7_days_26 : decode cX7_days 26 = .ok (.invokestatic 79, 3) := by decide +kernel
theorem dX7_days_29 : decode cX7_days 29 = .ok (.ifCond .ne 5, 3) := by decide +kernel
theorem dX7_days_32 : decode cX7_days 32 = .ok (.iconst (-1), 1) := by decide +kernel
theorem dX7_days_33 : decode cX7_days 33 = .ok (.ireturn, 1) := by decide +kernel
theorem dX7_days_34 : decode cX7_days 34 = .ok (.aload_n 0, 1) := by decide +kernel
theorem dX7_days_35 : decode cX7_days 35 = .ok (.invokevirtual 167, 3) := by decide +kernel
theorem dX7_days_38 : decode cX7_days 38 = .ok (.aload_n 0, 1) := by decide +kernel
theorem dX7_days_39 : decode cX7_days 39 = .ok (.iload_n 1, 1) := by decide +kernel
theorem dX7_days_40 : decode cX7_days 40 = .ok (.invokevirtual 235, 3) := by decide +kernel
theorem dX7_days_43 : decode cX7_days 43 = .ok (.istore 4, 2) := by decide +kernel
theorem dX7_days_45 : decode cX7_days 45 = .ok (.aload_n 0, 1) := by decide +kernel
theorem dX7_days_46 : decode cX7_days 46 = .ok (.iload_n 1, 1) := by decide +kernel
theorem dX7_days_47 : decode cX7_days 47 = .ok (.iload_n 2, 1) := by decide +kernel
theorem dX7_days_48 : decode cX7_days 48 = .ok (.iload_n 3, 1) := by decide +kernel
theorem dX7_days_49 : decode cX7_days 49 = .ok (.iload 4, 2) := by decide +kernel
theorem dX7_days_51 : decode cX7_days 51 = .ok (.if_icmp .ge 7, 3) := by decide +kernel
theorem dX7_days_54 : decode cX7_days 54 = .ok (.iload_n 3, 1) := by decide +kernel
theorem dX7_days_55 : decode cX7_days 55 = .ok (.goto 5, 3) := by decide +kernel
theorem dX7_days_58 : decode cX7_days 58 = .ok (.iload 4, 2) := by decide +kernel
theorem dX7_days_60 : decode cX7_days 60 = .ok (.invokevirtual 238, 3) := by decide +kernel
theorem dX7_days_63 : decode cX7_days 63 = .ok (.ireturn, 1) := by decide +kernel
theorem dX7_free_0 : decode cX7_free 0 = .ok (.iload_n 1, 1) := by decide +kernel
theorem dX7_free_1 : decode cX7_free 1 = .ok (.invokestatic 157, 3) := by decide +kernel
theorem dX7_free_4 : decode cX7_free 4 = .ok (.ifCond .ne 5, 3) := by decide +kernel
theorem dX7_free_7 : decode cX7_free 7 = .ok (.iconst (-1), 1) := by decide +kernel
theorem dX7_free_8 : decode cX7_free 8 = .ok (.ireturn, 1) := by decide +kernel
theorem dX7_free_9 : decode cX7_free 9 = .ok (.aload_n 0, 1) := by decide +kernel
theorem dX7_free_10 : decode cX7_free 10 = .ok (.invokevirtual 167, 3) := by decide +kernel
theorem dX7_free_13 : decode cX7_free 13 = .ok (.aload_n 0, 1) := by decide +kernel
theorem dX7_free_14 : decode cX7_free 14 = .ok (.getfield 130, 3) := by decide +kernel
theorem dX7_free_17 : decode cX7_free 17 = .ok (.istore_n 2, 1) := by decide +kernel
theorem dX7_free_18 : decode cX7_free 18 = .ok (.aload_n 0, 1) := by decide +kernel
theorem dX7_free_19 : decode cX7_free 19 = .ok (.iload_n 1, 1) := by decide +kernel
theorem dX7_free_20 : decode cX7_free 20 = .ok (.iload_n 2, 1) := by decide +kernel
theorem dX7_free_21 : decode cX7_free 21 = .ok (.invokevirtual 209, 3) := by decide +kernel
theorem dX7_free_24 : decode cX7_free 24 = .ok (.ifCond .eq 9, 3) := by decide +kernel
theorem dX7_free_27 : decode cX7_free 27 = .ok (.iinc 2 1, 3) := by decide +kernel
theorem dX7_free_30 : decode cX7_free 30 = .ok (.goto (-12), 3) := by decide +kernel
theorem dX7_free_33 : decode cX7_free 33 = .ok (.iload_n 2, 1) := by decide +kernel
theorem dX7_free_34 : decode cX7_free 34 = .ok (.ireturn, 1) := by decide +kernel
theorem dX7_banAt_0 : decode cX7_banAt 0 = .ok (.iconst 0, 1) := by decide +kernel
theorem dX7_banAt_1 : decode cX7_banAt 1 = .ok (.istore_n 3, 1) := by decide +kernel
theorem dX7_banAt_2 : decode cX7_banAt 2 = .ok (.iconst 0, 1) := by decide +kernel
theorem dX7_banAt_3 : decode cX7_banAt 3 = .ok (.istore 4, 2) := by decide +kernel
theorem dX7_banAt_5 : decode cX7_banAt 5 = .ok (.iload 4, 2) := by decide +kernel
theorem dX7_banAt_7 : decode cX7_banAt 7 = .ok (.aload_n 0, 1) := by decide +kernel
theorem dX7_banAt_8 : decode cX7_banAt 8 = .ok (.getfield 199, 3) := by decide +kernel
theorem dX7_banAt_11 : decode cX7_banAt 11 = .ok (.if_icmp .ge 31, 3) := by decide +kernel
theorem dX7_banAt_14 : decode cX7_banAt 14 = .ok (.aload_n 0, 1) := by decide +kernel
theorem dX7_banAt_15 : decode cX7_banAt 15 = .ok (.getfield 43, 3) := by decide +kernel
theorem dX7_banAt_18 : decode cX7_banAt 18 = .ok (.iload 4, 2) := by decide +kernel
theorem dX7_banAt_20 : decode cX7_banAt 20 = .ok (.iaload, 1) := by decide +kernel
theorem dX7_banAt_21 : decode cX7_banAt 21 = .ok (.iload_n 1, 1) := by decide +kernel
theorem dX7_banAt_22 : decode cX7_banAt 22 = .ok (.if_icmp .ne 14, 3) := by decide +kernel
theorem dX7_banAt_25 : decode cX7_banAt 25 = .ok (.iload_n 3, 1) := by decide +kernel
theorem dX7_banAt_26 : decode cX7_banAt 26 = .ok (.iload_n 2, 1) := by decide +kernel
theorem dX7_banAt_27 : decode cX7_banAt 27 = .ok (.if_icmp .ne 6, 3) := by decide +kernel
theorem dX7_banAt_30 : decode cX7_banAt 30 = .ok (.iload 4, 2) := by decide +kernel
theorem dX7_banAt_32 : decode cX7_banAt 32 = .ok (.ireturn, 1) := by decide +kernel
theorem dX7_banAt_33 : decode cX7_banAt 33 = .ok (.iinc 3 1, 3) := by decide +kernel
theorem dX7_banAt_36 : decode cX7_banAt 36 = .ok (.iinc 4 1, 3) := by decide +kernel
theorem dX7_banAt_39 : decode cX7_banAt 39 = .ok (.goto (-34), 3) := by decide +kernel
theorem dX7_banAt_42 : decode cX7_banAt 42 = .ok (.bipush (-4), 2) := by decide +kernel
theorem dX7_banAt_44 : decode cX7_banAt 44 = .ok (.ireturn, 1) := by decide +kernel
theorem dX7_ban_0 : decode cX7_ban 0 = .ok (.iload_n 1, 1) := by decide +kernel
theorem dX7_ban_1 : decode cX7_ban 1 = .ok (.invokestatic 157, 3) := by decide +kernel
theorem dX7_ban_4 : decode cX7_ban 4 = .ok (.ifCond .eq 20, 3) := by decide +kernel
theorem dX7_ban_7 : decode cX7_ban 7 = .ok (.iload_n 2, 1) := by decide +kernel
theorem dX7_ban_8 : decode cX7_ban 8 = .ok (.iconst (-1), 1) := by decide +kernel
theorem dX7_ban_9 : decode cX7_ban 9 = .ok (.if_icmp .lt 15, 3) := by decide +kernel
theorem dX7_ban_12 : decode cX7_ban 12 = .ok (.iload_n 3, 1) := by decide +kernel
theorem dX7_ban_13 : decode cX7_ban 13 = .ok (.i2l, 1) := by decide +kernel
theorem dX7_ban_14 : decode cX7_ban 14 = .ok (.lconst 0, 1) := by decide +kernel
theorem dX7_ban_15 : decode cX7_ban 15 = .ok (.ldc2_w 245, 3) := by decide +kernel
theorem dX7_ban_18 : decode cX7_ban 18 = .ok (.invokestatic 79, 3) := by decide +kernel
theorem dX7_ban_21 : decode cX7_ban 21 = .ok (.ifCond .ne 5, 3) := by decide +kernel
theorem dX7_ban_24 : decode cX7_ban 24 = .ok (.iconst (-1), 1) := by decide +kernel
theorem dX7_ban_25 : decode cX7_ban 25 = .ok (.ireturn, 1) := by decide +kernel
theorem dX7_ban_26 : decode cX7_ban 26 = .ok (.aload_n 0, 1) := by decide +kernel
theorem dX7_ban_27 : decode cX7_ban 27 = .ok (.invokevirtual 167, 3) := by decide +kernel
theorem dX7_ban_30 : decode cX7_ban 30 = .ok (.iload_n 2, 1) := by decide +kernel
theorem dX7_ban_31 : decode cX7_ban 31 = .ok (.ifCond .ge 48, 3) := by decide +kernel
theorem dX7_ban_34 : decode cX7_ban 34 = .ok (.iconst 0, 1) := by decide +kernel
theorem dX7_ban_35 : decode cX7_ban 35 = .ok (.istore 4, 2) := by decide +kernel
theorem dX7_ban_37 : decode cX7_ban 37 = .ok (.iconst 0, 1) := by decide +kernel
theorem dX7_ban_38 : decode cX7_ban 38 = .ok (.istore 5, 2) := by decide +kernel
theorem dX7_ban_40 : decode cX7_ban 40 = .ok (.iload 5, 2) := by decide +kernel
theorem dX7_ban_42 : decode cX7_ban 42 = .ok (.aload_n 0, 1) := by decide +kernel
theorem dX7_ban_43 : decode cX7_ban 43 = .ok (.getfield 199, 3) := by decide +kernel
theorem dX7_ban_46 : decode cX7_ban 46 = .ok (.if_icmp .ge 30, 3) := by decide +kernel
theorem dX7_ban_49 : decode cX7_ban 49 = .ok (.iload 4, 2) := by decide +kernel
theorem dX7_ban_51 : decode cX7_ban 51 = .ok (.aload_n 0, 1) := by decide +kernel
theorem dX7_ban_52 : decode cX7_ban 52 = .ok (.getfield 43, 3) := by decide +kernel
theorem dX7_ban_55 : decode cX7_ban 55 = .ok (.iload 5, 2) := by decide +kernel
theorem dX7_ban_57 : decode cX7_ban 57 = .ok (.iaload, 1) := by decide +kernel
theorem dX7_ban_58 : decode cX7_ban 58 = .ok (.iload_n 1, 1) := by decide +kernel
theorem dX7_ban_59 : decode cX7_ban 59 = .ok (.if_icmp .ne 7, 3) := by decide +kernel
theorem dX7_ban_62 : decode cX7_ban 62 = .ok (.iconst 1, 1) := by decide +kernel
theorem dX7_ban_63 : decode cX7_ban 63 = .ok (.goto 4, 3) := by decide +kernel
theorem dX7_ban_66 : decode cX7_ban 66 = .ok (.iconst 0, 1) := by decide +kernel
theorem dX7_ban_67 : decode cX7_ban 67 = .ok (.iadd, 1) := by decide +kernel
theorem dX7_ban_68 : decode cX7_ban 68 = .ok (.istore 4, 2) := by decide +kernel
theorem dX7_ban_70 : decode cX7_ban 70 = .ok (.iinc 5 1, 3) := by decide +kernel
theorem dX7_ban_73 : decode cX7_ban 73 = .ok (.goto (-33), 3) := by decide +kernel
theorem dX7_ban_76 : decode cX7_ban 76 = .ok (.iload 4, 2) := by decide +kernel
theorem dX7_ban_78 : decode cX7_ban 78 = .ok (.ireturn, 1) := by decide +kernel
theorem dX7_ban_79 : decode cX7_ban 79 = .ok (.aload_n 0, 1) := by decide +kernel
theorem dX7_ban_80 : decode cX7_ban 80 = .ok (.iload_n 1, 1) := by decide +kernel
theorem dX7_ban_81 : decode cX7_ban 81 = .ok (.iload_n 2, 1) := by decide +kernel
theorem dX7_ban_82 : decode cX7_ban 82 = .ok (.invokevirtual 247, 3) := by decide +kernel
theorem dX7_ban_85 : decode cX7_ban 85 = .ok (.istore 4, 2) := by decide +kernel
theorem dX7_ban_87 : decode cX7_ban 87 = .ok (.iload 4, 2) := by decide +kernel
theorem dX7_ban_89 : decode cX7_ban 89 = .ok (.bipush (-4), 2) := by decide +kernel
theorem dX7_ban_91 : decode cX7_ban 91 = .ok (.if_icmp .ne 6, 3) := by decide +kernel
theorem dX7_ban_94 : decode cX7_ban 94 = .ok (.bipush (-4), 2) := by decide +kernel
theorem dX7_ban_96 : decode cX7_ban 96 = .ok (.ireturn, 1) := by decide +kernel
theorem dX7_ban_97 : decode cX7_ban 97 = .ok (.iload_n 3, 1) := by decide +kernel
theorem dX7_ban_98 : decode cX7_ban 98 = .ok (.ifCond .ne 13, 3) := by decide +kernel
theorem dX7_ban_101 : decode cX7_ban 101 = .ok (.aload_n 0, 1) := by decide +kernel
theorem dX7_ban_102 : decode cX7_ban 102 = .ok (.getfield 46, 3) := by decide +kernel
theorem dX7_ban_105 : decode cX7_ban 105 = .ok (.iload 4, 2) := by decide +kernel
theorem dX7_ban_107 : decode cX7_ban 107 = .ok (.iaload, 1) := by decide +kernel
theorem dX7_ban_108 : decode cX7_ban 108 = .ok (.goto 55, 3) := by decide +kernel
theorem dX7_ban_111 : decode cX7_ban 111 = .ok (.iload_n 3, 1) := by decide +kernel
theorem dX7_ban_112 : decode cX7_ban 112 = .ok (.iconst 1, 1) := by decide +kernel
theorem dX7_ban_113 : decode cX7_ban 113 = .ok (.if_icmp .ne 13, 3) := by decide +kernel
theorem dX7_ban_116 : decode cX7_ban 116 = .ok (.aload_n 0, 1) := by decide +kernel
theorem dX7_ban_117 : decode cX7_ban 117 = .ok (.getfield 49, 3) := by decide +kernel
theorem dX7_ban_120 : decode cX7_ban 120 = .ok (.iload 4, 2) := by decide +kernel
theorem dX7_ban_122 : decode cX7_ban 122 = .ok (.iaload, 1) := by decide +kernel
theorem dX7_ban_123 : decode cX7_ban 123 = .ok (.goto 40, 3) := by decide +kernel
theorem dX7_ban_126 : decode cX7_ban 126 = .ok (.iload_n 3, 1) := by decide +kernel
theorem dX7_ban_127 : decode cX7_ban 127 = .ok (.iconst 2, 1) := by decide +kernel
theorem dX7_ban_128 : decode cX7_ban 128 = .ok (.if_icmp .ne 13, 3) := by decide +kernel
theorem dX7_ban_131 : decode cX7_ban 131 = .ok (.aload_n 0, 1) := by decide +kernel
theorem dX7_ban_132 : decode cX7_ban 132 = .ok (.getfield 52, 3) := by decide +kernel
theorem dX7_ban_135 : decode cX7_ban 135 = .ok (.iload 4, 2) := by decide +kernel
theorem dX7_ban_137 : decode cX7_ban 137 = .ok (.iaload, 1) := by decide +kernel
theorem dX7_ban_138 : decode cX7_ban 138 = .ok (.goto 25, 3) := by decide +kernel
theorem dX7_ban_141 : decode cX7_ban 141 = .ok (.iload_n 3, 1) := by decide +kernel
theorem dX7_ban_142 : decode cX7_ban 142 = .ok (.iconst 3, 1) := by decide +kernel
theorem dX7_ban_143 : decode cX7_ban 143 = .ok (.if_icmp .ne 13, 3) := by decide +kernel
theorem dX7_ban_146 : decode cX7_ban 146 = .ok (.aload_n 0, 1) := by decide +kernel
theorem dX7_ban_147 : decode cX7_ban 147 = .ok (.getfield 55, 3) := by decide +kernel
theorem dX7_ban_150 : decode cX7_ban 150 = .ok (.iload 4, 2) := by decide +kernel
theorem dX7_ban_152 : decode cX7_ban 152 = .ok (.iaload, 1) := by decide +kernel
theorem dX7_ban_153 : decode cX7_ban 153 = .ok (.goto 10, 3) := by decide +kernel
theorem dX7_ban_156 : decode cX7_ban 156 = .ok (.aload_n 0, 1) := by decide +kernel
theorem dX7_ban_157 : decode cX7_ban 157 = .ok (.getfield 58, 3) := by decide +kernel
theorem dX7_ban_160 : decode cX7_ban 160 = .ok (.iload 4, 2) := by decide +kernel
theorem dX7_ban_162 : decode cX7_ban 162 = .ok (.iaload, 1) := by decide +kernel
theorem dX7_ban_163 : decode cX7_ban 163 = .ok (.ireturn, 1) := by decide +kernel
theorem dX7_isSeen_0 : decode cX7_isSeen 0 = .ok (.iload_n 1, 1) := by decide +kernel
theorem dX7_isSeen_1 : decode cX7_isSeen 1 = .ok (.ifCond .eq 14, 3) := by decide +kernel
theorem dX7_isSeen_4 : decode cX7_isSeen 4 = .ok (.aload_n 0, 1) := by decide +kernel
theorem dX7_isSeen_5 : decode cX7_isSeen 5 = .ok (.iload_n 2, 1) := by decide +kernel
theorem dX7_isSeen_6 : decode cX7_isSeen 6 = .ok (.bipush 7, 2) := by decide +kernel
theorem dX7_isSeen_8 : decode cX7_isSeen 8 = .ok (.invokevirtual 164, 3) := by decide +kernel
theorem dX7_isSeen_11 : decode cX7_isSeen 11 = .ok (.iconst 1, 1) := by decide +kernel
theorem dX7_isSeen_12 : decode cX7_isSeen 12 = .ok (.if_icmp .ne 13, 3) := by decide +kernel
theorem dX7_isSeen_15 : decode cX7_isSeen 15 = .ok (.iload_n 1, 1) := by decide +kernel
theorem dX7_isSeen_16 : decode cX7_isSeen 16 = .ok (.ifCond .ne 7, 3) := by decide +kernel
theorem dX7_isSeen_19 : decode cX7_isSeen 19 = .ok (.iconst 1, 1) := by decide +kernel
theorem dX7_isSeen_20 : decode cX7_isSeen 20 = .ok (.goto 4, 3) := by decide +kernel
theorem dX7_isSeen_23 : decode cX7_isSeen 23 = .ok (.iconst 0, 1) := by decide +kernel
theorem dX7_isSeen_24 : decode cX7_isSeen 24 = .ok (.ireturn, 1) := by decide +kernel
theorem dX7_isSeen_25 : decode cX7_isSeen 25 = .ok (.iload_n 1, 1) := by decide +kernel
theorem dX7_isSeen_26 : decode cX7_isSeen 26 = .ok (.iconst 1, 1) := by decide +kernel
theorem dX7_isSeen_27 : decode cX7_isSeen 27 = .ok (.if_icmp .eq 58, 3) := by decide +kernel
theorem dX7_isSeen_30 : decode cX7_isSeen 30 = .ok (.iload_n 1, 1) := by decide +kernel
theorem dX7_isSeen_31 : decode cX7_isSeen 31 = .ok (.iconst 2, 1) := by decide +kernel
theorem dX7_isSeen_32 : decode cX7_isSeen 32 = .ok (.if_icmp .ne 25, 3) := by decide +kernel
theorem dX7_isSeen_35 : decode cX7_isSeen 35 = .ok (.aload_n 0, 1) := by decide +kernel
theorem dX7_isSeen_36 : decode cX7_isSeen 36 = .ok (.getfield 130, 3) := by decide +kernel
theorem dX7_isSeen_39 : decode cX7_isSeen 39 = .ok (.aload_n 0, 1) := by decide +kernel
theorem dX7_isSeen_40 : decode cX7_isSeen 40 = .ok (.iload_n 2, 1) := by decide +kernel
theorem dX7_isSeen_41 : decode cX7_isSeen 41 = .ok (.iconst 1, 1) := by decide +kernel
theorem dX7_isSeen_42 : decode cX7_isSeen 42 = .ok (.invokevirtual 164, 3) := by decide +kernel
theorem dX7_isSeen_45 : decode cX7_isSeen 45 = .ok (.isub, 1) := by decide +kernel
theorem dX7_isSeen_46 : decode cX7_isSeen 46 = .ok (.aload_n 0, 1) := by decide +kernel
theorem dX7_isSeen_47 : decode cX7_isSeen 47 = .ok (.iconst 4, 1) := by decide +kernel
theorem dX7_isSeen_48 : decode cX7_isSeen 48 = .ok (.invokevirtual 145, 3) := by decide +kernel
theorem dX7_isSeen_51 : decode cX7_isSeen 51 = .ok (.if_icmp .ge 38, 3) := by decide +kernel
theorem dX7_isSeen_54 : decode cX7_isSeen 54 = .ok (.goto 31, 3) := by decide +kernel
theorem dX7_isSeen_57 : decode cX7_isSeen 57 = .ok (.aload_n 0, 1) := by decide +kernel
theorem dX7_isSeen_58 : decode cX7_isSeen 58 = .ok (.getfield 37, 3) := by decide +kernel
theorem dX7_isSeen_61 : decode cX7_isSeen 61 = .ok (.iload_n 2, 1) := by decide +kernel
theorem dX7_isSeen_62 : decode cX7_isSeen 62 = .ok (.iaload, 1) := by decide +kernel
theorem dX7_isSeen_63 : decode cX7_isSeen 63 = .ok (.ifCond .ne 26, 3) := by decide +kernel
theorem dX7_isSeen_66 : decode cX7_isSeen 66 = .ok (.aload_n 0, 1) := by decide +kernel
theorem dX7_isSeen_67 : decode cX7_isSeen 67 = .ok (.getfield 130, 3) := by decide +kernel
theorem dX7_isSeen_70 : decode cX7_isSeen 70 = .ok (.aload_n 0, 1) := by decide +kernel
theorem dX7_isSeen_71 : decode cX7_isSeen 71 = .ok (.iload_n 2, 1) := by decide +kernel
theorem dX7_isSeen_72 : decode cX7_isSeen 72 = .ok (.iconst 3, 1) := by decide +kernel
theorem dX7_isSeen_73 : decode cX7_isSeen 73 = .ok (.invokevirtual 164, 3) := by decide +kernel
theorem dX7_isSeen_76 : decode cX7_isSeen 76 = .ok (.isub, 1) := by decide +kernel
theorem dX7_isSeen_77 : decode cX7_isSeen 77 = .ok (.aload_n 0, 1) := by decide +kernel
theorem dX7_isSeen_78 : decode cX7_isSeen 78 = .ok (.iconst 5, 1) := by decide +kernel
theorem dX7_isSeen_79 : decode cX7_isSeen 79 = .ok (.invokevirtual 145, 3) := by decide +kernel
theorem dX7_isSeen_82 : decode cX7_isSeen 82 = .ok (.if_icmp .ge 7, 3) := by decide +kernel
theorem dX7_isSeen_85 : decode cX7_isSeen 85 = .ok (.iconst 1, 1) := by decide +kernel
theorem dX7_isSeen_86 : decode cX7_isSeen 86 = .ok (.goto 4, 3) := by decide +kernel
theorem dX7_isSeen_89 : decode cX7_isSeen 89 = .ok (.iconst 0, 1) := by decide +kernel
theorem dX7_isSeen_90 : decode cX7_isSeen 90 = .ok (.ireturn, 1) := by decide +kernel
theorem dX7_seen_0 : decode cX7_seen 0 = .ok (.iload_n 1, 1) := by decide +kernel
theorem dX7_seen_1 : decode cX7_seen 1 = .ok (.i2l, 1) := by decide +kernel
theorem dX7_seen_2 : decode cX7_seen 2 = .ok (.lconst 0, 1) := by decide +kernel
theorem dX7_seen_3 : decode cX7_seen 3 = .ok (.ldc2_w 137, 3) := by decide +kernel
theorem dX7_seen_6 : decode cX7_seen 6 = .ok (.invokestatic 79, 3) := by decide +kernel
theorem dX7_seen_9 : decode cX7_seen 9 = .ok (.ifCond .eq 22, 3) := by decide +kernel
theorem dX7_seen_12 : decode cX7_seen 12 = .ok (.iload_n 2, 1) := by decide +kernel
theorem dX7_seen_13 : decode cX7_seen 13 = .ok (.invokestatic 157, 3) := by decide +kernel
theorem dX7_seen_16 : decode cX7_seen 16 = .ok (.ifCond .eq 15, 3) := by decide +kernel
theorem dX7_seen_19 : decode cX7_seen 19 = .ok (.iload_n 3, 1) := by decide +kernel
theorem dX7_seen_20 : decode cX7_seen 20 = .ok (.i2l, 1) := by decide +kernel
theorem dX7_seen_21 : decode cX7_seen 21 = .ok (.lconst 0, 1) := by decide +kernel
theorem dX7_seen_22 : decode cX7_seen 22 = .ok (.ldc2_w 250, 3) := by decide +kernel
theorem dX7_seen_25 : decode cX7_seen 25 = .ok (.invokestatic 79, 3) := by decide +kernel
theorem dX7_seen_28 : decode cX7_seen 28 = .ok (.ifCond .ne 5, 3) := by decide +kernel
theorem dX7_seen_31 : decode cX7_seen 31 = .ok (.iconst (-1), 1) := by decide +kernel
theorem dX7_seen_32 : decode cX7_seen 32 = .ok (.ireturn, 1) := by decide +kernel
theorem dX7_seen_33 : decode cX7_seen 33 = .ok (.aload_n 0, 1) := by decide +kernel
theorem dX7_seen_34 : decode cX7_seen 34 = .ok (.invokevirtual 167, 3) := by decide +kernel
theorem dX7_seen_37 : decode cX7_seen 37 = .ok (.iconst 0, 1) := by decide +kernel
theorem dX7_seen_38 : decode cX7_seen 38 = .ok (.istore 4, 2) := by decide +kernel
theorem dX7_seen_40 : decode cX7_seen 40 = .ok (.iconst 0, 1) := by decide +kernel
theorem dX7_seen_41 : decode cX7_seen 41 = .ok (.istore 5, 2) := by decide +kernel
theorem dX7_seen_43 : decode cX7_seen 43 = .ok (.bipush (-4), 2) := by decide +kernel
theorem dX7_seen_45 : decode cX7_seen 45 = .ok (.istore 6, 2) := by decide +kernel
theorem dX7_seen_47 : decode cX7_seen 47 = .ok (.iconst 0, 1) := by decide +kernel
theorem dX7_seen_48 : decode cX7_seen 48 = .ok (.istore 7, 2) := by decide +kernel
theorem dX7_seen_50 : decode cX7_seen 50 = .ok (.iload 7, 2) := by decide +kernel
theorem dX7_seen_52 : decode cX7_seen 52 = .ok (.aload_n 0, 1) := by decide +kernel
theorem dX7_seen_53 : decode cX7_seen 53 = .ok (.getfield 13, 3) := by decide +kernel
theorem dX7_seen_56 : decode cX7_seen 56 = .ok (.sipush 334, 3) := by decide +kernel
theorem dX7_seen_59 : decode cX7_seen 59 = .ok (.iaload, 1) := by decide +kernel
theorem dX7_seen_60 : decode cX7_seen 60 = .ok (.if_icmp .ge 59, 3) := by decide +kernel
theorem dX7_seen_63 : decode cX7_seen 63 = .ok (.aload_n 0, 1) := by decide +kernel
theorem dX7_seen_64 : decode cX7_seen 64 = .ok (.iload 7, 2) := by decide +kernel
theorem dX7_seen_66 : decode cX7_seen 66 = .ok (.iconst 0, 1) := by decide +kernel
theorem dX7_seen_67 : decode cX7_seen 67 = .ok (.invokevirtual 164, 3) := by decide +kernel
theorem dX7_seen_70 : decode cX7_seen 70 = .ok (.iload_n 2, 1) := by decide +kernel
theorem dX7_seen_71 : decode cX7_seen 71 = .ok (.if_icmp .ne 42, 3) := by decide +kernel
theorem dX7_seen_74 : decode cX7_seen 74 = .ok (.aload_n 0, 1) := by decide +kernel
theorem dX7_seen_75 : decode cX7_seen 75 = .ok (.iload 7, 2) := by decide +kernel
theorem dX7_seen_77 : decode cX7_seen 77 = .ok (.iconst 2, 1) := by decide +kernel
theorem dX7_seen_78 : decode cX7_seen 78 = .ok (.invokevirtual 164, 3) := by decide +kernel
theorem dX7_seen_81 : decode cX7_seen 81 = .ok (.ifCond .ne 32, 3) := by decide +kernel
theorem dX7_seen_84 : decode cX7_seen 84 = .ok (.aload_n 0, 1) := by decide +kernel
theorem dX7_seen_85 : decode cX7_seen 85 = .ok (.iload_n 1, 1) := by decide +kernel
theorem dX7_seen_86 : decode cX7_seen 86 = .ok (.iload 7, 2) := by decide +kernel
theorem dX7_seen_88 : decode cX7_seen 88 = .ok (.invokevirtual 252, 3) := by decide +kernel
theorem dX7_seen_91 : decode cX7_seen 91 = .ok (.ifCond .eq 22, 3) := by decide +kernel
theorem dX7_seen_94 : decode cX7_seen 94 = .ok (.iinc 4 1, 3) := by decide +kernel
theorem dX7_seen_97 : decode cX7_seen 97 = .ok (.iload 5, 2) := by decide +kernel
theorem dX7_seen_99 : decode cX7_seen 99 = .ok (.aload_n 0, 1) := by decide +kernel
theorem dX7_seen_100 : decode cX7_seen 100 = .ok (.iload 7, 2) := by decide +kernel
theorem dX7_seen_102 : decode cX7_seen 102 = .ok (.iconst 5, 1) := by decide +kernel
theorem dX7_seen_103 : decode cX7_seen 103 = .ok (.invokevirtual 164, 3) := by decide +kernel
theorem dX7_seen_106 : decode cX7_seen 106 = .ok (.iadd, 1) := by decide +kernel
theorem dX7_seen_107 : decode cX7_seen 107 = .ok (.istore 5, 2) := by decide +kernel
theorem dX7_seen_109 : decode cX7_seen 109 = .ok (.iload 7, 2) := by decide +kernel
theorem dX7_seen_111 : decode cX7_seen 111 = .ok (.istore 6, 2) := by decide +kernel
theorem dX7_seen_113 : decode cX7_seen 113 = .ok (.iinc 7 1, 3) := by decide +kernel
theorem dX7_seen_116 : decode cX7_seen 116 = .ok (.goto (-66), 3) := by decide +kernel
theorem dX7_seen_119 : decode cX7_seen 119 = .ok (.iload_n 3, 1) := by decide +kernel
theorem dX7_seen_120 : decode cX7_seen 120 = .ok (.ifCond .ne 8, 3) := by decide +kernel
theorem dX7_seen_123 : decode cX7_seen 123 = .ok (.iload 4, 2) := by decide +kernel
theorem dX7_seen_125 : decode cX7_seen 125 = .ok (.goto 15, 3) := by decide +kernel
theorem dX7_seen_128 : decode cX7_seen 128 = .ok (.iload_n 3, 1) := by decide +kernel
theorem dX7_seen_129 : decode cX7_seen 129 = .ok (.iconst 1, 1) := by decide +kernel
theorem dX7_seen_130 : decode cX7_seen 130 = .ok (.if_icmp .ne 8, 3) := by decide +kernel
theorem dX7_seen_133 : decode cX7_seen 133 = .ok (.iload 5, 2) := by decide +kernel
theorem dX7_seen_135 : decode cX7_seen 135 = .ok (.goto 5, 3) := by decide +kernel
theorem dX7_seen_138 : decode cX7_seen 138 = .ok (.iload 6, 2) := by decide +kernel
theorem dX7_seen_140 : decode cX7_seen 140 = .ok (.ireturn, 1) := by decide +kernel
theorem dX7_count_0 : decode cX7_count 0 = .ok (.iload_n 1, 1) := by decide +kernel
theorem dX7_count_1 : decode cX7_count 1 = .ok (.tableswitch 109 0 11 #[63, 68, 77, 82, 87, 92, 92, 92, 92, 92, 92, 100], 63) := by decide +kernel
theorem dX7_count_64 : decode cX7_count 64 = .ok (.aload_n 0, 1) := by decide +kernel
theorem dX7_count_65 : decode cX7_count 65 = .ok (.getfield 124, 3) := by decide +kernel
theorem dX7_count_68 : decode cX7_count 68 = .ok (.ireturn, 1) := by decide +kernel
theorem dX7_count_69 : decode cX7_count 69 = .ok (.aload_n 0, 1) := by decide +kernel
theorem dX7_count_70 : decode cX7_count 70 = .ok (.getfield 13, 3) := by decide +kernel
theorem dX7_count_73 : decode cX7_count 73 = .ok (.sipush 334, 3) := by decide +kernel
theorem dX7_count_76 : decode cX7_count 76 = .ok (.iaload, 1) := by decide +kernel
theorem dX7_count_77 : decode cX7_count 77 = .ok (.ireturn, 1) := by decide +kernel
theorem dX7_count_78 : decode cX7_count 78 = .ok (.aload_n 0, 1) := by decide +kernel
theorem dX7_count_79 : decode cX7_count 79 = .ok (.getfield 130, 3) := by decide +kernel
theorem dX7_count_82 : decode cX7_count 82 = .ok (.ireturn, 1) := by decide +kernel
theorem dX7_count_83 : decode cX7_count 83 = .ok (.aload_n 0, 1) := by decide +kernel
theorem dX7_count_84 : decode cX7_count 84 = .ok (.getfield 127, 3) := by decide +kernel
theorem dX7_count_87 : decode cX7_count 87 = .ok (.ireturn, 1) := by decide +kernel
theorem dX7_count_88 : decode cX7_count 88 = .ok (.aload_n 0, 1) := by decide +kernel
theorem dX7_count_89 : decode cX7_count 89 = .ok (.getfield 83, 3) := by decide +kernel
theorem dX7_count_92 : decode cX7_count 92 = .ok (.ireturn, 1) := by decide +kernel
theorem dX7_count_93 : decode cX7_count 93 = .ok (.aload_n 0, 1) := by decide +kernel
theorem dX7_count_94 : decode cX7_count 94 = .ok (.iload_n 1, 1) := by decide +kernel
theorem dX7_count_95 : decode cX7_count 95 = .ok (.iconst 5, 1) := by decide +kernel
theorem dX7_count_96 : decode cX7_count 96 = .ok (.isub, 1) := by decide +kernel
theorem dX7_count_97 : decode cX7_count 97 = .ok (.invokevirtual 145, 3) := by decide +kernel
theorem dX7_count_100 : decode cX7_count 100 = .ok (.ireturn, 1) := by decide +kernel
theorem dX7_count_101 : decode cX7_count 101 = .ok (.aload_n 0, 1) := by decide +kernel
theorem dX7_count_102 : decode cX7_count 102 = .ok (.invokevirtual 167, 3) := by decide +kernel
theorem dX7_count_105 : decode cX7_count 105 = .ok (.aload_n 0, 1) := by decide +kernel
theorem dX7_count_106 : decode cX7_count 106 = .ok (.getfield 199, 3) := by decide +kernel
theorem dX7_count_109 : decode cX7_count 109 = .ok (.ireturn, 1) := by decide +kernel
theorem dX7_count_110 : decode cX7_count 110 = .ok (.iconst (-1), 1) := by decide +kernel
theorem dX7_count_111 : decode cX7_count 111 = .ok (.ireturn, 1) := by decide +kernel
