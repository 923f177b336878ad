theorem dX9_ticked_6 : decode cX9_ticked 6 = .ok (.tableswitch 145 0 15 #[78, 145, 145, 86, 93, 145, 145, 145, 145, 145, 102, 110, 145, 145, 145, 134], 78) := by decide +kernel
theorem dX9_ticked_84 : decode cX9_ticked 84 = .ok (.aload_n 0, 1) := by decide +kernel
theorem dX9_ticked_85 : decode cX9_ticked 85 = .ok (.iconst 4, 1) := by decide +kernel
theorem dX9_ticked_86 : decode cX9_ticked 86 = .ok (.putfield 63, 3) := by decide +kernel
theorem dX9_ticked_89 : decode cX9_ticked 89 = .ok (.goto 62, 3) := by decide +kernel
theorem dX9_ticked_92 : decode cX9_ticked 92 = .ok (.aload_n 0, 1) := by decide +kernel
theorem dX9_ticked_93 : decode cX9_ticked 93 = .ok (.invokevirtual 204, 3) := by decide +kernel
theorem dX9_ticked_96 : decode cX9_ticked 96 = .ok (.goto 55, 3) := by decide +kernel
theorem dX9_ticked_99 : decode cX9_ticked 99 = .ok (.aload_n 0, 1) := by decide +kernel
theorem dX9_ticked_100 : decode cX9_ticked 100 = .ok (.iload_n 2, 1) := by decide +kernel
theorem dX9_ticked_101 : decode cX9_ticked 101 = .ok (.invokevirtual 207, 3) := by decide +kernel
theorem dX9_ticked_104 : decode cX9_ticked 104 = .ok (.istore_n 3, 1) := by decide +kernel
theorem dX9_ticked_105 : decode cX9_ticked 105 = .ok (.goto 46, 3) := by decide +kernel
theorem dX9_ticked_108 : decode cX9_ticked 108 = .ok (.aload_n 0, 1) := by decide +kernel
theorem dX9_ticked_109 : decode cX9_ticked 109 = .ok (.iconst 1, 1) := by decide +kernel
theorem dX9_ticked_110 : decode cX9_ticked 110 = .ok (.putfield 210, 3) := by decide +kernel
theorem dX9_ticked_113 : decode cX9_ticked 113 = .ok (.goto 38, 3) := by decide +kernel
theorem dX9_ticked_116 : decode cX9_ticked 116 = .ok (.aload_n 0, 1) := by decide +kernel
theorem dX9_ticked_117 : decode cX9_ticked 117 = .ok (.getfield 210, 3) := by decide +kernel
theorem dX9_ticked_120 : decode cX9_ticked 120 = .ok (.iconst 1, 1) := by decide +kernel
theorem dX9_ticked_121 : decode cX9_ticked 121 = .ok (.iand, 1) := by decide +kernel
theorem dX9_ticked_122 : decode cX9_ticked 122 = .ok (.istore_n 3, 1) := by decide +kernel
theorem dX9_ticked_123 : decode cX9_ticked 123 = .ok (.aload_n 0, 1) := by decide +kernel
theorem dX9_ticked_124 : decode cX9_ticked 124 = .ok (.aload_n 0, 1) := by decide +kernel
theorem dX9_ticked_125 : decode cX9_ticked 125 = .ok (.getfield 210, 3) := by decide +kernel
theorem dX9_ticked_128 : decode cX9_ticked 128 = .ok (.iconst 1, 1) := by decide +kernel
theorem dX9_ticked_129 : decode cX9_ticked 129 = .ok (.ishr, 1) := by decide +kernel
theorem dX9_ticked_130 : decode cX9_ticked 130 = .ok (.iload_n 2, 1) := by decide +kernel
theorem dX9_ticked_131 : decode cX9_ticked 131 = .ok (.iconst 2, 1) := by decide +kernel
theorem dX9_ticked_132 : decode cX9_ticked 132 = .ok (.ishl, 1) := by decide +kernel
theorem dX9_ticked_133 : decode cX9_ticked 133 = .ok (.ior, 1) := by decide +kernel
theorem dX9_ticked_134 : decode cX9_ticked 134 = .ok (.putfield 210, 3) := by decide +kernel
theorem dX9_ticked_137 : decode cX9_ticked 137 = .ok (.goto 14, 3) := by decide +kernel
theorem dX9_ticked_140 : decode cX9_ticked 140 = .ok (.aload_n 0, 1) := by decide +kernel
theorem dX9_ticked_141 : decode cX9_ticked 141 = .ok (.aload_n 0, 1) := by decide +kernel
theorem dX9_ticked_142 : decode cX9_ticked 142 = .ok (.getfield 210, 3) := by decide +kernel
theorem dX9_ticked_145 : decode cX9_ticked 145 = .ok (.putfield 63, 3) := by decide +kernel
theorem dX9_ticked_148 : decode cX9_ticked 148 = .ok (.goto 3, 3) := by decide +kernel
theorem dX9_ticked_151 : decode cX9_ticked 151 = .ok (.aload_n 0, 1) := by decide +kernel
theorem dX9_ticked_152 : decode cX9_ticked 152 = .ok (.aload_n 0, 1) := by decide +kernel
theorem dX9_ticked_153 : decode cX9_ticked 153 = .ok (.getfield 201, 3) := by decide +kernel
theorem dX9_ticked_156 : decode cX9_ticked 156 = .ok (.iload_n 1, 1) := by decide +kernel
theorem dX9_ticked_157 : decode cX9_ticked 157 = .ok (.invokestatic 213, 3) := by decide +kernel
theorem dX9_ticked_160 : decode cX9_ticked 160 = .ok (.putfield 201, 3) := by decide +kernel
theorem dX9_ticked_163 : decode cX9_ticked 163 = .ok (.iload_n 3, 1) := by decide +kernel
theorem dX9_ticked_164 : decode cX9_ticked 164 = .ok (.ireturn, 1) := by decide +kernel
theorem dX9_tick_0 : decode cX9_tick 0 = .ok (.iload_n 1, 1) := by decide +kernel
theorem dX9_tick_1 : decode cX9_tick 1 = .ok (.i2l, 1) := by decide +kernel
theorem dX9_tick_2 : decode cX9_tick 2 = .ok (.lconst 0, 1) := by decide +kernel
theorem dX9_tick_3 : decode cX9_tick 3 = .ok (.lconst 1, 1) := by decide +kernel
theorem dX9_tick_4 : decode cX9_tick 4 = .ok (.invokestatic 102, 3) := by decide +kernel
theorem dX9_tick_7 : decode cX9_tick 7 = .ok (.ifCond .eq 13, 3) := by decide +kernel
theorem dX9_tick_10 : decode cX9_tick 10 = .ok (.iload_n 2, 1) := by decide +kernel
theorem dX9_tick_11 : decode cX9_tick 11 = .ok (.i2l, 1) := by decide +kernel
theorem dX9_tick_12 : decode cX9_tick 12 = .ok (.lconst 0, 1) := by decide +kernel
theorem dX9_tick_13 : decode cX9_tick 13 = .ok (.lconst 1, 1) := by decide +kernel
theorem dX9_tick_14 : decode cX9_tick 14 = .ok (.invokestatic 102, 3) := by decide +kernel
theorem dX9_tick_17 : decode cX9_tick 17 = .ok (.ifCond .ne 7, 3) := by decide +kernel
theorem dX9_tick_20 : decode cX9_tick 20 = .ok (.sipush (-1002), 3) := by decide +kernel
theorem dX9_tick_23 : decode cX9_tick 23 = .ok (.ireturn, 1) := by decide +kernel
theorem dX9_tick_24 : decode cX9_tick 24 = .ok (.aload_n 0, 1) := by decide +kernel
theorem dX9_tick_25 : decode cX9_tick 25 = .ok (.dup, 1) := by decide +kernel
theorem dX9_tick_26 : decode cX9_tick 26 = .ok (.getfield 141, 3) := by decide +kernel
theorem dX9_tick_29 : decode cX9_tick 29 = .ok (.iconst 1, 1) := by decide +kernel
theorem dX9_tick_30 : decode cX9_tick 30 = .ok (.iadd, 1) := by decide +kernel
theorem dX9_tick_31 : decode cX9_tick 31 = .ok (.putfield 141, 3) := by decide +kernel
theorem dX9_tick_34 : decode cX9_tick 34 = .ok (.aload_n 0, 1) := by decide +kernel
theorem dX9_tick_35 : decode cX9_tick 35 = .ok (.iload_n 1, 1) := by decide +kernel
theorem dX9_tick_36 : decode cX9_tick 36 = .ok (.iload_n 2, 1) := by decide +kernel
theorem dX9_tick_37 : decode cX9_tick 37 = .ok (.invokevirtual 216, 3) := by decide +kernel
theorem dX9_tick_40 : decode cX9_tick 40 = .ok (.ireturn, 1) := by decide +kernel
theorem dX9_state_0 : decode cX9_state 0 = .ok (.iload_n 1, 1) := by decide +kernel
theorem dX9_state_1 : decode cX9_state 1 = .ok (.tableswitch 60 0 4 #[35, 40, 45, 50, 55], 35) := by decide +kernel
theorem dX9_state_36 : decode cX9_state 36 = .ok (.aload_n 0, 1) := by decide +kernel
theorem dX9_state_37 : decode cX9_state 37 = .ok (.getfield 201, 3) := by decide +kernel
theorem dX9_state_40 : decode cX9_state 40 = .ok (.ireturn, 1) := by decide +kernel
theorem dX9_state_41 : decode cX9_state 41 = .ok (.aload_n 0, 1) := by decide +kernel
theorem dX9_state_42 : decode cX9_state 42 = .ok (.getfield 63, 3) := by decide +kernel
theorem dX9_state_45 : decode cX9_state 45 = .ok (.ireturn, 1) := by decide +kernel
theorem dX9_state_46 : decode cX9_state 46 = .ok (.aload_n 0, 1) := by decide +kernel
theorem dX9_state_47 : decode cX9_state 47 = .ok (.getfield 210, 3) := by decide +kernel
theorem dX9_state_50 : decode cX9_state 50 = .ok (.ireturn, 1) := by decide +kernel
theorem dX9_state_51 : decode cX9_state 51 = .ok (.aload_n 0, 1) := by decide +kernel
theorem dX9_state_52 : decode cX9_state 52 = .ok (.getfield 198, 3) := by decide +kernel
theorem dX9_state_55 : decode cX9_state 55 = .ok (.ireturn, 1) := by decide +kernel
theorem dX9_state_56 : decode cX9_state 56 = .ok (.aload_n 0, 1) := by decide +kernel
theorem dX9_state_57 : decode cX9_state 57 = .ok (.getfield 195, 3) := by decide +kernel
theorem dX9_state_60 : decode cX9_state 60 = .ok (.ireturn, 1) := by decide +kernel
theorem dX9_state_61 : decode cX9_state 61 = .ok (.sipush (-1002), 3) := by decide +kernel
theorem dX9_state_64 : decode cX9_state 64 = .ok (.ireturn, 1) := by decide +kernel
theorem dX9_test_0 : decode cX9_test 0 = .ok (.iload_n 1, 1) := by decide +kernel
theorem dX9_test_1 : decode cX9_test 1 = .ok (.i2l, 1) := by decide +kernel
theorem dX9_test_2 : decode cX9_test 2 = .ok (.lconst 0, 1) := by decide +kernel
theorem dX9_test_3 : decode cX9_test 3 = .ok (.iconst 1, 1) := by decide +kernel
theorem dX9_test_4 : decode cX9_test 4 = .ok (.aload_n 0, 1) := by decide +kernel
theorem dX9_test_5 : decode cX9_test 5 = .ok (.getfield 109, 3) := by decide +kernel
theorem dX9_test_8 : decode cX9_test 8 = .ok (.ishl, 1) := by decide +kernel
theorem dX9_test_9 : decode cX9_test 9 = .ok (.iconst 1, 1) := by decide +kernel
theorem dX9_test_10 : decode cX9_test 10 = .ok (.isub, 1) := by decide +kernel
theorem dX9_test_11 : decode cX9_test 11 = .ok (.i2l, 1) := by decide +kernel
theorem dX9_test_12 : decode cX9_test 12 = .ok (.invokestatic 102, 3) := by decide +kernel
theorem dX9_test_15 : decode cX9_test 15 = .ok (.ifCond .eq 21, 3) := by decide +kernel
theorem dX9_test_18 : decode cX9_test 18 = .ok (.iload_n 2, 1) := by decide +kernel
theorem dX9_test_19 : decode cX9_test 19 = .ok (.i2l, 1) := by decide +kernel
theorem dX9_test_20 : decode cX9_test 20 = .ok (.lconst 0, 1) := by decide +kernel
theorem dX9_test_21 : decode cX9_test 21 = .ok (.iconst 1, 1) := by decide +kernel
theorem dX9_test_22 : decode cX9_test 22 = .ok (.aload_n 0, 1) := by decide +kernel
theorem dX9_test_23 : decode cX9_test 23 = .ok (.getfield 106, 3) := by decide +kernel
theorem dX9_test_26 : decode cX9_test 26 = .ok (.ishl, 1) := by decide +kernel
theorem dX9_test_27 : decode cX9_test 27 = .ok (.iconst 1, 1) := by decide +kernel
theorem dX9_test_28 : decode cX9_test 28 = .ok (.isub, 1) := by decide +kernel
theorem dX9_test_29 : decode cX9_test 29 = .ok (.i2l, 1) := by decide +kernel
theorem dX9_test_30 : decode cX9_test 30 = .ok (.invokestatic 102, 3) := by decide +kernel
theorem dX9_test_33 : decode cX9_test 33 = .ok (.ifCond .ne 7, 3) := by decide +kernel
theorem dX9_test_36 : decode cX9_test 36 = .ok (.sipush (-1002), 3) := by decide +kernel
theorem dX9_test_39 : decode cX9_test 39 = .ok (.ireturn, 1) := by decide +kernel
theorem dX9_test_40 : decode cX9_test 40 = .ok (.aload_n 0, 1) := by decide +kernel
theorem dX9_test_41 : decode cX9_test 41 = .ok (.getfield 134, 3) := by decide +kernel
theorem dX9_test_44 : decode cX9_test 44 = .ok (.bipush 20, 2) := by decide +kernel
theorem dX9_test_46 : decode cX9_test 46 = .ok (.if_icmp .ne 7, 3) := by decide +kernel
theorem dX9_test_49 : decode cX9_test 49 = .ok (.sipush (-1004), 3) := by decide +kernel
theorem dX9_test_52 : decode cX9_test 52 = .ok (.ireturn, 1) := by decide +kernel
theorem dX9_test_53 : decode cX9_test 53 = .ok (.aload_n 0, 1) := by decide +kernel
theorem dX9_test_54 : decode cX9_test 54 = .ok (.getfield 47, 3) := by decide +kernel
theorem dX9_test_57 : decode cX9_test 57 = .ok (.aload_n 0, 1) := by decide +kernel
theorem dX9_test_58 : decode cX9_test 58 = .ok (.getfield 134, 3) := by decide +kernel
theorem dX9_test_61 : decode cX9_test 61 = .ok (.iload_n 1, 1) := by decide +kernel
theorem dX9_test_62 : decode cX9_test 62 = .ok (.iastore, 1) := by decide +kernel
theorem dX9_test_63 : decode cX9_test 63 = .ok (.aload_n 0, 1) := by decide +kernel
theorem dX9_test_64 : decode cX9_test 64 = .ok (.getfield 50, 3) := by decide +kernel
theorem dX9_test_67 : decode cX9_test 67 = .ok (.aload_n 0, 1) := by decide +kernel
theorem dX9_test_68 : decode cX9_test 68 = .ok (.getfield 134, 3) := by decide +kernel
theorem dX9_test_71 : decode cX9_test 71 = .ok (.iload_n 2, 1) := by decide +kernel
theorem dX9_test_72 : decode cX9_test 72 = .ok (.iastore, 1) := by decide +kernel
theorem dX9_test_73 : decode cX9_test 73 = .ok (.aload_n 0, 1) := by decide +kernel
theorem dX9_test_74 : decode cX9_test 74 = .ok (.dup, 1) := by decide +kernel
theorem dX9_test_75 : decode cX9_test 75 = .ok (.getfield 134, 3) := by decide +kernel
theorem dX9_test_78 : decode cX9_test 78 = .ok (.iconst 1, 1) := by decide +kernel
theorem dX9_test_79 : decode cX9_test 79 = .ok (.iadd, 1) := by decide +kernel
theorem dX9_test_80 : decode cX9_test 80 = .ok (.putfield 134, 3) := by decide +kernel
theorem dX9_test_83 : decode cX9_test 83 = .ok (.aload_n 0, 1) := by decide +kernel
theorem dX9_test_84 : decode cX9_test 84 = .ok (.getfield 134, 3) := by decide +kernel
theorem dX9_test_87 : decode cX9_test 87 = .ok (.iconst 1, 1) := by decide +kernel
theorem dX9_test_88 : decode cX9_test 88 = .ok (.isub, 1) := by decide +kernel
theorem dX9_test_89 : decode cX9_test 89 = .ok (.ireturn, 1) := by decide +kernel
theorem dX9_lead_0 : decode cX9_lead 0 = .ok (.iconst 0, 1) := by decide +kernel
theorem dX9_lead_1 : decode cX9_lead 1 = .ok (.istore 4, 2) := by decide +kernel
theorem dX9_lead_3 : decode cX9_lead 3 = .ok (.iload 4, 2) := by decide +kernel
theorem dX9_lead_5 : decode cX9_lead 5 = .ok (.iload_n 2, 1) := by decide +kernel
theorem dX9_lead_6 : decode cX9_lead 6 = .ok (.if_icmp .ge 27, 3) := by decide +kernel
theorem dX9_lead_9 : decode cX9_lead 9 = .ok (.aload_n 0, 1) := by decide +kernel
theorem dX9_lead_10 : decode cX9_lead 10 = .ok (.iload_n 1, 1) := by decide +kernel
theorem dX9_lead_11 : decode cX9_lead 11 = .ok (.iload_n 3, 1) := by decide +kernel
theorem dX9_lead_12 : decode cX9_lead 12 = .ok (.invokevirtual 216, 3) := by decide +kernel
theorem dX9_lead_15 : decode cX9_lead 15 = .ok (.istore 5, 2) := by decide +kernel
theorem dX9_lead_17 : decode cX9_lead 17 = .ok (.aload_n 0, 1) := by decide +kernel
theorem dX9_lead_18 : decode cX9_lead 18 = .ok (.dup, 1) := by decide +kernel
theorem dX9_lead_19 : decode cX9_lead 19 = .ok (.getfield 219, 3) := by decide +kernel
theorem dX9_lead_22 : decode cX9_lead 22 = .ok (.iconst 1, 1) := by decide +kernel
theorem dX9_lead_23 : decode cX9_lead 23 = .ok (.iadd, 1) := by decide +kernel
theorem dX9_lead_24 : decode cX9_lead 24 = .ok (.putfield 219, 3) := by decide +kernel
theorem dX9_lead_27 : decode cX9_lead 27 = .ok (.iinc 4 1, 3) := by decide +kernel
theorem dX9_lead_30 : decode cX9_lead 30 = .ok (.goto (-27), 3) := by decide +kernel
theorem dX9_lead_33 : decode cX9_lead 33 = .ok (.return_, 1) := by decide +kernel
theorem dX9_cellAt_0 : decode cX9_cellAt 0 = .ok (.iconst 0, 1) := by decide +kernel
theorem dX9_cellAt_1 : decode cX9_cellAt 1 = .ok (.istore_n 2, 1) := by decide +kernel
theorem dX9_cellAt_2 : decode cX9_cellAt 2 = .ok (.iload_n 1, 1) := by decide +kernel
theorem dX9_cellAt_3 : decode cX9_cellAt 3 = .ok (.istore_n 3, 1) := by decide +kernel
theorem dX9_cellAt_4 : decode cX9_cellAt 4 = .ok (.iload_n 3, 1) := by decide +kernel
theorem dX9_cellAt_5 : decode cX9_cellAt 5 = .ok (.aload_n 0, 1) := by decide +kernel
theorem dX9_cellAt_6 : decode cX9_cellAt 6 = .ok (.getfield 44, 3) := by decide +kernel
theorem dX9_cellAt_9 : decode cX9_cellAt 9 = .ok (.iload_n 2, 1) := by decide +kernel
theorem dX9_cellAt_10 : decode cX9_cellAt 10 = .ok (.iaload, 1) := by decide +kernel
theorem dX9_cellAt_11 : decode cX9_cellAt 11 = .ok (.if_icmp .lt 18, 3) := by decide +kernel
theorem dX9_cellAt_14 : decode cX9_cellAt 14 = .ok (.iload_n 3, 1) := by decide +kernel
theorem dX9_cellAt_15 : decode cX9_cellAt 15 = .ok (.aload_n 0, 1) := by decide +kernel
theorem dX9_cellAt_16 : decode cX9_cellAt 16 = .ok (.getfield 44, 3) := by decide +kernel
theorem dX9_cellAt_19 : decode cX9_cellAt 19 = .ok (.iload_n 2, 1) := by decide +kernel
theorem dX9_cellAt_20 : decode cX9_cellAt 20 = .ok (.iaload, 1) := by decide +kernel
theorem dX9_cellAt_21 : decode cX9_cellAt 21 = .ok (.isub, 1) := by decide +kernel
theorem dX9_cellAt_22 : decode cX9_cellAt 22 = .ok (.istore_n 3, 1) := by decide +kernel
theorem dX9_cellAt_23 : decode cX9_cellAt 23 = .ok (.iinc 2 1, 3) := by decide +kernel
theorem dX9_cellAt_26 : decode cX9_cellAt 26 = .ok (.goto (-22), 3) := by decide +kernel
theorem dX9_cellAt_29 : decode cX9_cellAt 29 = .ok (.aload_n 0, 1) := by decide +kernel
theorem dX9_cellAt_30 : decode cX9_cellAt 30 = .ok (.getfield 41, 3) := by decide +kernel
theorem dX9_cellAt_33 : decode cX9_cellAt 33 = .ok (.bipush 20, 2) := by decide +kernel
theorem dX9_cellAt_35 : decode cX9_cellAt 35 = .ok (.iload_n 2, 1) := by decide +kernel
theorem dX9_cellAt_36 : decode cX9_cellAt 36 = .ok (.imul, 1) := by decide +kernel
theorem dX9_cellAt_37 : decode cX9_cellAt 37 = .ok (.iload_n 3, 1) := by decide +kernel
theorem dX9_cellAt_38 : decode cX9_cellAt 38 = .ok (.iadd, 1) := by decide +kernel
theorem dX9_cellAt_39 : decode cX9_cellAt 39 = .ok (.iaload, 1) := by decide +kernel
theorem dX9_cellAt_40 : decode cX9_cellAt 40 = .ok (.ireturn, 1) := by decide +kernel
theorem dX9_bitFor_0 : decode cX9_bitFor 0 = .ok (.iload_n 2, 1) := by decide +kernel
theorem dX9_bitFor_1 : decode cX9_bitFor 1 = .ok (.aload_n 0, 1) := by decide +kernel
theorem dX9_bitFor_2 : decode cX9_bitFor 2 = .ok (.iload_n 1, 1) := by decide +kernel
theorem dX9_bitFor_3 : decode cX9_bitFor 3 = .ok (.invokevirtual 222, 3) := by decide +kernel
theorem dX9_bitFor_6 : decode cX9_bitFor 6 = .ok (.ishr, 1) := by decide +kernel
theorem dX9_bitFor_7 : decode cX9_bitFor 7 = .ok (.iconst 1, 1) := by decide +kernel
theorem dX9_bitFor_8 : decode cX9_bitFor 8 = .ok (.iand, 1) := by decide +kernel
theorem dX9_bitFor_9 : decode cX9_bitFor 9 = .ok (.istore_n 3, 1) := by decide +kernel
theorem dX9_bitFor_10 : decode cX9_bitFor 10 = .ok (.iconst 0, 1) := by decide +kernel
theorem dX9_bitFor_11 : decode cX9_bitFor 11 = .ok (.istore 4, 2) := by decide +kernel
theorem dX9_bitFor_13 : decode cX9_bitFor 13 = .ok (.iload 4, 2) := by decide +kernel
theorem dX9_bitFor_15 : decode cX9_bitFor 15 = .ok (.iload_n 1, 1) := by decide +kernel
theorem dX9_bitFor_16 : decode cX9_bitFor 16 = .ok (.if_icmp .gt 31, 3) := by decide +kernel
theorem dX9_bitFor_19 : decode cX9_bitFor 19 = .ok (.aload_n 0, 1) := by decide +kernel
theorem dX9_bitFor_20 : decode cX9_bitFor 20 = .ok (.getfield 34, 3) := by decide +kernel
theorem dX9_bitFor_23 : decode cX9_bitFor 23 = .ok (.aload_n 0, 1) := by decide +kernel
theorem dX9_bitFor_24 : decode cX9_bitFor 24 = .ok (.iload 4, 2) := by decide +kernel
theorem dX9_bitFor_26 : decode cX9_bitFor 26 = .ok (.invokevirtual 222, 3) := by decide +kernel
theorem dX9_bitFor_29 : decode cX9_bitFor 29 = .ok (.baload, 1) := by decide +kernel
theorem dX9_bitFor_30 : decode cX9_bitFor 30 = .ok (.ifCond .eq 9, 3) := by decide +kernel
theorem dX9_bitFor_33 : decode cX9_bitFor 33 = .ok (.iconst 1, 1) := by decide +kernel
theorem dX9_bitFor_34 : decode cX9_bitFor 34 = .ok (.iload_n 3, 1) := by decide +kernel
theorem dX9_bitFor_35 : decode cX9_bitFor 35 = .ok (.isub, 1) := by decide +kernel
theorem dX9_bitFor_36 : decode cX9_bitFor 36 = .ok (.goto 4, 3) := by decide +kernel
theorem dX9_bitFor_39 : decode cX9_bitFor 39 = .ok (.iload_n 3, 1) := by decide +kernel
theorem dX9_bitFor_40 : decode cX9_bitFor 40 = .ok (.istore_n 3, 1) := by decide +kernel
theorem dX9_bitFor_41 : decode cX9_bitFor 41 = .ok (.iinc 4 1, 3) := by decide +kernel
theorem dX9_bitFor_44 : decode cX9_bitFor 44 = .ok (.goto (-31), 3) := by decide +kernel
theorem dX9_bitFor_47 : decode cX9_bitFor 47 = .ok (.iload_n 3, 1) := by decide +kernel
theorem dX9_bitFor_48 : decode cX9_bitFor 48 = .ok (.ireturn, 1) := by decide +kernel
theorem dX9_driven_0 : decode cX9_driven 0 = .ok (.iconst 0, 1) := by decide +kernel
theorem dX9_driven_1 : decode cX9_driven 1 = .ok (.istore_n 2, 1) := by decide +kernel
theorem dX9_driven_2 : decode cX9_driven 2 = .ok (.iload_n 2, 1) := by decide +kernel
theorem dX9_driven_3 : decode cX9_driven 3 = .ok (.aload_n 0, 1) := by decide +kernel
theorem dX9_driven_4 : decode cX9_driven 4 = .ok (.getfield 109, 3) := by decide +kernel
theorem dX9_driven_7 : decode cX9_driven 7 = .ok (.if_icmp .ge 25, 3) := by decide +kernel
theorem dX9_driven_10 : decode cX9_driven 10 = .ok (.aload_n 0, 1) := by decide +kernel
theorem dX9_driven_11 : decode cX9_driven 11 = .ok (.getfield 53, 3) := by decide +kernel
theorem dX9_driven_14 : decode cX9_driven 14 = .ok (.iload_n 2, 1) := by decide +kernel
theorem dX9_driven_15 : decode cX9_driven 15 = .ok (.aload_n 0, 1) := by decide +kernel
theorem dX9_driven_16 : decode cX9_driven 16 = .ok (.getfield 47, 3) := by decide +kernel
theorem dX9_driven_19 : decode cX9_driven 19 = .ok (.iload_n 1, 1) := by decide +kernel
theorem dX9_driven_20 : decode cX9_driven 20 = .ok (.iaload, 1) := by decide +kernel
theorem dX9_driven_21 : decode cX9_driven 21 = .ok (.iload_n 2, 1) := by decide +kernel
theorem dX9_driven_22 : decode cX9_driven 22 = .ok (.ishr, 1) := by decide +kernel
theorem dX9_driven_23 : decode cX9_driven 23 = .ok (.iconst 1, 1) := by decide +kernel
theorem dX9_driven_24 : decode cX9_driven 24 = .ok (.iand, 1) := by decide +kernel
theorem dX9_driven_25 : decode cX9_driven 25 = .ok (.iastore, 1) := by decide +kernel
theorem dX9_driven_26 : decode cX9_driven 26 = .ok (.iinc 2 1, 3) := by decide +kernel
theorem dX9_driven_29 : decode cX9_driven 29 = .ok (.goto (-27), 3) := by decide +kernel
theorem dX9_driven_32 : decode cX9_driven 32 = .ok (.aload_n 0, 1) := by decide +kernel
theorem dX9_driven_33 : decode cX9_driven 33 = .ok (.iconst 0, 1) := by decide +kernel
theorem dX9_driven_34 : decode cX9_driven 34 = .ok (.putfield 219, 3) := by decide +kernel
theorem dX9_driven_37 : decode cX9_driven 37 = .ok (.aload_n 0, 1) := by decide +kernel
theorem dX9_driven_38 : decode cX9_driven 38 = .ok (.iconst 1, 1) := by decide +kernel
theorem dX9_driven_39 : decode cX9_driven 39 = .ok (.iconst 5, 1) := by decide +kernel
theorem dX9_driven_40 : decode cX9_driven 40 = .ok (.iconst 0, 1) := by decide +kernel
theorem dX9_driven_41 : decode cX9_driven 41 = .ok (.invokevirtual 225, 3) := by decide +kernel
theorem dX9_driven_44 : decode cX9_driven 44 = .ok (.aload_n 0, 1) := by decide +kernel
theorem dX9_driven_45 : decode cX9_driven 45 = .ok (.iconst 0, 1) := by decide +kernel
theorem dX9_driven_46 : decode cX9_driven 46 = .ok (.iconst 1, 1) := by decide +kernel
theorem dX9_driven_47 : decode cX9_driven 47 = .ok (.iconst 0, 1) := by decide +kernel
theorem dX9_driven_48 : decode cX9_driven 48 = .ok (.invokevirtual 225, 3) := by decide +kernel
theorem dX9_driven_51 : decode cX9_driven 51 = .ok (.aload_n 0, 1) := by decide +kernel
theorem dX9_driven_52 : decode cX9_driven 52 = .ok (.iconst 1, 1) := by decide +kernel
theorem dX9_driven_53 : decode cX9_driven 53 = .ok (.iconst 2, 1) := by decide +kernel
theorem dX9_driven_54 : decode cX9_driven 54 = .ok (.iconst 0, 1) := by decide +kernel
theorem dX9_driven_55 : decode cX9_driven 55 = .ok (.invokevirtual 225, 3) := by decide +kernel
theorem dX9_driven_58 : decode cX9_driven 58 = .ok (.aload_n 0, 1) := by decide +kernel
theorem dX9_driven_59 : decode cX9_driven 59 = .ok (.iconst 0, 1) := by decide +kernel
theorem dX9_driven_60 : decode cX9_driven 60 = .ok (.iconst 2, 1) := by decide +kernel
theorem dX9_driven_61 : decode cX9_driven 61 = .ok (.iconst 0, 1) := by decide +kernel
theorem dX9_driven_62 : decode cX9_driven 62 = .ok (.invokevirtual 225, 3) := by decide +kernel
theorem dX9_driven_65 : decode cX9_driven 65 = .ok (.aload_n 0, 1) := by decide +kernel
theorem dX9_driven_66 : decode cX9_driven 66 = .ok (.iconst 0, 1) := by decide +kernel
theorem dX9_driven_67 : decode cX9_driven 67 = .ok (.iconst 2, 1) := by decide +kernel
theorem dX9_driven_68 : decode cX9_driven 68 = .ok (.iconst 1, 1) := by decide +kernel
theorem dX9_driven_69 : decode cX9_driven 69 = .ok (.invokevirtual 225, 3) := by decide +kernel
theorem dX9_driven_72 : decode cX9_driven 72 = .ok (.aload_n 0, 1) := by decide +kernel
theorem dX9_driven_73 : decode cX9_driven 73 = .ok (.iconst 1, 1) := by decide +kernel
theorem dX9_driven_74 : decode cX9_driven 74 = .ok (.iconst 1, 1) := by decide +kernel
theorem dX9_driven_75 : decode cX9_driven 75 = .ok (.iconst 0, 1) := by decide +kernel
theorem dX9_driven_76 : decode cX9_driven 76 = .ok (.invokevirtual 225, 3) := by decide +kernel
theorem dX9_driven_79 : decode cX9_driven 79 = .ok (.aload_n 0, 1) := by decide +kernel
theorem dX9_driven_80 : decode cX9_driven 80 = .ok (.iconst 1, 1) := by decide +kernel
theorem dX9_driven_81 : decode cX9_driven 81 = .ok (.iconst 2, 1) := by decide +kernel
theorem dX9_driven_82 : decode cX9_driven 82 = .ok (.iconst 0, 1) := by decide +kernel
theorem dX9_driven_83 : decode cX9_driven 83 = .ok (.invokevirtual 225, 3) := by decide +kernel
theorem dX9_driven_86 : decode cX9_driven 86 = .ok (.aload_n 0, 1) := by decide +kernel
theorem dX9_driven_87 : decode cX9_driven 87 = .ok (.iconst 0, 1) := by decide +kernel
theorem dX9_driven_88 : decode cX9_driven 88 = .ok (.iconst 2, 1) := by decide +kernel
theorem dX9_driven_89 : decode cX9_driven 89 = .ok (.iconst 0, 1) := by decide +kernel
theorem dX9_driven_90 : decode cX9_driven 90 = .ok (.invokevirtual 225, 3) := by decide +kernel
theorem dX9_driven_93 : decode cX9_driven 93 = .ok (.aload_n 0, 1) := by decide +kernel
theorem dX9_driven_94 : decode cX9_driven 94 = .ok (.invokevirtual 137, 3) := by decide +kernel
theorem dX9_driven_97 : decode cX9_driven 97 = .ok (.istore_n 2, 1) := by decide +kernel
theorem dX9_driven_98 : decode cX9_driven 98 = .ok (.iload_n 2, 1) := by decide +kernel
theorem dX9_driven_99 : decode cX9_driven 99 = .ok (.ifCond .ne 7, 3) := by decide +kernel
theorem dX9_driven_102 : decode cX9_driven 102 = .ok (.iconst 1, 1) := by decide +kernel
theorem dX9_driven_103 : decode cX9_driven 103 = .ok (.goto 4, 3) := by decide +kernel
theorem dX9_driven_106 : decode cX9_driven 106 = .ok (.iload_n 2, 1) := by decide +kernel
theorem dX9_driven_107 : decode cX9_driven 107 = .ok (.istore_n 3, 1) := by decide +kernel
theorem dX9_driven_108 : decode cX9_driven 108 = .ok (.iconst 1, 1) := by decide +kernel
theorem dX9_driven_109 : decode cX9_driven 109 = .ok (.istore 4, 2) := by decide +kernel
theorem dX9_driven_111 : decode cX9_driven 111 = .ok (.iload 4, 2) := by decide +kernel
theorem dX9_driven_113 : decode cX9_driven 113 = .ok (.iload_n 3, 1) := by decide +kernel
theorem dX9_driven_114 : decode cX9_driven 114 = .ok (.if_icmp .gt 47, 3) := by decide +kernel
theorem dX9_driven_117 : decode cX9_driven 117 = .ok (.aload_n 0, 1) := by decide +kernel
theorem dX9_driven_118 : decode cX9_driven 118 = .ok (.iload 4, 2) := by decide +kernel
theorem dX9_driven_120 : decode cX9_driven 120 = .ok (.iload_n 3, 1) := by decide +kernel
theorem dX9_driven_121 : decode cX9_driven 121 = .ok (.if_icmp .ne 7, 3) := by decide +kernel
theorem dX9_driven_124 : decode cX9_driven 124 = .ok (.iconst 1, 1) := by decide +kernel
theorem dX9_driven_125 : decode cX9_driven 125 = .ok (.goto 4, 3) := by decide +kernel
theorem dX9_driven_128 : decode cX9_driven 128 = .ok (.iconst 0, 1) := by decide +kernel
theorem dX9_driven_129 : decode cX9_driven 129 = .ok (.iconst 1, 1) := by decide +kernel
theorem dX9_driven_130 : decode cX9_driven 130 = .ok (.iload_n 2, 1) := by decide +kernel
theorem dX9_driven_131 : decode cX9_driven 131 = .ok (.ifCond .ne 7, 3) := by decide +kernel
theorem dX9_driven_134 : decode cX9_driven 134 = .ok (.iconst 0, 1) := by decide +kernel
theorem dX9_driven_135 : decode cX9_driven 135 = .ok (.goto 17, 3) := by decide +kernel
theorem dX9_driven_138 : decode cX9_driven 138 = .ok (.aload_n 0, 1) := by decide +kernel
theorem dX9_driven_139 : decode cX9_driven 139 = .ok (.iload_n 2, 1) := by decide +kernel
theorem dX9_driven_140 : decode cX9_driven 140 = .ok (.iload 4, 2) := by decide +kernel
theorem dX9_driven_142 : decode cX9_driven 142 = .ok (.isub, 1) := by decide +kernel
theorem dX9_driven_143 : decode cX9_driven 143 = .ok (.aload_n 0, 1) := by decide +kernel
theorem dX9_driven_144 : decode cX9_driven 144 = .ok (.getfield 50, 3) := by decide +kernel
theorem dX9_driven_147 : decode cX9_driven 147 = .ok (.iload_n 1, 1) := by decide +kernel
theorem dX9_driven_148 : decode cX9_driven 148 = .ok (.iaload, 1) := by decide +kernel
theorem dX9_driven_149 : decode cX9_driven 149 = .ok (.invokevirtual 229, 3) := by decide +kernel
theorem dX9_driven_152 : decode cX9_driven 152 = .ok (.invokevirtual 225, 3) := by decide +kernel
theorem dX9_driven_155 : decode cX9_driven 155 = .ok (.iinc 4 1, 3) := by decide +kernel
theorem dX9_driven_158 : decode cX9_driven 158 = .ok (.goto (-47), 3) := by decide +kernel
theorem dX9_driven_161 : decode cX9_driven 161 = .ok (.aload_n 0, 1) := by decide +kernel
theorem dX9_driven_162 : decode cX9_driven 162 = .ok (.iconst 1, 1) := by decide +kernel
theorem dX9_driven_163 : decode cX9_driven 163 = .ok (.iconst 2, 1) := by decide +kernel
theorem dX9_driven_164 : decode cX9_driven 164 = .ok (.iconst 0, 1) := by decide +kernel
theorem dX9_driven_165 : decode cX9_driven 165 = .ok (.invokevirtual 225, 3) := by decide +kernel
theorem dX9_driven_168 : decode cX9_driven 168 = .ok (.aload_n 0, 1) := by decide +kernel
theorem dX9_driven_169 : decode cX9_driven 169 = .ok (.iconst 0, 1) := by decide +kernel
theorem dX9_driven_170 : decode cX9_driven 170 = .ok (.iconst 1, 1) := by decide +kernel
theorem dX9_driven_171 : decode cX9_driven 171 = .ok (.iconst 0, 1) := by decide +kernel
theorem dX9_driven_172 : decode cX9_driven 172 = .ok (.invokevirtual 225, 3) := by decide +kernel
theorem dX9_driven_175 : decode cX9_driven 175 = .ok (.aload_n 0, 1) := by decide +kernel
theorem dX9_driven_176 : decode cX9_driven 176 = .ok (.invokevirtual 160, 3) := by decide +kernel
theorem dX9_driven_179 : decode cX9_driven 179 = .ok (.iconst 0, 1) := by decide +kernel
theorem dX9_driven_180 : decode cX9_driven 180 = .ok (.istore 4, 2) := by decide +kernel
theorem dX9_driven_182 : decode cX9_driven 182 = .ok (.iload 4, 2) := by decide +kernel
theorem dX9_driven_184 : decode cX9_driven 184 = .ok (.aload_n 0, 1) := by decide +kernel
theorem dX9_driven_185 : decode cX9_driven 185 = .ok (.getfield 131, 3) := by decide +kernel
theorem dX9_driven_188 : decode cX9_driven 188 = .ok (.if_icmp .ge 28, 3) := by decide +kernel
theorem dX9_driven_191 : decode cX9_driven 191 = .ok (.aload_n 0, 1) := by decide +kernel
theorem dX9_driven_192 : decode cX9_driven 192 = .ok (.getfield 72, 3) := by decide +kernel
theorem dX9_driven_195 : decode cX9_driven 195 = .ok (.iload 4, 2) := by decide +kernel
theorem dX9_driven_197 : decode cX9_driven 197 = .ok (.aload_n 0, 1) := by decide +kernel
theorem dX9_driven_198 : decode cX9_driven 198 = .ok (.getfield 66, 3) := by decide +kernel
theorem dX9_driven_201 : decode cX9_driven 201 = .ok (.aload_n 0, 1) := by decide +kernel
theorem dX9_driven_202 : decode cX9_driven 202 = .ok (.getfield 38, 3) := by decide +kernel
theorem dX9_driven_205 : decode cX9_driven 205 = .ok (.iload 4, 2) := by decide +kernel
theorem dX9_driven_207 : decode cX9_driven 207 = .ok (.iaload, 1) := by decide +kernel
theorem dX9_driven_208 : decode cX9_driven 208 = .ok (.iaload, 1) := by decide +kernel
theorem dX9_driven_209 : decode cX9_driven 209 = .ok (.iastore, 1) := by decide +kernel
theorem dX9_driven_210 : decode cX9_driven 210 = .ok (.iinc 4 1, 3) := by decide +kernel
theorem dX9_driven_213 : decode cX9_driven 213 = .ok (.goto (-31), 3) := by decide +kernel
theorem dX9_driven_216 : decode cX9_driven 216 = .ok (.aload_n 0, 1) := by decide +kernel
theorem dX9_driven_217 : decode cX9_driven 217 = .ok (.aload_n 0, 1) := by decide +kernel
theorem dX9_driven_218 : decode cX9_driven 218 = .ok (.getfield 131, 3) := by decide +kernel
theorem dX9_driven_221 : decode cX9_driven 221 = .ok (.putfield 232, 3) := by decide +kernel
theorem dX9_driven_224 : decode cX9_driven 224 = .ok (.aload_n 0, 1) := by decide +kernel
theorem dX9_driven_225 : decode cX9_driven 225 = .ok (.iconst 0, 1) := by decide +kernel
theorem dX9_driven_226 : decode cX9_driven 226 = .ok (.iconst 1, 1) := by decide +kernel
theorem dX9_driven_227 : decode cX9_driven 227 = .ok (.iconst 0, 1) := by decide +kernel
theorem dX9_driven_228 : decode cX9_driven 228 = .ok (.invokevirtual 225, 3) := by decide +kernel
theorem dX9_driven_231 : decode cX9_driven 231 = .ok (.iconst 1, 1) := by decide +kernel
theorem dX9_driven_232 : decode cX9_driven 232 = .ok (.istore 4, 2) := by decide +kernel
theorem dX9_driven_234 : decode cX9_driven 234 = .ok (.iload 4, 2) := by decide +kernel
theorem dX9_driven_236 : decode cX9_driven 236 = .ok (.iload_n 3, 1) := by decide +kernel
theorem dX9_driven_237 : decode cX9_driven 237 = .ok (.if_icmp .gt 44, 3) := by decide +kernel
theorem dX9_driven_240 : decode cX9_driven 240 = .ok (.aload_n 0, 1) := by decide +kernel
theorem dX9_driven_241 : decode cX9_driven 241 = .ok (.getfield 75, 3) := by decide +kernel
theorem dX9_driven_244 : decode cX9_driven 244 = .ok (.iload 4, 2) := by decide +kernel
theorem dX9_driven_246 : decode cX9_driven 246 = .ok (.iconst 1, 1) := by decide +kernel
theorem dX9_driven_247 : decode cX9_driven 247 = .ok (.isub, 1) := by decide +kernel
theorem dX9_driven_248 : decode cX9_driven 248 = .ok (.aload_n 0, 1) := by decide +kernel
theorem dX9_driven_249 : decode cX9_driven 249 = .ok (.iload 4, 2) := by decide +kernel
theorem dX9_driven_251 : decode cX9_driven 251 = .ok (.iload_n 3, 1) := by decide +kernel
theorem dX9_driven_252 : decode cX9_driven 252 = .ok (.if_icmp .ne 7, 3) := by decide +kernel
theorem dX9_driven_255 : decode cX9_driven 255 = .ok (.iconst 1, 1) := by decide +kernel
theorem dX9_driven_256 : decode cX9_driven 256 = .ok (.goto 4, 3) := by decide +kernel
theorem dX9_driven_259 : decode cX9_driven 259 = .ok (.iconst 0, 1) := by decide +kernel
theorem dX9_driven_260 : decode cX9_driven 260 = .ok (.iconst 0, 1) := by decide +kernel
theorem dX9_driven_261 : decode cX9_driven 261 = .ok (.invokevirtual 216, 3) := by decide +kernel
theorem dX9_driven_264 : decode cX9_driven 264 = .ok (.iastore, 1) := by decide +kernel
theorem dX9_driven_265 : decode cX9_driven 265 = .ok (.aload_n 0, 1) := by decide +kernel
theorem dX9_driven_266 : decode cX9_driven 266 = .ok (.dup, 1) := by decide +kernel
theorem dX9_driven_267 : decode cX9_driven 267 = .ok (.getfield 219, 3) := by decide +kernel
theorem dX9_driven_270 : decode cX9_driven 270 = .ok (.iconst 1, 1) := by decide +kernel
theorem dX9_driven_271 : decode cX9_driven 271 = .ok (.iadd, 1) := by decide +kernel
theorem dX9_driven_272 : decode cX9_driven 272 = .ok (.putfield 219, 3) := by decide +kernel
theorem dX9_driven_275 : decode cX9_driven 275 = .ok (.iinc 4 1, 3) := by decide +kernel
theorem dX9_driven_278 : decode cX9_driven 278 = .ok (.goto (-44), 3) := by decide +kernel
theorem dX9_driven_281 : decode cX9_driven 281 = .ok (.aload_n 0, 1) := by decide +kernel
theorem dX9_driven_282 : decode cX9_driven 282 = .ok (.iload_n 3, 1) := by decide +kernel
theorem dX9_driven_283 : decode cX9_driven 283 = .ok (.putfield 235, 3) := by decide +kernel
theorem dX9_driven_286 : decode cX9_driven 286 = .ok (.aload_n 0, 1) := by decide +kernel
theorem dX9_driven_287 : decode cX9_driven 287 = .ok (.iconst 1, 1) := by decide +kernel
theorem dX9_driven_288 : decode cX9_driven 288 = .ok (.iconst 1, 1) := by decide +kernel
theorem dX9_driven_289 : decode cX9_driven 289 = .ok (.iconst 0, 1) := by decide +kernel
theorem dX9_driven_290 : decode cX9_driven 290 = .ok (.invokevirtual 225, 3) := by decide +kernel
theorem dX9_driven_293 : decode cX9_driven 293 = .ok (.aload_n 0, 1) := by decide +kernel
theorem dX9_driven_294 : decode cX9_driven 294 = .ok (.iconst 0, 1) := by decide +kernel
theorem dX9_driven_295 : decode cX9_driven 295 = .ok (.iconst 1, 1) := by decide +kernel
theorem dX9_driven_296 : decode cX9_driven 296 = .ok (.iconst 0, 1) := by decide +kernel
theorem dX9_driven_297 : decode cX9_driven 297 = .ok (.invokevirtual 225, 3) := by decide +kernel
theorem dX9_driven_300 : decode cX9_driven 300 = .ok (.return_, 1) := by decide +kernel
theorem dX9_drive_0 : decode cX9_drive 0 = .ok (.iload_n 1, 1) := by decide +kernel
theorem dX9_drive_1 : decode cX9_drive 1 = .ok (.i2l, 1) := by decide +kernel
theorem dX9_drive_2 : decode cX9_drive 2 = .ok (.lconst 0, 1) := by decide +kernel
theorem dX9_drive_3 : decode cX9_drive 3 = .ok (.aload_n 0, 1) := by decide +kernel
theorem dX9_drive_4 : decode cX9_drive 4 = .ok (.getfield 134, 3) := by decide +kernel
theorem dX9_drive_7 : decode cX9_drive 7 = .ok (.iconst 1, 1) := by decide +kernel
theorem dX9_drive_8 : decode cX9_drive 8 = .ok (.isub, 1) := by decide +kernel
theorem dX9_drive_9 : decode cX9_drive 9 = .ok (.i2l, 1) := by decide +kernel
theorem dX9_drive_10 : decode cX9_drive 10 = .ok (.invokestatic 102, 3) := by decide +kernel
theorem dX9_drive_13 : decode cX9_drive 13 = .ok (.ifCond .ne 7, 3) := by decide +kernel
theorem dX9_drive_16 : decode cX9_drive 16 = .ok (.sipush (-1001), 3) := by decide +kernel
theorem dX9_drive_19 : decode cX9_drive 19 = .ok (.ireturn, 1) := by decide +kernel
theorem dX9_drive_20 : decode cX9_drive 20 = .ok (.aload_n 0, 1) := by decide +kernel
theorem dX9_drive_21 : decode cX9_drive 21 = .ok (.iload_n 1, 1) := by decide +kernel
theorem dX9_drive_22 : decode cX9_drive 22 = .ok (.invokevirtual 238, 3) := by decide +kernel
theorem dX9_drive_25 : decode cX9_drive 25 = .ok (.aload_n 0, 1) := by decide +kernel
theorem dX9_drive_26 : decode cX9_drive 26 = .ok (.dup, 1) := by decide +kernel
theorem dX9_drive_27 : decode cX9_drive 27 = .ok (.getfield 141, 3) := by decide +kernel
theorem dX9_drive_30 : decode cX9_drive 30 = .ok (.aload_n 0, 1) := by decide +kernel
theorem dX9_drive_31 : decode cX9_drive 31 = .ok (.getfield 219, 3) := by decide +kernel
theorem dX9_drive_34 : decode cX9_drive 34 = .ok (.iadd, 1) := by decide +kernel
theorem dX9_drive_35 : decode cX9_drive 35 = .ok (.putfield 141, 3) := by decide +kernel
theorem dX9_drive_38 : decode cX9_drive 38 = .ok (.iconst 0, 1) := by decide +kernel
theorem dX9_drive_39 : decode cX9_drive 39 = .ok (.istore_n 2, 1) := by decide +kernel
theorem dX9_drive_40 : decode cX9_drive 40 = .ok (.iload_n 2, 1) := by decide +kernel
theorem dX9_drive_41 : decode cX9_drive 41 = .ok (.bipush 8, 2) := by decide +kernel
theorem dX9_drive_43 : decode cX9_drive 43 = .ok (.if_icmp .ge 21, 3) := by decide +kernel
theorem dX9_drive_46 : decode cX9_drive 46 = .ok (.aload_n 0, 1) := by decide +kernel
theorem dX9_drive_47 : decode cX9_drive 47 = .ok (.getfield 78, 3) := by decide +kernel
theorem dX9_drive_50 : decode cX9_drive 50 = .ok (.iload_n 2, 1) := by decide +kernel
theorem dX9_drive_51 : decode cX9_drive 51 = .ok (.aload_n 0, 1) := by decide +kernel
theorem dX9_drive_52 : decode cX9_drive 52 = .ok (.getfield 72, 3) := by decide +kernel
theorem dX9_drive_55 : decode cX9_drive 55 = .ok (.iload_n 2, 1) := by decide +kernel
theorem dX9_drive_56 : decode cX9_drive 56 = .ok (.iaload, 1) := by decide +kernel
theorem dX9_drive_57 : decode cX9_drive 57 = .ok (.iastore, 1) := by decide +kernel
theorem dX9_drive_58 : decode cX9_drive 58 = .ok (.iinc 2 1, 3) := by decide +kernel
theorem dX9_drive_61 : decode cX9_drive 61 = .ok (.goto (-21), 3) := by decide +kernel
theorem dX9_drive_64 : decode cX9_drive 64 = .ok (.iconst 0, 1) := by decide +kernel
theorem dX9_drive_65 : decode cX9_drive 65 = .ok (.istore_n 2, 1) := by decide +kernel
theorem dX9_drive_66 : decode cX9_drive 66 = .ok (.iload_n 2, 1) := by decide +kernel
theorem dX9_drive_67 : decode cX9_drive 67 = .ok (.bipush 20, 2) := by decide +kernel
theorem dX9_drive_69 : decode cX9_drive 69 = .ok (.if_icmp .ge 21, 3) := by decide +kernel
theorem dX9_drive_72 : decode cX9_drive 72 = .ok (.aload_n 0, 1) := by decide +kernel
theorem dX9_drive_73 : decode cX9_drive 73 = .ok (.getfield 81, 3) := by decide +kernel
theorem dX9_drive_76 : decode cX9_drive 76 = .ok (.iload_n 2, 1) := by decide +kernel
theorem dX9_drive_77 : decode cX9_drive 77 = .ok (.aload_n 0, 1) := by decide +kernel
theorem dX9_drive_78 : decode cX9_drive 78 = .ok (.getfield 75, 3) := by decide +kernel
theorem dX9_drive_81 : decode cX9_drive 81 = .ok (.iload_n 2, 1) := by decide +kernel
theorem dX9_drive_82 : decode cX9_drive 82 = .ok (.iaload, 1) := by decide +kernel
theorem dX9_drive_83 : decode cX9_drive 83 = .ok (.iastore, 1) := by decide +kernel
theorem dX9_drive_84 : decode cX9_drive 84 = .ok (.iinc 2 1, 3) := by decide +kernel
theorem dX9_drive_87 : decode cX9_drive 87 = .ok (.goto (-21), 3) := by decide +kernel
theorem dX9_drive_90 : decode cX9_drive 90 = .ok (.aload_n 0, 1) := by decide +kernel
theorem dX9_drive_91 : decode cX9_drive 91 = .ok (.aload_n 0, 1) := by decide +kernel
theorem dX9_drive_92 : decode cX9_drive 92 = .ok (.getfield 232, 3) := by decide +kernel
theorem dX9_drive_95 : decode cX9_drive 95 = .ok (.putfield 241, 3) := by decide +kernel
theorem dX9_drive_98 : decode cX9_drive 98 = .ok (.aload_n 0, 1) := by decide +kernel
theorem dX9_drive_99 : decode cX9_drive 99 = .ok (.aload_n 0, 1) := by decide +kernel
theorem dX9_drive_100 : decode cX9_drive 100 = .ok (.getfield 235, 3) := by decide +kernel
theorem dX9_drive_103 : decode cX9_drive 103 = .ok (.putfield 244, 3) := by decide +kernel
theorem dX9_drive_106 : decode cX9_drive 106 = .ok (.aload_n 0, 1) := by decide +kernel
theorem dX9_drive_107 : decode cX9_drive 107 = .ok (.getfield 219, 3) := by decide +kernel
theorem dX9_drive_110 : decode cX9_drive 110 = .ok (.ireturn, 1) := by decide +kernel
theorem dX9_seen_0 : decode cX9_seen 0 = .ok (.iload_n 1, 1) := by decide +kernel
theorem dX9_seen_1 : decode cX9_seen 1 = .ok (.i2l, 1) := by decide +kernel
theorem dX9_seen_2 : decode cX9_seen 2 = .ok (.lconst 0, 1) := by decide +kernel
theorem dX9_seen_3 : decode cX9_seen 3 = .ok (.lconst 1, 1) := by decide +kernel
theorem dX9_seen_4 : decode cX9_seen 4 = .ok (.invokestatic 102, 3) := by decide +kernel
theorem dX9_seen_7 : decode cX9_seen 7 = .ok (.ifCond .ne 7, 3) := by decide +kernel
theorem dX9_seen_10 : decode cX9_seen 10 = .ok (.sipush (-1002), 3) := by decide +kernel
theorem dX9_seen_13 : decode cX9_seen 13 = .ok (.ireturn, 1) := by decide +kernel
theorem dX9_seen_14 : decode cX9_seen 14 = .ok (.iload_n 1, 1) := by decide +kernel
theorem dX9_seen_15 : decode cX9_seen 15 = .ok (.ifCond .ne 30, 3) := by decide +kernel
theorem dX9_seen_18 : decode cX9_seen 18 = .ok (.iload_n 2, 1) := by decide +kernel
theorem dX9_seen_19 : decode cX9_seen 19 = .ok (.i2l, 1) := by decide +kernel
theorem dX9_seen_20 : decode cX9_seen 20 = .ok (.lconst 0, 1) := by decide +kernel
theorem dX9_seen_21 : decode cX9_seen 21 = .ok (.aload_n 0, 1) := by decide +kernel
theorem dX9_seen_22 : decode cX9_seen 22 = .ok (.getfield 241, 3) := by decide +kernel
theorem dX9_seen_25 : decode cX9_seen 25 = .ok (.iconst 1, 1) := by decide +kernel
theorem dX9_seen_26 : decode cX9_seen 26 = .ok (.isub, 1) := by decide +kernel
theorem dX9_seen_27 : decode cX9_seen 27 = .ok (.i2l, 1) := by decide +kernel
theorem dX9_seen_28 : decode cX9_seen 28 = .ok (.invokestatic 102, 3) := by decide +kernel
theorem dX9_seen_31 : decode cX9_seen 31 = .ok (.ifCond .eq 12, 3) := by decide +kernel
theorem dX9_seen_34 : decode cX9_seen 34 = .ok (.aload_n 0, 1) := by decide +kernel
theorem dX9_seen_35 : decode cX9_seen 35 = .ok (.getfield 78, 3) := by decide +kernel
theorem dX9_seen_38 : decode cX9_seen 38 = .ok (.iload_n 2, 1) := by decide +kernel
theorem dX9_seen_39 : decode cX9_seen 39 = .ok (.iaload, 1) := by decide +kernel
theorem dX9_seen_40 : decode cX9_seen 40 = .ok (.goto 4, 3) := by decide +kernel
theorem dX9_seen_43 : decode cX9_seen 43 = .ok (.iconst (-1), 1) := by decide +kernel
theorem dX9_seen_44 : decode cX9_seen 44 = .ok (.ireturn, 1) := by decide +kernel
theorem dX9_seen_45 : decode cX9_seen 45 = .ok (.iload_n 2, 1) := by decide +kernel
theorem dX9_seen_46 : decode cX9_seen 46 = .ok (.i2l, 1) := by decide +kernel
theorem dX9_seen_47 : decode cX9_seen 47 = .ok (.lconst 0, 1) := by decide +kernel
theorem dX9_seen_48 : decode cX9_seen 48 = .ok (.aload_n 0, 1) := by decide +kernel
theorem dX9_seen_49 : decode cX9_seen 49 = .ok (.getfield 244, 3) := by decide +kernel
theorem dX9_seen_52 : decode cX9_seen 52 = .ok (.iconst 1, 1) := by decide +kernel
theorem dX9_seen_53 : decode cX9_seen 53 = .ok (.isub, 1) := by decide +kernel
theorem dX9_seen_54 : decode cX9_seen 54 = .ok (.i2l, 1) := by decide +kernel
theorem dX9_seen_55 : decode cX9_seen 55 = .ok (.invokestatic 102, 3) := by decide +kernel
theorem dX9_seen_58 : decode cX9_seen 58 = .ok (.ifCond .eq 12, 3) := by decide +kernel
theorem dX9_seen_61 : decode cX9_seen 61 = .ok (.aload_n 0, 1) := by decide +kernel
theorem dX9_seen_62 : decode cX9_seen 62 = .ok (.getfield 81, 3) := by decide +kernel
theorem dX9_seen_65 : decode cX9_seen 65 = .ok (.iload_n 2, 1) := by decide +kernel
theorem dX9_seen_66 : decode cX9_seen 66 = .ok (.iaload, 1) := by decide +kernel
theorem dX9_seen_67 : decode cX9_seen 67 = .ok (.goto 4, 3) := by decide +kernel
theorem dX9_seen_70 : decode cX9_seen 70 = .ok (.iconst (-1), 1) := by decide +kernel
theorem dX9_seen_71 : decode cX9_seen 71 = .ok (.ireturn, 1) := by decide +kernel
theorem dX9_keep_0 : decode cX9_keep 0 = .ok (.iconst 0, 1) := by decide +kernel
theorem dX9_keep_1 : decode cX9_keep 1 = .ok (.istore_n 1, 1) := by decide +kernel
theorem dX9_keep_2 : decode cX9_keep 2 = .ok (.iload_n 1, 1) := by decide +kernel
theorem dX9_keep_3 : decode cX9_keep 3 = .ok (.bipush 8, 2) := by decide +kernel
theorem dX9_keep_5 : decode cX9_keep 5 = .ok (.if_icmp .ge 21, 3) := by decide +kernel
theorem dX9_keep_8 : decode cX9_keep 8 = .ok (.aload_n 0, 1) := by decide +kernel
theorem dX9_keep_9 : decode cX9_keep 9 = .ok (.getfield 84, 3) := by decide +kernel
theorem dX9_keep_12 : decode cX9_keep 12 = .ok (.iload_n 1, 1) := by decide +kernel
theorem dX9_keep_13 : decode cX9_keep 13 = .ok (.aload_n 0, 1) := by decide +kernel
theorem dX9_keep_14 : decode cX9_keep 14 = .ok (.getfield 53, 3) := by decide +kernel
theorem dX9_keep_17 : decode cX9_keep 17 = .ok (.iload_n 1, 1) := by decide +kernel
theorem dX9_keep_18 : decode cX9_keep 18 = .ok (.iaload, 1) := by decide +kernel
theorem dX9_keep_19 : decode cX9_keep 19 = .ok (.iastore, 1) := by decide +kernel
theorem dX9_keep_20 : decode cX9_keep 20 = .ok (.iinc 1 1, 3) := by decide +kernel
theorem dX9_keep_23 : decode cX9_keep 23 = .ok (.goto (-21), 3) := by decide +kernel
theorem dX9_keep_26 : decode cX9_keep 26 = .ok (.iconst 0, 1) := by decide +kernel
theorem dX9_keep_27 : decode cX9_keep 27 = .ok (.istore_n 1, 1) := by decide +kernel
theorem dX9_keep_28 : decode cX9_keep 28 = .ok (.iload_n 1, 1) := by decide +kernel
theorem dX9_keep_29 : decode cX9_keep 29 = .ok (.bipush 20, 2) := by decide +kernel
theorem dX9_keep_31 : decode cX9_keep 31 = .ok (.if_icmp .ge 21, 3) := by decide +kernel
theorem dX9_keep_34 : decode cX9_keep 34 = .ok (.aload_n 0, 1) := by decide +kernel
theorem dX9_keep_35 : decode cX9_keep 35 = .ok (.getfield 87, 3) := by decide +kernel
theorem dX9_keep_38 : decode cX9_keep 38 = .ok (.iload_n 1, 1) := by decide +kernel
theorem dX9_keep_39 : decode cX9_keep 39 = .ok (.aload_n 0, 1) := by decide +kernel
theorem dX9_keep_40 : decode cX9_keep 40 = .ok (.getfield 56, 3) := by decide +kernel
theorem dX9_keep_43 : decode cX9_keep 43 = .ok (.iload_n 1, 1) := by decide +kernel
theorem dX9_keep_44 : decode cX9_keep 44 = .ok (.iaload, 1) := by decide +kernel
theorem dX9_keep_45 : decode cX9_keep 45 = .ok (.iastore, 1) := by decide +kernel
theorem dX9_keep_46 : decode cX9_keep 46 = .ok (.iinc 1 1, 3) := by decide +kernel
theorem dX9_keep_49 : decode cX9_keep 49 = .ok (.goto (-21), 3) := by decide +kernel
theorem dX9_keep_52 : decode cX9_keep 52 = .ok (.aload_n 0, 1) := by decide +kernel
theorem dX9_keep_53 : decode cX9_keep 53 = .ok (.getfield 90, 3) := by decide +kernel
theorem dX9_keep_56 : decode cX9_keep 56 = .ok (.iconst 0, 1) := by decide +kernel
theorem dX9_keep_57 : decode cX9_keep 57 = .ok (.aload_n 0, 1) := by decide +kernel
theorem dX9_keep_58 : decode cX9_keep 58 = .ok (.getfield 59, 3) := by decide +kernel
theorem dX9_keep_61 : decode cX9_keep 61 = .ok (.iastore, 1) := by decide +kernel
theorem dX9_keep_62 : decode cX9_keep 62 = .ok (.aload_n 0, 1) := by decide +kernel
theorem dX9_keep_63 : decode cX9_keep 63 = .ok (.getfield 90, 3) := by decide +kernel
theorem dX9_keep_66 : decode cX9_keep 66 = .ok (.iconst 1, 1) := by decide +kernel
theorem dX9_keep_67 : decode cX9_keep 67 = .ok (.aload_n 0, 1) := by decide +kernel
theorem dX9_keep_68 : decode cX9_keep 68 = .ok (.getfield 157, 3) := by decide +kernel
theorem dX9_keep_71 : decode cX9_keep 71 = .ok (.iastore, 1) := by decide +kernel
theorem dX9_keep_72 : decode cX9_keep 72 = .ok (.aload_n 0, 1) := by decide +kernel
theorem dX9_keep_73 : decode cX9_keep 73 = .ok (.getfield 90, 3) := by decide +kernel
theorem dX9_keep_76 : decode cX9_keep 76 = .ok (.iconst 2, 1) := by decide +kernel
theorem dX9_keep_77 : decode cX9_keep 77 = .ok (.aload_n 0, 1) := by decide +kernel
theorem dX9_keep_78 : decode cX9_keep 78 = .ok (.getfield 201, 3) := by decide +kernel
theorem dX9_keep_81 : decode cX9_keep 81 = .ok (.iastore, 1) := by decide +kernel
theorem dX9_keep_82 : decode cX9_keep 82 = .ok (.aload_n 0, 1) := by decide +kernel
theorem dX9_keep_83 : decode cX9_keep 83 = .ok (.getfield 90, 3) := by decide +kernel
theorem dX9_keep_86 : decode cX9_keep 86 = .ok (.iconst 3, 1) := by decide +kernel
theorem dX9_keep_87 : decode cX9_keep 87 = .ok (.aload_n 0, 1) := by decide +kernel
theorem dX9_keep_88 : decode cX9_keep 88 = .ok (.getfield 63, 3) := by decide +kernel
theorem dX9_keep_91 : decode cX9_keep 91 = .ok (.iastore, 1) := by decide +kernel
theorem dX9_keep_92 : decode cX9_keep 92 = .ok (.aload_n 0, 1) := by decide +kernel
theorem dX9_keep_93 : decode cX9_keep 93 = .ok (.getfield 90, 3) := by decide +kernel
theorem dX9_keep_96 : decode cX9_keep 96 = .ok (.iconst 4, 1) := by decide +kernel
theorem dX9_keep_97 : decode cX9_keep 97 = .ok (.aload_n 0, 1) := by decide +kernel
theorem dX9_keep_98 : decode cX9_keep 98 = .ok (.getfield 210, 3) := by decide +kernel
theorem dX9_keep_101 : decode cX9_keep 101 = .ok (.iastore, 1) := by decide +kernel
theorem dX9_keep_102 : decode cX9_keep 102 = .ok (.aload_n 0, 1) := by decide +kernel
theorem dX9_keep_103 : decode cX9_keep 103 = .ok (.getfield 90, 3) := by decide +kernel
theorem dX9_keep_106 : decode cX9_keep 106 = .ok (.iconst 5, 1) := by decide +kernel
theorem dX9_keep_107 : decode cX9_keep 107 = .ok (.aload_n 0, 1) := by decide +kernel
theorem dX9_keep_108 : decode cX9_keep 108 = .ok (.getfield 198, 3) := by decide +kernel
theorem dX9_keep_111 : decode cX9_keep 111 = .ok (.iastore, 1) := by decide +kernel
theorem dX9_keep_112 : decode cX9_keep 112 = .ok (.aload_n 0, 1) := by decide +kernel
theorem dX9_keep_113 : decode cX9_keep 113 = .ok (.getfield 90, 3) := by decide +kernel
theorem dX9_keep_116 : decode cX9_keep 116 = .ok (.bipush 6, 2) := by decide +kernel
theorem dX9_keep_118 : decode cX9_keep 118 = .ok (.aload_n 0, 1) := by decide +kernel
theorem dX9_keep_119 : decode cX9_keep 119 = .ok (.getfield 195, 3) := by decide +kernel
theorem dX9_keep_122 : decode cX9_keep 122 = .ok (.iastore, 1) := by decide +kernel
theorem dX9_keep_123 : decode cX9_keep 123 = .ok (.return_, 1) := by decide +kernel
theorem dX9_back_0 : decode cX9_back 0 = .ok (.iconst 0, 1) := by decide +kernel
theorem dX9_back_1 : decode cX9_back 1 = .ok (.istore_n 1, 1) := by decide +kernel
theorem dX9_back_2 : decode cX9_back 2 = .ok (.iload_n 1, 1) := by decide +kernel
theorem dX9_back_3 : decode cX9_back 3 = .ok (.bipush 8, 2) := by decide +kernel
theorem dX9_back_5 : decode cX9_back 5 = .ok (.if_icmp .ge 21, 3) := by decide +kernel
theorem dX9_back_8 : decode cX9_back 8 = .ok (.aload_n 0, 1) := by decide +kernel
theorem dX9_back_9 : decode cX9_back 9 = .ok (.getfield 53, 3) := by decide +kernel
theorem dX9_back_12 : decode cX9_back 12 = .ok (.iload_n 1, 1) := by decide +kernel
theorem dX9_back_13 : decode cX9_back 13 = .ok (.aload_n 0, 1) := by decide +kernel
theorem dX9_back_14 : decode cX9_back 14 = .ok (.getfield 84, 3) := by decide +kernel
theorem dX9_back_17 : decode cX9_back 17 = .ok (.iload_n 1, 1) := by decide +kernel
theorem dX9_back_18 : decode cX9_back 18 = .ok (.iaload, 1) := by decide +kernel
theorem dX9_back_19 : decode cX9_back 19 = .ok (.iastore, 1) := by decide +kernel
theorem dX9_back_20 : decode cX9_back 20 = .ok (.iinc 1 1, 3) := by decide +kernel
theorem dX9_back_23 : decode cX9_back 23 = .ok (.goto (-21), 3) := by decide +kernel
theorem dX9_back_26 : decode cX9_back 26 = .ok (.iconst 0, 1) := by decide +kernel
theorem dX9_back_27 : decode cX9_back 27 = .ok (.istore_n 1, 1) := by decide +kernel
theorem dX9_back_28 : decode cX9_back 28 = .ok (.iload_n 1, 1) := by decide +kernel
theorem dX9_back_29 : decode cX9_back 29 = .ok (.bipush 20, 2) := by decide +kernel
theorem dX9_back_31 : decode cX9_back 31 = .ok (.if_icmp .ge 21, 3) := by decide +kernel
theorem dX9_back_34 : decode cX9_back 34 = .ok (.aload_n 0, 1) := by decide +kernel
theorem dX9_back_35 : decode cX9_back 35 = .ok (.getfield 56, 3) := by decide +kernel
theorem dX9_back_38 : decode cX9_back 38 = .ok (.iload_n 1, 1) := by decide +kernel
theorem dX9_back_39 : decode cX9_back 39 = .ok (.aload_n 0, 1) := by decide +kernel
theorem dX9_back_40 : decode cX9_back 40 = .ok (.getfield 87, 3) := by decide +kernel
theorem dX9_back_43 : decode cX9_back 43 = .ok (.iload_n 1, 1) := by decide +kernel
theorem dX9_back_44 : decode cX9_back 44 = .ok (.iaload, 1) := by decide +kernel
theorem dX9_back_45 : decode cX9_back 45 = .ok (.iastore, 1) := by decide +kernel
theorem dX9_back_46 : decode cX9_back 46 = .ok (.iinc 1 1, 3) := by decide +kernel
theorem dX9_back_49 : decode cX9_back 49 = .ok (.goto (-21), 3) := by decide +kernel
theorem dX9_back_52 : decode cX9_back 52 = .ok (.aload_n 0, 1) := by decide +kernel
theorem dX9_back_53 : decode cX9_back 53 = .ok (.aload_n 0, 1) := by decide +kernel
theorem dX9_back_54 : decode cX9_back 54 = .ok (.getfield 90, 3) := by decide +kernel
theorem dX9_back_57 : decode cX9_back 57 = .ok (.iconst 0, 1) := by decide +kernel
theorem dX9_back_58 : decode cX9_back 58 = .ok (.iaload, 1) := by decide +kernel
theorem dX9_back_59 : decode cX9_back 59 = .ok (.putfield 59, 3) := by decide +kernel
theorem dX9_back_62 : decode cX9_back 62 = .ok (.aload_n 0, 1) := by decide +kernel
theorem dX9_back_63 : decode cX9_back 63 = .ok (.aload_n 0, 1) := by decide +kernel
theorem dX9_back_64 : decode cX9_back 64 = .ok (.getfield 90, 3) := by decide +kernel
theorem dX9_back_67 : decode cX9_back 67 = .ok (.iconst 1, 1) := by decide +kernel
theorem dX9_back_68 : decode cX9_back 68 = .ok (.iaload, 1) := by decide +kernel
theorem dX9_back_69 : decode cX9_back 69 = .ok (.putfield 157, 3) := by decide +kernel
theorem dX9_back_72 : decode cX9_back 72 = .ok (.aload_n 0, 1) := by decide +kernel
theorem dX9_back_73 : decode cX9_back 73 = .ok (.aload_n 0, 1) := by decide +kernel
theorem dX9_back_74 : decode cX9_back 74 = .ok (.getfield 90, 3) := by decide +kernel
theorem dX9_back_77 : decode cX9_back 77 = .ok (.iconst 2, 1) := by decide +kernel
theorem dX9_back_78 : decode cX9_back 78 = .ok (.iaload, 1) := by decide +kernel
theorem dX9_back_79 : decode cX9_back 79 = .ok (.putfield 201, 3) := by decide +kernel
theorem dX9_back_82 : decode cX9_back 82 = .ok (.aload_n 0, 1) := by decide +kernel
theorem dX9_back_83 : decode cX9_back 83 = .ok (.aload_n 0, 1) := by decide +kernel
theorem dX9_back_84 : decode cX9_back 84 = .ok (.getfield 90, 3) := by decide +kernel
theorem dX9_back_87 : decode cX9_back 87 = .ok (.iconst 3, 1) := by decide +kernel
theorem dX9_back_88 : decode cX9_back 88 = .ok (.iaload, 1) := by decide +kernel
theorem dX9_back_89 : decode cX9_back 89 = .ok (.putfield 63, 3) := by decide +kernel
theorem dX9_back_92 : decode cX9_back 92 = .ok (.aload_n 0, 1) := by decide +kernel
theorem dX9_back_93 : decode cX9_back 93 = .ok (.aload_n 0, 1) := by decide +kernel
theorem dX9_back_94 : decode cX9_back 94 = .ok (.getfield 90, 3) := by decide +kernel
theorem dX9_back_97 : decode cX9_back 97 = .ok (.iconst 4, 1) := by decide +kernel
theorem dX9_back_98 : decode cX9_back 98 = .ok (.iaload, 1) := by decide +kernel
theorem dX9_back_99 : decode cX9_back 99 = .ok (.putfield 210, 3) := by decide +kernel
theorem dX9_back_102 : decode cX9_back 102 = .ok (.aload_n 0, 1) := by decide +kernel
theorem dX9_back_103 : decode cX9_back 103 = .ok (.aload_n 0, 1) := by decide +kernel
theorem dX9_back_104 : decode cX9_back 104 = .ok (.getfield 90, 3) := by decide +kernel
theorem dX9_back_107 : decode cX9_back 107 = .ok (.iconst 5, 1) := by decide +kernel
theorem dX9_back_108 : decode cX9_back 108 = .ok (.iaload, 1) := by decide +kernel
theorem dX9_back_109 : decode cX9_back 109 = .ok (.putfield 198, 3) := by decide +kernel
theorem dX9_back_112 : decode cX9_back 112 = .ok (.aload_n 0, 1) := by decide +kernel
theorem dX9_back_113 : decode cX9_back 113 = .ok (.aload_n 0, 1) := by decide +kernel
theorem dX9_back_114 : decode cX9_back 114 = .ok (.getfield 90, 3) := by decide +kernel
theorem dX9_back_117 : decode cX9_back 117 = .ok (.bipush 6, 2) := by decide +kernel
theorem dX9_back_119 : decode cX9_back 119 = .ok (.iaload, 1) := by decide +kernel
theorem dX9_back_120 : decode cX9_back 120 = .ok (.putfield 195, 3) := by decide +kernel
theorem dX9_back_123 : decode cX9_back 123 = .ok (.return_, 1) := by decide +kernel
theorem dX9_fromNew_0 : decode cX9_fromNew 0 = .ok (.iconst 0, 1) := by decide +kernel
theorem dX9_fromNew_1 : decode cX9_fromNew 1 = .ok (.istore 4, 2) := by decide +kernel
theorem dX9_fromNew_3 : decode cX9_fromNew 3 = .ok (.iload 4, 2) := by decide +kernel
theorem dX9_fromNew_5 : decode cX9_fromNew 5 = .ok (.aload_n 0, 1) := by decide +kernel
theorem dX9_fromNew_6 : decode cX9_fromNew 6 = .ok (.getfield 106, 3) := by decide +kernel
theorem dX9_fromNew_9 : decode cX9_fromNew 9 = .ok (.if_icmp .ge 17, 3) := by decide +kernel
theorem dX9_fromNew_12 : decode cX9_fromNew 12 = .ok (.aload_n 0, 1) := by decide +kernel
theorem dX9_fromNew_13 : decode cX9_fromNew 13 = .ok (.getfield 56, 3) := by decide +kernel
theorem dX9_fromNew_16 : decode cX9_fromNew 16 = .ok (.iload 4, 2) := by decide +kernel
theorem dX9_fromNew_18 : decode cX9_fromNew 18 = .ok (.iconst 2, 1) := by decide +kernel
theorem dX9_fromNew_19 : decode cX9_fromNew 19 = .ok (.iastore, 1) := by decide +kernel
theorem dX9_fromNew_20 : decode cX9_fromNew 20 = .ok (.iinc 4 1, 3) := by decide +kernel
theorem dX9_fromNew_23 : decode cX9_fromNew 23 = .ok (.goto (-20), 3) := by decide +kernel
theorem dX9_fromNew_26 : decode cX9_fromNew 26 = .ok (.aload_n 0, 1) := by decide +kernel
theorem dX9_fromNew_27 : decode cX9_fromNew 27 = .ok (.iconst 0, 1) := by decide +kernel
theorem dX9_fromNew_28 : decode cX9_fromNew 28 = .ok (.putfield 201, 3) := by decide +kernel
theorem dX9_fromNew_31 : decode cX9_fromNew 31 = .ok (.aload_n 0, 1) := by decide +kernel
theorem dX9_fromNew_32 : decode cX9_fromNew 32 = .ok (.iconst 4, 1) := by decide +kernel
theorem dX9_fromNew_33 : decode cX9_fromNew 33 = .ok (.putfield 63, 3) := by decide +kernel
theorem dX9_fromNew_36 : decode cX9_fromNew 36 = .ok (.aload_n 0, 1) := by decide +kernel
theorem dX9_fromNew_37 : decode cX9_fromNew 37 = .ok (.iload_n 2, 1) := by decide +kernel
theorem dX9_fromNew_38 : decode cX9_fromNew 38 = .ok (.putfield 59, 3) := by decide +kernel
theorem dX9_fromNew_41 : decode cX9_fromNew 41 = .ok (.aload_n 0, 1) := by decide +kernel
theorem dX9_fromNew_42 : decode cX9_fromNew 42 = .ok (.iload_n 3, 1) := by decide +kernel
theorem dX9_fromNew_43 : decode cX9_fromNew 43 = .ok (.putfield 157, 3) := by decide +kernel
theorem dX9_fromNew_46 : decode cX9_fromNew 46 = .ok (.aload_n 0, 1) := by decide +kernel
theorem dX9_fromNew_47 : decode cX9_fromNew 47 = .ok (.iload_n 1, 1) := by decide +kernel
theorem dX9_fromNew_48 : decode cX9_fromNew 48 = .ok (.invokevirtual 238, 3) := by decide +kernel
theorem dX9_fromNew_51 : decode cX9_fromNew 51 = .ok (.return_, 1) := by decide +kernel
theorem dX9_findSound_0 : decode cX9_findSound 0 = .ok (.aload_n 0, 1) := by decide +kernel
theorem dX9_findSound_1 : decode cX9_findSound 1 = .ok (.iload_n 1, 1) := by decide +kernel
theorem dX9_findSound_2 : decode cX9_findSound 2 = .ok (.iconst (-1), 1) := by decide +kernel
theorem dX9_findSound_3 : decode cX9_findSound 3 = .ok (.iconst 0, 1) := by decide +kernel
theorem dX9_findSound_4 : decode cX9_findSound 4 = .ok (.invokevirtual 247, 3) := by decide +kernel
theorem dX9_findSound_7 : decode cX9_findSound 7 = .ok (.iconst 0, 1) := by decide +kernel
theorem dX9_findSound_8 : decode cX9_findSound 8 = .ok (.istore_n 2, 1) := by decide +kernel
theorem dX9_findSound_9 : decode cX9_findSound 9 = .ok (.iload_n 2, 1) := by decide +kernel
theorem dX9_findSound_10 : decode cX9_findSound 10 = .ok (.aload_n 0, 1) := by decide +kernel
theorem dX9_findSound_11 : decode cX9_findSound 11 = .ok (.getfield 232, 3) := by decide +kernel
theorem dX9_findSound_14 : decode cX9_findSound 14 = .ok (.if_icmp .ge 26, 3) := by decide +kernel
theorem dX9_findSound_17 : decode cX9_findSound 17 = .ok (.aload_n 0, 1) := by decide +kernel
theorem dX9_findSound_18 : decode cX9_findSound 18 = .ok (.getfield 93, 3) := by decide +kernel
theorem dX9_findSound_21 : decode cX9_findSound 21 = .ok (.bipush 8, 2) := by decide +kernel
theorem dX9_findSound_23 : decode cX9_findSound 23 = .ok (.iload_n 1, 1) := by decide +kernel
theorem dX9_findSound_24 : decode cX9_findSound 24 = .ok (.imul, 1) := by decide +kernel
theorem dX9_findSound_25 : decode cX9_findSound 25 = .ok (.iload_n 2, 1) := by decide +kernel
theorem dX9_findSound_26 : decode cX9_findSound 26 = .ok (.iadd, 1) := by decide +kernel
theorem dX9_findSound_27 : decode cX9_findSound 27 = .ok (.aload_n 0, 1) := by decide +kernel
theorem dX9_findSound_28 : decode cX9_findSound 28 = .ok (.getfield 72, 3) := by decide +kernel
theorem dX9_findSound_31 : decode cX9_findSound 31 = .ok (.iload_n 2, 1) := by decide +kernel
theorem dX9_findSound_32 : decode cX9_findSound 32 = .ok (.iaload, 1) := by decide +kernel
theorem dX9_findSound_33 : decode cX9_findSound 33 = .ok (.iastore, 1) := by decide +kernel
theorem dX9_findSound_34 : decode cX9_findSound 34 = .ok (.iinc 2 1, 3) := by decide +kernel
theorem dX9_findSound_37 : decode cX9_findSound 37 = .ok (.goto (-28), 3) := by decide +kernel
theorem dX9_findSound_40 : decode cX9_findSound 40 = .ok (.iconst 0, 1) := by decide +kernel
theorem dX9_findSound_41 : decode cX9_findSound 41 = .ok (.istore_n 2, 1) := by decide +kernel
theorem dX9_findSound_42 : decode cX9_findSound 42 = .ok (.iload_n 2, 1) := by decide +kernel
theorem dX9_findSound_43 : decode cX9_findSound 43 = .ok (.aload_n 0, 1) := by decide +kernel
theorem dX9_findSound_44 : decode cX9_findSound 44 = .ok (.getfield 235, 3) := by decide +kernel
theorem dX9_findSound_47 : decode cX9_findSound 47 = .ok (.if_icmp .ge 26, 3) := by decide +kernel
theorem dX9_findSound_50 : decode cX9_findSound 50 = .ok (.aload_n 0, 1) := by decide +kernel
theorem dX9_findSound_51 : decode cX9_findSound 51 = .ok (.getfield 96, 3) := by decide +kernel
theorem dX9_findSound_54 : decode cX9_findSound 54 = .ok (.bipush 20, 2) := by decide +kernel
theorem dX9_findSound_56 : decode cX9_findSound 56 = .ok (.iload_n 1, 1) := by decide +kernel
theorem dX9_findSound_57 : decode cX9_findSound 57 = .ok (.imul, 1) := by decide +kernel
theorem dX9_findSound_58 : decode cX9_findSound 58 = .ok (.iload_n 2, 1) := by decide +kernel
theorem dX9_findSound_59 : decode cX9_findSound 59 = .ok (.iadd, 1) := by decide +kernel
theorem dX9_findSound_60 : decode cX9_findSound 60 = .ok (.aload_n 0, 1) := by decide +kernel
theorem dX9_findSound_61 : decode cX9_findSound 61 = .ok (.getfield 75, 3) := by decide +kernel
theorem dX9_findSound_64 : decode cX9_findSound 64 = .ok (.iload_n 2, 1) := by decide +kernel
theorem dX9_findSound_65 : decode cX9_findSound 65 = .ok (.iaload, 1) := by decide +kernel
theorem dX9_findSound_66 : decode cX9_findSound 66 = .ok (.iastore, 1) := by decide +kernel
theorem dX9_findSound_67 : decode cX9_findSound 67 = .ok (.iinc 2 1, 3) := by decide +kernel
theorem dX9_findSound_70 : decode cX9_findSound 70 = .ok (.goto (-28), 3) := by decide +kernel
theorem dX9_findSound_73 : decode cX9_findSound 73 = .ok (.return_, 1) := by decide +kernel
theorem dX9_isUnlike_0 : decode cX9_isUnlike 0 = .ok (.iload_n 0, 1) := by decide +kernel
theorem dX9_isUnlike_1 : decode cX9_isUnlike 1 = .ok (.iconst 2, 1) := by decide +kernel
theorem dX9_isUnlike_2 : decode cX9_isUnlike 2 = .ok (.if_icmp .eq 17, 3) := by decide +kernel
theorem dX9_isUnlike_5 : decode cX9_isUnlike 5 = .ok (.iload_n 1, 1) := by decide +kernel
theorem dX9_isUnlike_6 : decode cX9_isUnlike 6 = .ok (.iconst 2, 1) := by decide +kernel
theorem dX9_isUnlike_7 : decode cX9_isUnlike 7 = .ok (.if_icmp .eq 12, 3) := by decide +kernel
theorem dX9_isUnlike_10 : decode cX9_isUnlike 10 = .ok (.iload_n 0, 1) := by decide +kernel
theorem dX9_isUnlike_11 : decode cX9_isUnlike 11 = .ok (.iload_n 1, 1) := by decide +kernel
theorem dX9_isUnlike_12 : decode cX9_isUnlike 12 = .ok (.if_icmp .eq 7, 3) := by decide +kernel
theorem dX9_isUnlike_15 : decode cX9_isUnlike 15 = .ok (.iconst 1, 1) := by decide +kernel
theorem dX9_isUnlike_16 : decode cX9_isUnlike 16 = .ok (.goto 4, 3) := by decide +kernel
theorem dX9_isUnlike_19 : decode cX9_isUnlike 19 = .ok (.iconst 0, 1) := by decide +kernel
theorem dX9_isUnlike_20 : decode cX9_isUnlike 20 = .ok (.ireturn, 1) := by decide +kernel
theorem dX9_isShown_0 : decode cX9_isShown 0 = .ok (.aload_n 0, 1) := by decide +kernel
theorem dX9_isShown_1 : decode cX9_isShown 1 = .ok (.iload_n 1, 1) := by decide +kernel
theorem dX9_isShown_2 : decode cX9_isShown 2 = .ok (.iload_n 2, 1) := by decide +kernel
theorem dX9_isShown_3 : decode cX9_isShown 3 = .ok (.iload_n 3, 1) := by decide +kernel
theorem dX9_isShown_4 : decode cX9_isShown 4 = .ok (.invokevirtual 247, 3) := by decide +kernel
theorem dX9_isShown_7 : decode cX9_isShown 7 = .ok (.iconst 0, 1) := by decide +kernel
theorem dX9_isShown_8 : decode cX9_isShown 8 = .ok (.istore 4, 2) := by decide +kernel
theorem dX9_isShown_10 : decode cX9_isShown 10 = .ok (.iconst 0, 1) := by decide +kernel
theorem dX9_isShown_11 : decode cX9_isShown 11 = .ok (.istore 5, 2) := by decide +kernel
theorem dX9_isShown_13 : decode cX9_isShown 13 = .ok (.iload 5, 2) := by decide +kernel
theorem dX9_isShown_15 : decode cX9_isShown 15 = .ok (.aload_n 0, 1) := by decide +kernel
theorem dX9_isShown_16 : decode cX9_isShown 16 = .ok (.getfield 232, 3) := by decide +kernel
theorem dX9_isShown_19 : decode cX9_isShown 19 = .ok (.if_icmp .ge 46, 3) := by decide +kernel
theorem dX9_isShown_22 : decode cX9_isShown 22 = .ok (.iload 4, 2) := by decide +kernel
theorem dX9_isShown_24 : decode cX9_isShown 24 = .ok (.ifCond .ne 28, 3) := by decide +kernel
theorem dX9_isShown_27 : decode cX9_isShown 27 = .ok (.aload_n 0, 1) := by decide +kernel
theorem dX9_isShown_28 : decode cX9_isShown 28 = .ok (.getfield 93, 3) := by decide +kernel
theorem dX9_isShown_31 : decode cX9_isShown 31 = .ok (.bipush 8, 2) := by decide +kernel
theorem dX9_isShown_33 : decode cX9_isShown 33 = .ok (.iload_n 1, 1) := by decide +kernel
theorem dX9_isShown_34 : decode cX9_isShown 34 = .ok (.imul, 1) := by decide +kernel
theorem dX9_isShown_35 : decode cX9_isShown 35 = .ok (.iload 5, 2) := by decide +kernel
theorem dX9_isShown_37 : decode cX9_isShown 37 = .ok (.iadd, 1) := by decide +kernel
theorem dX9_isShown_38 : decode cX9_isShown 38 = .ok (.iaload, 1) := by decide +kernel
theorem dX9_isShown_39 : decode cX9_isShown 39 = .ok (.aload_n 0, 1) := by decide +kernel
theorem dX9_isShown_40 : decode cX9_isShown 40 = .ok (.getfield 72, 3) := by decide +kernel
theorem dX9_isShown_43 : decode cX9_isShown 43 = .ok (.iload 5, 2) := by decide +kernel
theorem dX9_isShown_45 : decode cX9_isShown 45 = .ok (.iaload, 1) := by decide +kernel
theorem dX9_isShown_46 : decode cX9_isShown 46 = .ok (.invokestatic 250, 3) := by decide +kernel
theorem dX9_isShown_49 : decode cX9_isShown 49 = .ok (.ifCond .eq 7, 3) := by decide +kernel
theorem dX9_isShown_52 : decode cX9_isShown 52 = .ok (.iconst 1, 1) := by decide +kernel
theorem dX9_isShown_53 : decode cX9_isShown 53 = .ok (.goto 4, 3) := by decide +kernel
theorem dX9_isShown_56 : decode cX9_isShown 56 = .ok (.iconst 0, 1) := by decide +kernel
theorem dX9_isShown_57 : decode cX9_isShown 57 = .ok (.istore 4, 2) := by decide +kernel
theorem dX9_isShown_59 : decode cX9_isShown 59 = .ok (.iinc 5 1, 3) := by decide +kernel
theorem dX9_isShown_62 : decode cX9_isShown 62 = .ok (.goto (-49), 3) := by decide +kernel
theorem dX9_isShown_65 : decode cX9_isShown 65 = .ok (.iconst 0, 1) := by decide +kernel
theorem dX9_isShown_66 : decode cX9_isShown 66 = .ok (.istore 5, 2) := by decide +kernel
theorem dX9_isShown_68 : decode cX9_isShown 68 = .ok (.iload 5, 2) := by decide +kernel
theorem dX9_isShown_70 : decode cX9_isShown 70 = .ok (.aload_n 0, 1) := by decide +kernel
theorem dX9_isShown_71 : decode cX9_isShown 71 = .ok (.getfield 235, 3) := by decide +kernel
theorem dX9_isShown_74 : decode cX9_isShown 74 = .ok (.if_icmp .ge 46, 3) := by decide +kernel
theorem dX9_isShown_77 : decode cX9_isShown 77 = .ok (.iload 4, 2) := by decide +kernel
theorem dX9_isShown_79 : decode cX9_isShown 79 = .ok (.ifCond .ne 28, 3) := by decide +kernel
theorem dX9_isShown_82 : decode cX9_isShown 82 = .ok (.aload_n 0, 1) := by decide +kernel
theorem dX9_isShown_83 : decode cX9_isShown 83 = .ok (.getfield 96, 3) := by decide +kernel
theorem dX9_isShown_86 : decode cX9_isShown 86 = .ok (.bipush 20, 2) := by decide +kernel
theorem dX9_isShown_88 : decode cX9_isShown 88 = .ok (.iload_n 1, 1) := by decide +kernel
theorem dX9_isShown_89 : decode cX9_isShown 89 = .ok (.imul, 1) := by decide +kernel
theorem dX9_isShown_90 : decode cX9_isShown 90 = .ok (.iload 5, 2) := by decide +kernel
theorem dX9_isShown_92 : decode cX9_isShown 92 = .ok (.iadd, 1) := by decide +kernel
theorem dX9_isShown_93 : decode cX9_isShown 93 = .ok (.iaload, 1) := by decide +kernel
theorem dX9_isShown_94 : decode cX9_isShown 94 = .ok (.aload_n 0, 1) := by decide +kernel
theorem dX9_isShown_95 : decode cX9_isShown 95 = .ok (.getfield 75, 3) := by decide +kernel
theorem dX9_isShown_98 : decode cX9_isShown 98 = .ok (.iload 5, 2) := by decide +kernel
theorem dX9_isShown_100 : decode cX9_isShown 100 = .ok (.iaload, 1) := by decide +kernel
theorem dX9_isShown_101 : decode cX9_isShown 101 = .ok (.invokestatic 250, 3) := by decide +kernel
theorem dX9_isShown_104 : decode cX9_isShown 104 = .ok (.ifCond .eq 7, 3) := by decide +kernel
theorem dX9_isShown_107 : decode cX9_isShown 107 = .ok (.iconst 1, 1) := by decide +kernel
theorem dX9_isShown_108 : decode cX9_isShown 108 = .ok (.goto 4, 3) := by decide +kernel
theorem dX9_isShown_111 : decode cX9_isShown 111 = .ok (.iconst 0, 1) := by decide +kernel
theorem dX9_isShown_112 : decode cX9_isShown 112 = .ok (.istore 4, 2) := by decide +kernel
theorem dX9_isShown_114 : decode cX9_isShown 114 = .ok (.iinc 5 1, 3) := by decide +kernel
theorem dX9_isShown_117 : decode cX9_isShown 117 = .ok (.goto (-49), 3) := by decide +kernel
theorem dX9_isShown_120 : decode cX9_isShown 120 = .ok (.iload 4, 2) := by decide +kernel
theorem dX9_isShown_122 : decode cX9_isShown 122 = .ok (.ireturn, 1) := by decide +kernel
theorem dX9_shows_0 : decode cX9_shows 0 = .ok (.iload_n 1, 1) := by decide +kernel
theorem dX9_shows_1 : decode cX9_shows 1 = .ok (.i2l, 1) := by decide +kernel
theorem dX9_shows_2 : decode cX9_shows 2 = .ok (.lconst 0, 1) := by decide +kernel
theorem dX9_shows_3 : decode cX9_shows 3 = .ok (.aload_n 0, 1) := by decide +kernel
theorem dX9_shows_4 : decode cX9_shows 4 = .ok (.getfield 134, 3) := by decide +kernel
theorem dX9_shows_7 : decode cX9_shows 7 = .ok (.iconst 1, 1) := by decide +kernel
theorem dX9_shows_8 : decode cX9_shows 8 = .ok (.isub, 1) := by decide +kernel
theorem dX9_shows_9 : decode cX9_shows 9 = .ok (.i2l, 1) := by decide +kernel
theorem dX9_shows_10 : decode cX9_shows 10 = .ok (.invokestatic 102, 3) := by decide +kernel
theorem dX9_shows_13 : decode cX9_shows 13 = .ok (.ifCond .eq 11, 3) := by decide +kernel
theorem dX9_shows_16 : decode cX9_shows 16 = .ok (.aload_n 0, 1) := by decide +kernel
theorem dX9_shows_17 : decode cX9_shows 17 = .ok (.iload_n 2, 1) := by decide +kernel
theorem dX9_shows_18 : decode cX9_shows 18 = .ok (.invokevirtual 122, 3) := by decide +kernel
theorem dX9_shows_21 : decode cX9_shows 21 = .ok (.ifCond .ne 7, 3) := by decide +kernel
theorem dX9_shows_24 : decode cX9_shows 24 = .ok (.sipush (-1001), 3) := by decide +kernel
theorem dX9_shows_27 : decode cX9_shows 27 = .ok (.ireturn, 1) := by decide +kernel
theorem dX9_shows_28 : decode cX9_shows 28 = .ok (.iload_n 3, 1) := by decide +kernel
theorem dX9_shows_29 : decode cX9_shows 29 = .ok (.i2l, 1) := by decide +kernel
theorem dX9_shows_30 : decode cX9_shows 30 = .ok (.lconst 0, 1) := by decide +kernel
theorem dX9_shows_31 : decode cX9_shows 31 = .ok (.lconst 1, 1) := by decide +kernel
theorem dX9_shows_32 : decode cX9_shows 32 = .ok (.invokestatic 102, 3) := by decide +kernel
theorem dX9_shows_35 : decode cX9_shows 35 = .ok (.ifCond .ne 7, 3) := by decide +kernel
theorem dX9_shows_38 : decode cX9_shows 38 = .ok (.sipush (-1002), 3) := by decide +kernel
theorem dX9_shows_41 : decode cX9_shows 41 = .ok (.ireturn, 1) := by decide +kernel
theorem dX9_shows_42 : decode cX9_shows 42 = .ok (.aload_n 0, 1) := by decide +kernel
theorem dX9_shows_43 : decode cX9_shows 43 = .ok (.invokevirtual 254, 3) := by decide +kernel
theorem dX9_shows_46 : decode cX9_shows 46 = .ok (.aload_n 0, 1) := by decide +kernel
theorem dX9_shows_47 : decode cX9_shows 47 = .ok (.iload_n 1, 1) := by decide +kernel
theorem dX9_shows_48 : decode cX9_shows 48 = .ok (.invokevirtual 257, 3) := by decide +kernel
theorem dX9_shows_51 : decode cX9_shows 51 = .ok (.aload_n 0, 1) := by decide +kernel
theorem dX9_shows_52 : decode cX9_shows 52 = .ok (.iload_n 1, 1) := by decide +kernel
theorem dX9_shows_53 : decode cX9_shows 53 = .ok (.iload_n 2, 1) := by decide +kernel
theorem dX9_shows_54 : decode cX9_shows 54 = .ok (.iload_n 3, 1) := by decide +kernel
theorem dX9_shows_55 : decode cX9_shows 55 = .ok (.invokevirtual 260, 3) := by decide +kernel
theorem dX9_shows_58 : decode cX9_shows 58 = .ok (.ifCond .eq 7, 3) := by decide +kernel
theorem dX9_shows_61 : decode cX9_shows 61 = .ok (.iconst 1, 1) := by decide +kernel
theorem dX9_shows_62 : decode cX9_shows 62 = .ok (.goto 4, 3) := by decide +kernel
theorem dX9_shows_65 : decode cX9_shows 65 = .ok (.iconst 0, 1) := by decide +kernel
theorem dX9_shows_66 : decode cX9_shows 66 = .ok (.istore 4, 2) := by decide +kernel
theorem dX9_shows_68 : decode cX9_shows 68 = .ok (.aload_n 0, 1) := by decide +kernel
theorem dX9_shows_69 : decode cX9_shows 69 = .ok (.invokevirtual 264, 3) := by decide +kernel
theorem dX9_shows_72 : decode cX9_shows 72 = .ok (.iload 4, 2) := by decide +kernel
theorem dX9_shows_74 : decode cX9_shows 74 = .ok (.ireturn, 1) := by decide +kernel
theorem dX9_shownBy_0 : decode cX9_shownBy 0 = .ok (.aload_n 0, 1) := by decide +kernel
theorem dX9_shownBy_1 : decode cX9_shownBy 1 = .ok (.iload_n 1, 1) := by decide +kernel
theorem dX9_shownBy_2 : decode cX9_shownBy 2 = .ok (.invokevirtual 122, 3) := by decide +kernel
theorem dX9_shownBy_5 : decode cX9_shownBy 5 = .ok (.ifCond .ne 7, 3) := by decide +kernel
theorem dX9_shownBy_8 : decode cX9_shownBy 8 = .ok (.sipush (-1001), 3) := by decide +kernel
theorem dX9_shownBy_11 : decode cX9_shownBy 11 = .ok (.ireturn, 1) := by decide +kernel
theorem dX9_shownBy_12 : decode cX9_shownBy 12 = .ok (.iload_n 2, 1) := by decide +kernel
theorem dX9_shownBy_13 : decode cX9_shownBy 13 = .ok (.i2l, 1) := by decide +kernel
theorem dX9_shownBy_14 : decode cX9_shownBy 14 = .ok (.lconst 0, 1) := by decide +kernel
theorem dX9_shownBy_15 : decode cX9_shownBy 15 = .ok (.lconst 1, 1) := by decide +kernel
theorem dX9_shownBy_16 : decode cX9_shownBy 16 = .ok (.invokestatic 102, 3) := by decide +kernel
theorem dX9_shownBy_19 : decode cX9_shownBy 19 = .ok (.ifCond .ne 7, 3) := by decide +kernel
theorem dX9_shownBy_22 : decode cX9_shownBy 22 = .ok (.sipush (-1002), 3) := by decide +kernel
theorem dX9_shownBy_25 : decode cX9_shownBy 25 = .ok (.ireturn, 1) := by decide +kernel
theorem dX9_shownBy_26 : decode cX9_shownBy 26 = .ok (.aload_n 0, 1) := by decide +kernel
theorem dX9_shownBy_27 : decode cX9_shownBy 27 = .ok (.invokevirtual 254, 3) := by decide +kernel
theorem dX9_shownBy_30 : decode cX9_shownBy 30 = .ok (.iconst (-1), 1) := by decide +kernel
theorem dX9_shownBy_31 : decode cX9_shownBy 31 = .ok (.istore_n 3, 1) := by decide +kernel
theorem dX9_shownBy_32 : decode cX9_shownBy 32 = .ok (.iconst 0, 1) := by decide +kernel
theorem dX9_shownBy_33 : decode cX9_shownBy 33 = .ok (.istore 4, 2) := by decide +kernel
theorem dX9_shownBy_35 : decode cX9_shownBy 35 = .ok (.iload 4, 2) := by decide +kernel
theorem dX9_shownBy_37 : decode cX9_shownBy 37 = .ok (.aload_n 0, 1) := by decide +kernel
theorem dX9_shownBy_38 : decode cX9_shownBy 38 = .ok (.getfield 134, 3) := by decide +kernel
theorem dX9_shownBy_41 : decode cX9_shownBy 41 = .ok (.if_icmp .ge 37, 3) := by decide +kernel
theorem dX9_shownBy_44 : decode cX9_shownBy 44 = .ok (.iload_n 3, 1) := by decide +kernel
theorem dX9_shownBy_45 : decode cX9_shownBy 45 = .ok (.ifCond .ge 33, 3) := by decide +kernel
theorem dX9_shownBy_48 : decode cX9_shownBy 48 = .ok (.aload_n 0, 1) := by decide +kernel
theorem dX9_shownBy_49 : decode cX9_shownBy 49 = .ok (.iload 4, 2) := by decide +kernel
theorem dX9_shownBy_51 : decode cX9_shownBy 51 = .ok (.invokevirtual 257, 3) := by decide +kernel
theorem dX9_shownBy_54 : decode cX9_shownBy 54 = .ok (.aload_n 0, 1) := by decide +kernel
theorem dX9_shownBy_55 : decode cX9_shownBy 55 = .ok (.iload 4, 2) := by decide +kernel
theorem dX9_shownBy_57 : decode cX9_shownBy 57 = .ok (.iload_n 1, 1) := by decide +kernel
theorem dX9_shownBy_58 : decode cX9_shownBy 58 = .ok (.iload_n 2, 1) := by decide +kernel
theorem dX9_shownBy_59 : decode cX9_shownBy 59 = .ok (.invokevirtual 260, 3) := by decide +kernel
theorem dX9_shownBy_62 : decode cX9_shownBy 62 = .ok (.ifCond .eq 8, 3) := by decide +kernel
theorem dX9_shownBy_65 : decode cX9_shownBy 65 = .ok (.iload 4, 2) := by decide +kernel
theorem dX9_shownBy_67 : decode cX9_shownBy 67 = .ok (.goto 4, 3) := by decide +kernel
theorem dX9_shownBy_70 : decode cX9_shownBy 70 = .ok (.iconst (-1), 1) := by decide +kernel
theorem dX9_shownBy_71 : decode cX9_shownBy 71 = .ok (.istore_n 3, 1) := by decide +kernel
theorem dX9_shownBy_72 : decode cX9_shownBy 72 = .ok (.iinc 4 1, 3) := by decide +kernel
theorem dX9_shownBy_75 : decode cX9_shownBy 75 = .ok (.goto (-40), 3) := by decide +kernel
theorem dX9_shownBy_78 : decode cX9_shownBy 78 = .ok (.aload_n 0, 1) := by decide +kernel
theorem dX9_shownBy_79 : decode cX9_shownBy 79 = .ok (.invokevirtual 264, 3) := by decide +kernel
theorem dX9_shownBy_82 : decode cX9_shownBy 82 = .ok (.iload_n 3, 1) := by decide +kernel
theorem dX9_shownBy_83 : decode cX9_shownBy 83 = .ok (.ireturn, 1) := by decide +kernel
theorem dX9_covers_0 : decode cX9_covers 0 = .ok (.aload_n 0, 1) := by decide +kernel
