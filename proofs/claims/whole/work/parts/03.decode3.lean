theorem dX9_gateValue_98 : decode cX9_gateValue 98 = .ok (.iload_n 2, 1) := by decide +kernel
theorem dX9_gateValue_99 : decode cX9_gateValue 99 = .ok (.invokestatic 147, 3) := by decide +kernel
theorem dX9_gateValue_102 : decode cX9_gateValue 102 = .ok (.iload_n 3, 1) := by decide +kernel
theorem dX9_gateValue_103 : decode cX9_gateValue 103 = .ok (.invokestatic 147, 3) := by decide +kernel
theorem dX9_gateValue_106 : decode cX9_gateValue 106 = .ok (.invokestatic 144, 3) := by decide +kernel
theorem dX9_gateValue_109 : decode cX9_gateValue 109 = .ok (.invokestatic 147, 3) := by decide +kernel
theorem dX9_gateValue_112 : decode cX9_gateValue 112 = .ok (.ireturn, 1) := by decide +kernel
theorem dX9_gateValue_113 : decode cX9_gateValue 113 = .ok (.iload_n 2, 1) := by decide +kernel
theorem dX9_gateValue_114 : decode cX9_gateValue 114 = .ok (.iconst 2, 1) := by decide +kernel
theorem dX9_gateValue_115 : decode cX9_gateValue 115 = .ok (.if_icmp .eq 8, 3) := by decide +kernel
theorem dX9_gateValue_118 : decode cX9_gateValue 118 = .ok (.iload_n 3, 1) := by decide +kernel
theorem dX9_gateValue_119 : decode cX9_gateValue 119 = .ok (.iconst 2, 1) := by decide +kernel
theorem dX9_gateValue_120 : decode cX9_gateValue 120 = .ok (.if_icmp .ne 7, 3) := by decide +kernel
theorem dX9_gateValue_123 : decode cX9_gateValue 123 = .ok (.iconst 2, 1) := by decide +kernel
theorem dX9_gateValue_124 : decode cX9_gateValue 124 = .ok (.goto 13, 3) := by decide +kernel
theorem dX9_gateValue_127 : decode cX9_gateValue 127 = .ok (.iload_n 2, 1) := by decide +kernel
theorem dX9_gateValue_128 : decode cX9_gateValue 128 = .ok (.iload_n 3, 1) := by decide +kernel
theorem dX9_gateValue_129 : decode cX9_gateValue 129 = .ok (.if_icmp .ne 7, 3) := by decide +kernel
theorem dX9_gateValue_132 : decode cX9_gateValue 132 = .ok (.iconst 0, 1) := by decide +kernel
theorem dX9_gateValue_133 : decode cX9_gateValue 133 = .ok (.goto 4, 3) := by decide +kernel
theorem dX9_gateValue_136 : decode cX9_gateValue 136 = .ok (.iconst 1, 1) := by decide +kernel
theorem dX9_gateValue_137 : decode cX9_gateValue 137 = .ok (.ireturn, 1) := by decide +kernel
theorem dX9_gateValue_138 : decode cX9_gateValue 138 = .ok (.iload_n 2, 1) := by decide +kernel
theorem dX9_gateValue_139 : decode cX9_gateValue 139 = .ok (.invokestatic 147, 3) := by decide +kernel
theorem dX9_gateValue_142 : decode cX9_gateValue 142 = .ok (.ireturn, 1) := by decide +kernel
theorem dX9_gateValue_143 : decode cX9_gateValue 143 = .ok (.iload_n 2, 1) := by decide +kernel
theorem dX9_gateValue_144 : decode cX9_gateValue 144 = .ok (.iload_n 3, 1) := by decide +kernel
theorem dX9_gateValue_145 : decode cX9_gateValue 145 = .ok (.iload 4, 2) := by decide +kernel
theorem dX9_gateValue_147 : decode cX9_gateValue 147 = .ok (.invokestatic 150, 3) := by decide +kernel
theorem dX9_gateValue_150 : decode cX9_gateValue 150 = .ok (.ireturn, 1) := by decide +kernel
theorem dX9_gateValue_151 : decode cX9_gateValue 151 = .ok (.iload_n 2, 1) := by decide +kernel
theorem dX9_gateValue_152 : decode cX9_gateValue 152 = .ok (.iload_n 3, 1) := by decide +kernel
theorem dX9_gateValue_153 : decode cX9_gateValue 153 = .ok (.invokestatic 144, 3) := by decide +kernel
theorem dX9_gateValue_156 : decode cX9_gateValue 156 = .ok (.invokestatic 147, 3) := by decide +kernel
theorem dX9_gateValue_159 : decode cX9_gateValue 159 = .ok (.ireturn, 1) := by decide +kernel
theorem dX9_gateValue_160 : decode cX9_gateValue 160 = .ok (.iload_n 2, 1) := by decide +kernel
theorem dX9_gateValue_161 : decode cX9_gateValue 161 = .ok (.invokestatic 147, 3) := by decide +kernel
theorem dX9_gateValue_164 : decode cX9_gateValue 164 = .ok (.iload_n 3, 1) := by decide +kernel
theorem dX9_gateValue_165 : decode cX9_gateValue 165 = .ok (.invokestatic 147, 3) := by decide +kernel
theorem dX9_gateValue_168 : decode cX9_gateValue 168 = .ok (.invokestatic 144, 3) := by decide +kernel
theorem dX9_gateValue_171 : decode cX9_gateValue 171 = .ok (.ireturn, 1) := by decide +kernel
theorem dX9_work_0 : decode cX9_work 0 = .ok (.iconst 0, 1) := by decide +kernel
theorem dX9_work_1 : decode cX9_work 1 = .ok (.istore_n 1, 1) := by decide +kernel
theorem dX9_work_2 : decode cX9_work 2 = .ok (.iload_n 1, 1) := by decide +kernel
theorem dX9_work_3 : decode cX9_work 3 = .ok (.aload_n 0, 1) := by decide +kernel
theorem dX9_work_4 : decode cX9_work 4 = .ok (.getfield 99, 3) := by decide +kernel
theorem dX9_work_7 : decode cX9_work 7 = .ok (.if_icmp .ge 94, 3) := by decide +kernel
theorem dX9_work_10 : decode cX9_work 10 = .ok (.aload_n 0, 1) := by decide +kernel
theorem dX9_work_11 : decode cX9_work 11 = .ok (.getfield 66, 3) := by decide +kernel
theorem dX9_work_14 : decode cX9_work 14 = .ok (.iload_n 1, 1) := by decide +kernel
theorem dX9_work_15 : decode cX9_work 15 = .ok (.aload_n 0, 1) := by decide +kernel
theorem dX9_work_16 : decode cX9_work 16 = .ok (.getfield 7, 3) := by decide +kernel
theorem dX9_work_19 : decode cX9_work 19 = .ok (.iload_n 1, 1) := by decide +kernel
theorem dX9_work_20 : decode cX9_work 20 = .ok (.iaload, 1) := by decide +kernel
theorem dX9_work_21 : decode cX9_work 21 = .ok (.ifCond .ne 17, 3) := by decide +kernel
theorem dX9_work_24 : decode cX9_work 24 = .ok (.aload_n 0, 1) := by decide +kernel
theorem dX9_work_25 : decode cX9_work 25 = .ok (.getfield 53, 3) := by decide +kernel
theorem dX9_work_28 : decode cX9_work 28 = .ok (.aload_n 0, 1) := by decide +kernel
theorem dX9_work_29 : decode cX9_work 29 = .ok (.getfield 13, 3) := by decide +kernel
theorem dX9_work_32 : decode cX9_work 32 = .ok (.iload_n 1, 1) := by decide +kernel
theorem dX9_work_33 : decode cX9_work 33 = .ok (.iaload, 1) := by decide +kernel
theorem dX9_work_34 : decode cX9_work 34 = .ok (.iaload, 1) := by decide +kernel
theorem dX9_work_35 : decode cX9_work 35 = .ok (.goto 32, 3) := by decide +kernel
theorem dX9_work_38 : decode cX9_work 38 = .ok (.aload_n 0, 1) := by decide +kernel
theorem dX9_work_39 : decode cX9_work 39 = .ok (.getfield 7, 3) := by decide +kernel
theorem dX9_work_42 : decode cX9_work 42 = .ok (.iload_n 1, 1) := by decide +kernel
theorem dX9_work_43 : decode cX9_work 43 = .ok (.iaload, 1) := by decide +kernel
theorem dX9_work_44 : decode cX9_work 44 = .ok (.iconst 2, 1) := by decide +kernel
theorem dX9_work_45 : decode cX9_work 45 = .ok (.if_icmp .ne 17, 3) := by decide +kernel
theorem dX9_work_48 : decode cX9_work 48 = .ok (.aload_n 0, 1) := by decide +kernel
theorem dX9_work_49 : decode cX9_work 49 = .ok (.getfield 56, 3) := by decide +kernel
theorem dX9_work_52 : decode cX9_work 52 = .ok (.aload_n 0, 1) := by decide +kernel
theorem dX9_work_53 : decode cX9_work 53 = .ok (.getfield 13, 3) := by decide +kernel
theorem dX9_work_56 : decode cX9_work 56 = .ok (.iload_n 1, 1) := by decide +kernel
theorem dX9_work_57 : decode cX9_work 57 = .ok (.iaload, 1) := by decide +kernel
theorem dX9_work_58 : decode cX9_work 58 = .ok (.iaload, 1) := by decide +kernel
theorem dX9_work_59 : decode cX9_work 59 = .ok (.goto 8, 3) := by decide +kernel
theorem dX9_work_62 : decode cX9_work 62 = .ok (.aload_n 0, 1) := by decide +kernel
theorem dX9_work_63 : decode cX9_work 63 = .ok (.iload_n 1, 1) := by decide +kernel
theorem dX9_work_64 : decode cX9_work 64 = .ok (.invokevirtual 154, 3) := by decide +kernel
theorem dX9_work_67 : decode cX9_work 67 = .ok (.iastore, 1) := by decide +kernel
theorem dX9_work_68 : decode cX9_work 68 = .ok (.aload_n 0, 1) := by decide +kernel
theorem dX9_work_69 : decode cX9_work 69 = .ok (.getfield 66, 3) := by decide +kernel
theorem dX9_work_72 : decode cX9_work 72 = .ok (.iload_n 1, 1) := by decide +kernel
theorem dX9_work_73 : decode cX9_work 73 = .ok (.iload_n 1, 1) := by decide +kernel
theorem dX9_work_74 : decode cX9_work 74 = .ok (.aload_n 0, 1) := by decide +kernel
theorem dX9_work_75 : decode cX9_work 75 = .ok (.getfield 59, 3) := by decide +kernel
theorem dX9_work_78 : decode cX9_work 78 = .ok (.if_icmp .ne 10, 3) := by decide +kernel
theorem dX9_work_81 : decode cX9_work 81 = .ok (.aload_n 0, 1) := by decide +kernel
theorem dX9_work_82 : decode cX9_work 82 = .ok (.getfield 157, 3) := by decide +kernel
theorem dX9_work_85 : decode cX9_work 85 = .ok (.goto 9, 3) := by decide +kernel
theorem dX9_work_88 : decode cX9_work 88 = .ok (.aload_n 0, 1) := by decide +kernel
theorem dX9_work_89 : decode cX9_work 89 = .ok (.getfield 66, 3) := by decide +kernel
theorem dX9_work_92 : decode cX9_work 92 = .ok (.iload_n 1, 1) := by decide +kernel
theorem dX9_work_93 : decode cX9_work 93 = .ok (.iaload, 1) := by decide +kernel
theorem dX9_work_94 : decode cX9_work 94 = .ok (.iastore, 1) := by decide +kernel
theorem dX9_work_95 : decode cX9_work 95 = .ok (.iinc 1 1, 3) := by decide +kernel
theorem dX9_work_98 : decode cX9_work 98 = .ok (.goto (-96), 3) := by decide +kernel
theorem dX9_work_101 : decode cX9_work 101 = .ok (.return_, 1) := by decide +kernel
theorem dX9_line_0 : decode cX9_line 0 = .ok (.aload_n 0, 1) := by decide +kernel
theorem dX9_line_1 : decode cX9_line 1 = .ok (.iload_n 1, 1) := by decide +kernel
theorem dX9_line_2 : decode cX9_line 2 = .ok (.invokevirtual 122, 3) := by decide +kernel
theorem dX9_line_5 : decode cX9_line 5 = .ok (.ifCond .ne 7, 3) := by decide +kernel
theorem dX9_line_8 : decode cX9_line 8 = .ok (.sipush (-1001), 3) := by decide +kernel
theorem dX9_line_11 : decode cX9_line 11 = .ok (.ireturn, 1) := by decide +kernel
theorem dX9_line_12 : decode cX9_line 12 = .ok (.aload_n 0, 1) := by decide +kernel
theorem dX9_line_13 : decode cX9_line 13 = .ok (.invokevirtual 160, 3) := by decide +kernel
theorem dX9_line_16 : decode cX9_line 16 = .ok (.iload_n 2, 1) := by decide +kernel
theorem dX9_line_17 : decode cX9_line 17 = .ok (.ifCond .ne 12, 3) := by decide +kernel
theorem dX9_line_20 : decode cX9_line 20 = .ok (.aload_n 0, 1) := by decide +kernel
theorem dX9_line_21 : decode cX9_line 21 = .ok (.getfield 7, 3) := by decide +kernel
theorem dX9_line_24 : decode cX9_line 24 = .ok (.iload_n 1, 1) := by decide +kernel
theorem dX9_line_25 : decode cX9_line 25 = .ok (.iaload, 1) := by decide +kernel
theorem dX9_line_26 : decode cX9_line 26 = .ok (.goto 34, 3) := by decide +kernel
theorem dX9_line_29 : decode cX9_line 29 = .ok (.iload_n 2, 1) := by decide +kernel
theorem dX9_line_30 : decode cX9_line 30 = .ok (.iconst 1, 1) := by decide +kernel
theorem dX9_line_31 : decode cX9_line 31 = .ok (.if_icmp .ne 12, 3) := by decide +kernel
theorem dX9_line_34 : decode cX9_line 34 = .ok (.aload_n 0, 1) := by decide +kernel
theorem dX9_line_35 : decode cX9_line 35 = .ok (.getfield 13, 3) := by decide +kernel
theorem dX9_line_38 : decode cX9_line 38 = .ok (.iload_n 1, 1) := by decide +kernel
theorem dX9_line_39 : decode cX9_line 39 = .ok (.iaload, 1) := by decide +kernel
theorem dX9_line_40 : decode cX9_line 40 = .ok (.goto 20, 3) := by decide +kernel
theorem dX9_line_43 : decode cX9_line 43 = .ok (.iload_n 2, 1) := by decide +kernel
theorem dX9_line_44 : decode cX9_line 44 = .ok (.iconst 2, 1) := by decide +kernel
theorem dX9_line_45 : decode cX9_line 45 = .ok (.if_icmp .ne 12, 3) := by decide +kernel
theorem dX9_line_48 : decode cX9_line 48 = .ok (.aload_n 0, 1) := by decide +kernel
theorem dX9_line_49 : decode cX9_line 49 = .ok (.getfield 66, 3) := by decide +kernel
theorem dX9_line_52 : decode cX9_line 52 = .ok (.iload_n 1, 1) := by decide +kernel
theorem dX9_line_53 : decode cX9_line 53 = .ok (.iaload, 1) := by decide +kernel
theorem dX9_line_54 : decode cX9_line 54 = .ok (.goto 6, 3) := by decide +kernel
theorem dX9_line_57 : decode cX9_line 57 = .ok (.sipush (-1002), 3) := by decide +kernel
theorem dX9_line_60 : decode cX9_line 60 = .ok (.ireturn, 1) := by decide +kernel
theorem dX9_set_0 : decode cX9_set 0 = .ok (.iload_n 1, 1) := by decide +kernel
theorem dX9_set_1 : decode cX9_set 1 = .ok (.i2l, 1) := by decide +kernel
theorem dX9_set_2 : decode cX9_set 2 = .ok (.lconst 0, 1) := by decide +kernel
theorem dX9_set_3 : decode cX9_set 3 = .ok (.aload_n 0, 1) := by decide +kernel
theorem dX9_set_4 : decode cX9_set 4 = .ok (.getfield 109, 3) := by decide +kernel
theorem dX9_set_7 : decode cX9_set 7 = .ok (.iconst 1, 1) := by decide +kernel
theorem dX9_set_8 : decode cX9_set 8 = .ok (.isub, 1) := by decide +kernel
theorem dX9_set_9 : decode cX9_set 9 = .ok (.i2l, 1) := by decide +kernel
theorem dX9_set_10 : decode cX9_set 10 = .ok (.invokestatic 102, 3) := by decide +kernel
theorem dX9_set_13 : decode cX9_set 13 = .ok (.ifCond .ne 7, 3) := by decide +kernel
theorem dX9_set_16 : decode cX9_set 16 = .ok (.sipush (-1001), 3) := by decide +kernel
theorem dX9_set_19 : decode cX9_set 19 = .ok (.ireturn, 1) := by decide +kernel
theorem dX9_set_20 : decode cX9_set 20 = .ok (.iload_n 2, 1) := by decide +kernel
theorem dX9_set_21 : decode cX9_set 21 = .ok (.i2l, 1) := by decide +kernel
theorem dX9_set_22 : decode cX9_set 22 = .ok (.lconst 0, 1) := by decide +kernel
theorem dX9_set_23 : decode cX9_set 23 = .ok (.ldc2_w 126, 3) := by decide +kernel
theorem dX9_set_26 : decode cX9_set 26 = .ok (.invokestatic 102, 3) := by decide +kernel
theorem dX9_set_29 : decode cX9_set 29 = .ok (.ifCond .ne 7, 3) := by decide +kernel
theorem dX9_set_32 : decode cX9_set 32 = .ok (.sipush (-1002), 3) := by decide +kernel
theorem dX9_set_35 : decode cX9_set 35 = .ok (.ireturn, 1) := by decide +kernel
theorem dX9_set_36 : decode cX9_set 36 = .ok (.aload_n 0, 1) := by decide +kernel
theorem dX9_set_37 : decode cX9_set 37 = .ok (.getfield 53, 3) := by decide +kernel
theorem dX9_set_40 : decode cX9_set 40 = .ok (.iload_n 1, 1) := by decide +kernel
theorem dX9_set_41 : decode cX9_set 41 = .ok (.iaload, 1) := by decide +kernel
theorem dX9_set_42 : decode cX9_set 42 = .ok (.istore_n 3, 1) := by decide +kernel
theorem dX9_set_43 : decode cX9_set 43 = .ok (.aload_n 0, 1) := by decide +kernel
theorem dX9_set_44 : decode cX9_set 44 = .ok (.getfield 53, 3) := by decide +kernel
theorem dX9_set_47 : decode cX9_set 47 = .ok (.iload_n 1, 1) := by decide +kernel
theorem dX9_set_48 : decode cX9_set 48 = .ok (.iload_n 2, 1) := by decide +kernel
theorem dX9_set_49 : decode cX9_set 49 = .ok (.iastore, 1) := by decide +kernel
theorem dX9_set_50 : decode cX9_set 50 = .ok (.iload_n 3, 1) := by decide +kernel
theorem dX9_set_51 : decode cX9_set 51 = .ok (.ireturn, 1) := by decide +kernel
theorem dX9_hold_0 : decode cX9_hold 0 = .ok (.aload_n 0, 1) := by decide +kernel
theorem dX9_hold_1 : decode cX9_hold 1 = .ok (.iload_n 1, 1) := by decide +kernel
theorem dX9_hold_2 : decode cX9_hold 2 = .ok (.invokevirtual 128, 3) := by decide +kernel
theorem dX9_hold_5 : decode cX9_hold 5 = .ok (.ifCond .ne 7, 3) := by decide +kernel
theorem dX9_hold_8 : decode cX9_hold 8 = .ok (.sipush (-1001), 3) := by decide +kernel
theorem dX9_hold_11 : decode cX9_hold 11 = .ok (.ireturn, 1) := by decide +kernel
theorem dX9_hold_12 : decode cX9_hold 12 = .ok (.iload_n 2, 1) := by decide +kernel
theorem dX9_hold_13 : decode cX9_hold 13 = .ok (.i2l, 1) := by decide +kernel
theorem dX9_hold_14 : decode cX9_hold 14 = .ok (.lconst 0, 1) := by decide +kernel
theorem dX9_hold_15 : decode cX9_hold 15 = .ok (.ldc2_w 126, 3) := by decide +kernel
theorem dX9_hold_18 : decode cX9_hold 18 = .ok (.invokestatic 102, 3) := by decide +kernel
theorem dX9_hold_21 : decode cX9_hold 21 = .ok (.ifCond .ne 7, 3) := by decide +kernel
theorem dX9_hold_24 : decode cX9_hold 24 = .ok (.sipush (-1002), 3) := by decide +kernel
theorem dX9_hold_27 : decode cX9_hold 27 = .ok (.ireturn, 1) := by decide +kernel
theorem dX9_hold_28 : decode cX9_hold 28 = .ok (.aload_n 0, 1) := by decide +kernel
theorem dX9_hold_29 : decode cX9_hold 29 = .ok (.getfield 56, 3) := by decide +kernel
theorem dX9_hold_32 : decode cX9_hold 32 = .ok (.iload_n 1, 1) := by decide +kernel
theorem dX9_hold_33 : decode cX9_hold 33 = .ok (.iaload, 1) := by decide +kernel
theorem dX9_hold_34 : decode cX9_hold 34 = .ok (.istore_n 3, 1) := by decide +kernel
theorem dX9_hold_35 : decode cX9_hold 35 = .ok (.aload_n 0, 1) := by decide +kernel
theorem dX9_hold_36 : decode cX9_hold 36 = .ok (.getfield 56, 3) := by decide +kernel
theorem dX9_hold_39 : decode cX9_hold 39 = .ok (.iload_n 1, 1) := by decide +kernel
theorem dX9_hold_40 : decode cX9_hold 40 = .ok (.iload_n 2, 1) := by decide +kernel
theorem dX9_hold_41 : decode cX9_hold 41 = .ok (.iastore, 1) := by decide +kernel
theorem dX9_hold_42 : decode cX9_hold 42 = .ok (.iload_n 3, 1) := by decide +kernel
theorem dX9_hold_43 : decode cX9_hold 43 = .ok (.ireturn, 1) := by decide +kernel
theorem dX9_clocked_0 : decode cX9_clocked 0 = .ok (.iconst 0, 1) := by decide +kernel
theorem dX9_clocked_1 : decode cX9_clocked 1 = .ok (.istore_n 2, 1) := by decide +kernel
theorem dX9_clocked_2 : decode cX9_clocked 2 = .ok (.aload_n 0, 1) := by decide +kernel
theorem dX9_clocked_3 : decode cX9_clocked 3 = .ok (.invokevirtual 160, 3) := by decide +kernel
theorem dX9_clocked_6 : decode cX9_clocked 6 = .ok (.iconst 0, 1) := by decide +kernel
theorem dX9_clocked_7 : decode cX9_clocked 7 = .ok (.istore_n 3, 1) := by decide +kernel
theorem dX9_clocked_8 : decode cX9_clocked 8 = .ok (.iload_n 3, 1) := by decide +kernel
theorem dX9_clocked_9 : decode cX9_clocked 9 = .ok (.aload_n 0, 1) := by decide +kernel
theorem dX9_clocked_10 : decode cX9_clocked 10 = .ok (.getfield 106, 3) := by decide +kernel
theorem dX9_clocked_13 : decode cX9_clocked 13 = .ok (.if_icmp .ge 43, 3) := by decide +kernel
theorem dX9_clocked_16 : decode cX9_clocked 16 = .ok (.iload_n 1, 1) := by decide +kernel
theorem dX9_clocked_17 : decode cX9_clocked 17 = .ok (.aload_n 0, 1) := by decide +kernel
theorem dX9_clocked_18 : decode cX9_clocked 18 = .ok (.getfield 25, 3) := by decide +kernel
theorem dX9_clocked_21 : decode cX9_clocked 21 = .ok (.iload_n 3, 1) := by decide +kernel
theorem dX9_clocked_22 : decode cX9_clocked 22 = .ok (.iaload, 1) := by decide +kernel
theorem dX9_clocked_23 : decode cX9_clocked 23 = .ok (.ishr, 1) := by decide +kernel
theorem dX9_clocked_24 : decode cX9_clocked 24 = .ok (.iconst 1, 1) := by decide +kernel
theorem dX9_clocked_25 : decode cX9_clocked 25 = .ok (.iand, 1) := by decide +kernel
theorem dX9_clocked_26 : decode cX9_clocked 26 = .ok (.iconst 1, 1) := by decide +kernel
theorem dX9_clocked_27 : decode cX9_clocked 27 = .ok (.if_icmp .ne 23, 3) := by decide +kernel
theorem dX9_clocked_30 : decode cX9_clocked 30 = .ok (.aload_n 0, 1) := by decide +kernel
theorem dX9_clocked_31 : decode cX9_clocked 31 = .ok (.getfield 56, 3) := by decide +kernel
theorem dX9_clocked_34 : decode cX9_clocked 34 = .ok (.iload_n 3, 1) := by decide +kernel
theorem dX9_clocked_35 : decode cX9_clocked 35 = .ok (.aload_n 0, 1) := by decide +kernel
theorem dX9_clocked_36 : decode cX9_clocked 36 = .ok (.getfield 66, 3) := by decide +kernel
theorem dX9_clocked_39 : decode cX9_clocked 39 = .ok (.aload_n 0, 1) := by decide +kernel
theorem dX9_clocked_40 : decode cX9_clocked 40 = .ok (.getfield 28, 3) := by decide +kernel
theorem dX9_clocked_43 : decode cX9_clocked 43 = .ok (.iload_n 3, 1) := by decide +kernel
theorem dX9_clocked_44 : decode cX9_clocked 44 = .ok (.iaload, 1) := by decide +kernel
theorem dX9_clocked_45 : decode cX9_clocked 45 = .ok (.iaload, 1) := by decide +kernel
theorem dX9_clocked_46 : decode cX9_clocked 46 = .ok (.iastore, 1) := by decide +kernel
theorem dX9_clocked_47 : decode cX9_clocked 47 = .ok (.iinc 2 1, 3) := by decide +kernel
theorem dX9_clocked_50 : decode cX9_clocked 50 = .ok (.iinc 3 1, 3) := by decide +kernel
theorem dX9_clocked_53 : decode cX9_clocked 53 = .ok (.goto (-45), 3) := by decide +kernel
theorem dX9_clocked_56 : decode cX9_clocked 56 = .ok (.iload_n 2, 1) := by decide +kernel
theorem dX9_clocked_57 : decode cX9_clocked 57 = .ok (.ireturn, 1) := by decide +kernel
theorem dX9_clock_0 : decode cX9_clock 0 = .ok (.iload_n 1, 1) := by decide +kernel
theorem dX9_clock_1 : decode cX9_clock 1 = .ok (.i2l, 1) := by decide +kernel
theorem dX9_clock_2 : decode cX9_clock 2 = .ok (.lconst 0, 1) := by decide +kernel
theorem dX9_clock_3 : decode cX9_clock 3 = .ok (.ldc2_w 163, 3) := by decide +kernel
theorem dX9_clock_6 : decode cX9_clock 6 = .ok (.invokestatic 102, 3) := by decide +kernel
theorem dX9_clock_9 : decode cX9_clock 9 = .ok (.ifCond .eq 11, 3) := by decide +kernel
theorem dX9_clock_12 : decode cX9_clock 12 = .ok (.aload_n 0, 1) := by decide +kernel
theorem dX9_clock_13 : decode cX9_clock 13 = .ok (.iload_n 1, 1) := by decide +kernel
theorem dX9_clock_14 : decode cX9_clock 14 = .ok (.invokevirtual 165, 3) := by decide +kernel
theorem dX9_clock_17 : decode cX9_clock 17 = .ok (.goto 6, 3) := by decide +kernel
theorem dX9_clock_20 : decode cX9_clock 20 = .ok (.sipush (-1002), 3) := by decide +kernel
theorem dX9_clock_23 : decode cX9_clock 23 = .ok (.ireturn, 1) := by decide +kernel
theorem dX9_stick_0 : decode cX9_stick 0 = .ok (.iload_n 1, 1) := by decide +kernel
theorem dX9_stick_1 : decode cX9_stick 1 = .ok (.iconst (-1), 1) := by decide +kernel
theorem dX9_stick_2 : decode cX9_stick 2 = .ok (.if_icmp .eq 15, 3) := by decide +kernel
theorem dX9_stick_5 : decode cX9_stick 5 = .ok (.aload_n 0, 1) := by decide +kernel
theorem dX9_stick_6 : decode cX9_stick 6 = .ok (.iload_n 1, 1) := by decide +kernel
theorem dX9_stick_7 : decode cX9_stick 7 = .ok (.invokevirtual 122, 3) := by decide +kernel
theorem dX9_stick_10 : decode cX9_stick 10 = .ok (.ifCond .ne 7, 3) := by decide +kernel
theorem dX9_stick_13 : decode cX9_stick 13 = .ok (.sipush (-1001), 3) := by decide +kernel
theorem dX9_stick_16 : decode cX9_stick 16 = .ok (.ireturn, 1) := by decide +kernel
theorem dX9_stick_17 : decode cX9_stick 17 = .ok (.iload_n 1, 1) := by decide +kernel
theorem dX9_stick_18 : decode cX9_stick 18 = .ok (.iconst (-1), 1) := by decide +kernel
theorem dX9_stick_19 : decode cX9_stick 19 = .ok (.if_icmp .eq 17, 3) := by decide +kernel
theorem dX9_stick_22 : decode cX9_stick 22 = .ok (.iload_n 2, 1) := by decide +kernel
theorem dX9_stick_23 : decode cX9_stick 23 = .ok (.i2l, 1) := by decide +kernel
theorem dX9_stick_24 : decode cX9_stick 24 = .ok (.lconst 0, 1) := by decide +kernel
theorem dX9_stick_25 : decode cX9_stick 25 = .ok (.lconst 1, 1) := by decide +kernel
theorem dX9_stick_26 : decode cX9_stick 26 = .ok (.invokestatic 102, 3) := by decide +kernel
theorem dX9_stick_29 : decode cX9_stick 29 = .ok (.ifCond .ne 7, 3) := by decide +kernel
theorem dX9_stick_32 : decode cX9_stick 32 = .ok (.sipush (-1002), 3) := by decide +kernel
theorem dX9_stick_35 : decode cX9_stick 35 = .ok (.ireturn, 1) := by decide +kernel
theorem dX9_stick_36 : decode cX9_stick 36 = .ok (.aload_n 0, 1) := by decide +kernel
theorem dX9_stick_37 : decode cX9_stick 37 = .ok (.iload_n 1, 1) := by decide +kernel
theorem dX9_stick_38 : decode cX9_stick 38 = .ok (.putfield 59, 3) := by decide +kernel
theorem dX9_stick_41 : decode cX9_stick 41 = .ok (.aload_n 0, 1) := by decide +kernel
theorem dX9_stick_42 : decode cX9_stick 42 = .ok (.iload_n 2, 1) := by decide +kernel
theorem dX9_stick_43 : decode cX9_stick 43 = .ok (.putfield 157, 3) := by decide +kernel
theorem dX9_stick_46 : decode cX9_stick 46 = .ok (.iconst 1, 1) := by decide +kernel
theorem dX9_stick_47 : decode cX9_stick 47 = .ok (.ireturn, 1) := by decide +kernel
theorem dX9_isChain_0 : decode cX9_isChain 0 = .ok (.iload_n 0, 1) := by decide +kernel
theorem dX9_isChain_1 : decode cX9_isChain 1 = .ok (.i2l, 1) := by decide +kernel
theorem dX9_isChain_2 : decode cX9_isChain 2 = .ok (.lconst 0, 1) := by decide +kernel
theorem dX9_isChain_3 : decode cX9_isChain 3 = .ok (.ldc2_w 126, 3) := by decide +kernel
theorem dX9_isChain_6 : decode cX9_isChain 6 = .ok (.invokestatic 102, 3) := by decide +kernel
theorem dX9_isChain_9 : decode cX9_isChain 9 = .ok (.ireturn, 1) := by decide +kernel
theorem dX9_chain_0 : decode cX9_chain 0 = .ok (.iload_n 1, 1) := by decide +kernel
theorem dX9_chain_1 : decode cX9_chain 1 = .ok (.invokestatic 168, 3) := by decide +kernel
theorem dX9_chain_4 : decode cX9_chain 4 = .ok (.ifCond .eq 11, 3) := by decide +kernel
theorem dX9_chain_7 : decode cX9_chain 7 = .ok (.aload_n 0, 1) := by decide +kernel
theorem dX9_chain_8 : decode cX9_chain 8 = .ok (.iload_n 2, 1) := by decide +kernel
theorem dX9_chain_9 : decode cX9_chain 9 = .ok (.invokevirtual 128, 3) := by decide +kernel
theorem dX9_chain_12 : decode cX9_chain 12 = .ok (.ifCond .ne 7, 3) := by decide +kernel
theorem dX9_chain_15 : decode cX9_chain 15 = .ok (.sipush (-1001), 3) := by decide +kernel
theorem dX9_chain_18 : decode cX9_chain 18 = .ok (.ireturn, 1) := by decide +kernel
theorem dX9_chain_19 : decode cX9_chain 19 = .ok (.iload_n 3, 1) := by decide +kernel
theorem dX9_chain_20 : decode cX9_chain 20 = .ok (.i2l, 1) := by decide +kernel
theorem dX9_chain_21 : decode cX9_chain 21 = .ok (.lconst 0, 1) := by decide +kernel
theorem dX9_chain_22 : decode cX9_chain 22 = .ok (.aload_n 0, 1) := by decide +kernel
theorem dX9_chain_23 : decode cX9_chain 23 = .ok (.getfield 44, 3) := by decide +kernel
theorem dX9_chain_26 : decode cX9_chain 26 = .ok (.iload_n 1, 1) := by decide +kernel
theorem dX9_chain_27 : decode cX9_chain 27 = .ok (.iaload, 1) := by decide +kernel
theorem dX9_chain_28 : decode cX9_chain 28 = .ok (.i2l, 1) := by decide +kernel
theorem dX9_chain_29 : decode cX9_chain 29 = .ok (.invokestatic 102, 3) := by decide +kernel
theorem dX9_chain_32 : decode cX9_chain 32 = .ok (.ifCond .ne 7, 3) := by decide +kernel
theorem dX9_chain_35 : decode cX9_chain 35 = .ok (.sipush (-1002), 3) := by decide +kernel
theorem dX9_chain_38 : decode cX9_chain 38 = .ok (.ireturn, 1) := by decide +kernel
theorem dX9_chain_39 : decode cX9_chain 39 = .ok (.aload_n 0, 1) := by decide +kernel
theorem dX9_chain_40 : decode cX9_chain 40 = .ok (.getfield 31, 3) := by decide +kernel
theorem dX9_chain_43 : decode cX9_chain 43 = .ok (.iload_n 2, 1) := by decide +kernel
theorem dX9_chain_44 : decode cX9_chain 44 = .ok (.iaload, 1) := by decide +kernel
theorem dX9_chain_45 : decode cX9_chain 45 = .ok (.iconst (-1), 1) := by decide +kernel
theorem dX9_chain_46 : decode cX9_chain 46 = .ok (.if_icmp .eq 7, 3) := by decide +kernel
theorem dX9_chain_49 : decode cX9_chain 49 = .ok (.sipush (-1003), 3) := by decide +kernel
theorem dX9_chain_52 : decode cX9_chain 52 = .ok (.ireturn, 1) := by decide +kernel
theorem dX9_chain_53 : decode cX9_chain 53 = .ok (.aload_n 0, 1) := by decide +kernel
theorem dX9_chain_54 : decode cX9_chain 54 = .ok (.getfield 44, 3) := by decide +kernel
theorem dX9_chain_57 : decode cX9_chain 57 = .ok (.iload_n 1, 1) := by decide +kernel
theorem dX9_chain_58 : decode cX9_chain 58 = .ok (.iaload, 1) := by decide +kernel
theorem dX9_chain_59 : decode cX9_chain 59 = .ok (.istore 5, 2) := by decide +kernel
theorem dX9_chain_61 : decode cX9_chain 61 = .ok (.iload 5, 2) := by decide +kernel
theorem dX9_chain_63 : decode cX9_chain 63 = .ok (.iload_n 3, 1) := by decide +kernel
theorem dX9_chain_64 : decode cX9_chain 64 = .ok (.if_icmp .le 35, 3) := by decide +kernel
theorem dX9_chain_67 : decode cX9_chain 67 = .ok (.aload_n 0, 1) := by decide +kernel
theorem dX9_chain_68 : decode cX9_chain 68 = .ok (.getfield 41, 3) := by decide +kernel
theorem dX9_chain_71 : decode cX9_chain 71 = .ok (.bipush 20, 2) := by decide +kernel
theorem dX9_chain_73 : decode cX9_chain 73 = .ok (.iload_n 1, 1) := by decide +kernel
theorem dX9_chain_74 : decode cX9_chain 74 = .ok (.imul, 1) := by decide +kernel
theorem dX9_chain_75 : decode cX9_chain 75 = .ok (.iload 5, 2) := by decide +kernel
theorem dX9_chain_77 : decode cX9_chain 77 = .ok (.iadd, 1) := by decide +kernel
theorem dX9_chain_78 : decode cX9_chain 78 = .ok (.aload_n 0, 1) := by decide +kernel
theorem dX9_chain_79 : decode cX9_chain 79 = .ok (.getfield 41, 3) := by decide +kernel
theorem dX9_chain_82 : decode cX9_chain 82 = .ok (.bipush 20, 2) := by decide +kernel
theorem dX9_chain_84 : decode cX9_chain 84 = .ok (.iload_n 1, 1) := by decide +kernel
theorem dX9_chain_85 : decode cX9_chain 85 = .ok (.imul, 1) := by decide +kernel
theorem dX9_chain_86 : decode cX9_chain 86 = .ok (.iload 5, 2) := by decide +kernel
theorem dX9_chain_88 : decode cX9_chain 88 = .ok (.iadd, 1) := by decide +kernel
theorem dX9_chain_89 : decode cX9_chain 89 = .ok (.iconst 1, 1) := by decide +kernel
theorem dX9_chain_90 : decode cX9_chain 90 = .ok (.isub, 1) := by decide +kernel
theorem dX9_chain_91 : decode cX9_chain 91 = .ok (.iaload, 1) := by decide +kernel
theorem dX9_chain_92 : decode cX9_chain 92 = .ok (.iastore, 1) := by decide +kernel
theorem dX9_chain_93 : decode cX9_chain 93 = .ok (.iinc 5 (-1), 3) := by decide +kernel
theorem dX9_chain_96 : decode cX9_chain 96 = .ok (.goto (-35), 3) := by decide +kernel
theorem dX9_chain_99 : decode cX9_chain 99 = .ok (.aload_n 0, 1) := by decide +kernel
theorem dX9_chain_100 : decode cX9_chain 100 = .ok (.getfield 41, 3) := by decide +kernel
theorem dX9_chain_103 : decode cX9_chain 103 = .ok (.bipush 20, 2) := by decide +kernel
theorem dX9_chain_105 : decode cX9_chain 105 = .ok (.iload_n 1, 1) := by decide +kernel
theorem dX9_chain_106 : decode cX9_chain 106 = .ok (.imul, 1) := by decide +kernel
theorem dX9_chain_107 : decode cX9_chain 107 = .ok (.iload_n 3, 1) := by decide +kernel
theorem dX9_chain_108 : decode cX9_chain 108 = .ok (.iadd, 1) := by decide +kernel
theorem dX9_chain_109 : decode cX9_chain 109 = .ok (.iload_n 2, 1) := by decide +kernel
theorem dX9_chain_110 : decode cX9_chain 110 = .ok (.iastore, 1) := by decide +kernel
theorem dX9_chain_111 : decode cX9_chain 111 = .ok (.aload_n 0, 1) := by decide +kernel
theorem dX9_chain_112 : decode cX9_chain 112 = .ok (.getfield 44, 3) := by decide +kernel
theorem dX9_chain_115 : decode cX9_chain 115 = .ok (.iload_n 1, 1) := by decide +kernel
theorem dX9_chain_116 : decode cX9_chain 116 = .ok (.dup2, 1) := by decide +kernel
theorem dX9_chain_117 : decode cX9_chain 117 = .ok (.iaload, 1) := by decide +kernel
theorem dX9_chain_118 : decode cX9_chain 118 = .ok (.iconst 1, 1) := by decide +kernel
theorem dX9_chain_119 : decode cX9_chain 119 = .ok (.iadd, 1) := by decide +kernel
theorem dX9_chain_120 : decode cX9_chain 120 = .ok (.iastore, 1) := by decide +kernel
theorem dX9_chain_121 : decode cX9_chain 121 = .ok (.aload_n 0, 1) := by decide +kernel
theorem dX9_chain_122 : decode cX9_chain 122 = .ok (.getfield 31, 3) := by decide +kernel
theorem dX9_chain_125 : decode cX9_chain 125 = .ok (.iload_n 2, 1) := by decide +kernel
theorem dX9_chain_126 : decode cX9_chain 126 = .ok (.iload_n 1, 1) := by decide +kernel
theorem dX9_chain_127 : decode cX9_chain 127 = .ok (.iastore, 1) := by decide +kernel
theorem dX9_chain_128 : decode cX9_chain 128 = .ok (.aload_n 0, 1) := by decide +kernel
theorem dX9_chain_129 : decode cX9_chain 129 = .ok (.getfield 34, 3) := by decide +kernel
theorem dX9_chain_132 : decode cX9_chain 132 = .ok (.iload_n 2, 1) := by decide +kernel
theorem dX9_chain_133 : decode cX9_chain 133 = .ok (.iload 4, 2) := by decide +kernel
theorem dX9_chain_135 : decode cX9_chain 135 = .ok (.bastore, 1) := by decide +kernel
theorem dX9_chain_136 : decode cX9_chain 136 = .ok (.aload_n 0, 1) := by decide +kernel
theorem dX9_chain_137 : decode cX9_chain 137 = .ok (.getfield 44, 3) := by decide +kernel
theorem dX9_chain_140 : decode cX9_chain 140 = .ok (.iload_n 1, 1) := by decide +kernel
theorem dX9_chain_141 : decode cX9_chain 141 = .ok (.iaload, 1) := by decide +kernel
theorem dX9_chain_142 : decode cX9_chain 142 = .ok (.ireturn, 1) := by decide +kernel
theorem dX9_unchain_0 : decode cX9_unchain 0 = .ok (.aload_n 0, 1) := by decide +kernel
theorem dX9_unchain_1 : decode cX9_unchain 1 = .ok (.iload_n 1, 1) := by decide +kernel
theorem dX9_unchain_2 : decode cX9_unchain 2 = .ok (.invokevirtual 128, 3) := by decide +kernel
theorem dX9_unchain_5 : decode cX9_unchain 5 = .ok (.ifCond .ne 7, 3) := by decide +kernel
theorem dX9_unchain_8 : decode cX9_unchain 8 = .ok (.sipush (-1001), 3) := by decide +kernel
theorem dX9_unchain_11 : decode cX9_unchain 11 = .ok (.ireturn, 1) := by decide +kernel
theorem dX9_unchain_12 : decode cX9_unchain 12 = .ok (.aload_n 0, 1) := by decide +kernel
theorem dX9_unchain_13 : decode cX9_unchain 13 = .ok (.getfield 31, 3) := by decide +kernel
theorem dX9_unchain_16 : decode cX9_unchain 16 = .ok (.iload_n 1, 1) := by decide +kernel
theorem dX9_unchain_17 : decode cX9_unchain 17 = .ok (.iaload, 1) := by decide +kernel
theorem dX9_unchain_18 : decode cX9_unchain 18 = .ok (.istore_n 2, 1) := by decide +kernel
theorem dX9_unchain_19 : decode cX9_unchain 19 = .ok (.iload_n 2, 1) := by decide +kernel
theorem dX9_unchain_20 : decode cX9_unchain 20 = .ok (.iconst (-1), 1) := by decide +kernel
theorem dX9_unchain_21 : decode cX9_unchain 21 = .ok (.if_icmp .ne 5, 3) := by decide +kernel
theorem dX9_unchain_24 : decode cX9_unchain 24 = .ok (.iconst 0, 1) := by decide +kernel
theorem dX9_unchain_25 : decode cX9_unchain 25 = .ok (.ireturn, 1) := by decide +kernel
theorem dX9_unchain_26 : decode cX9_unchain 26 = .ok (.iconst 0, 1) := by decide +kernel
theorem dX9_unchain_27 : decode cX9_unchain 27 = .ok (.istore_n 3, 1) := by decide +kernel
theorem dX9_unchain_28 : decode cX9_unchain 28 = .ok (.aload_n 0, 1) := by decide +kernel
theorem dX9_unchain_29 : decode cX9_unchain 29 = .ok (.getfield 41, 3) := by decide +kernel
theorem dX9_unchain_32 : decode cX9_unchain 32 = .ok (.bipush 20, 2) := by decide +kernel
theorem dX9_unchain_34 : decode cX9_unchain 34 = .ok (.iload_n 2, 1) := by decide +kernel
theorem dX9_unchain_35 : decode cX9_unchain 35 = .ok (.imul, 1) := by decide +kernel
theorem dX9_unchain_36 : decode cX9_unchain 36 = .ok (.iload_n 3, 1) := by decide +kernel
theorem dX9_unchain_37 : decode cX9_unchain 37 = .ok (.iadd, 1) := by decide +kernel
theorem dX9_unchain_38 : decode cX9_unchain 38 = .ok (.iaload, 1) := by decide +kernel
theorem dX9_unchain_39 : decode cX9_unchain 39 = .ok (.iload_n 1, 1) := by decide +kernel
theorem dX9_unchain_40 : decode cX9_unchain 40 = .ok (.if_icmp .eq 9, 3) := by decide +kernel
theorem dX9_unchain_43 : decode cX9_unchain 43 = .ok (.iinc 3 1, 3) := by decide +kernel
theorem dX9_unchain_46 : decode cX9_unchain 46 = .ok (.goto (-18), 3) := by decide +kernel
theorem dX9_unchain_49 : decode cX9_unchain 49 = .ok (.aload_n 0, 1) := by decide +kernel
theorem dX9_unchain_50 : decode cX9_unchain 50 = .ok (.getfield 44, 3) := by decide +kernel
theorem dX9_unchain_53 : decode cX9_unchain 53 = .ok (.iload_n 2, 1) := by decide +kernel
theorem dX9_unchain_54 : decode cX9_unchain 54 = .ok (.dup2, 1) := by decide +kernel
theorem dX9_unchain_55 : decode cX9_unchain 55 = .ok (.iaload, 1) := by decide +kernel
theorem dX9_unchain_56 : decode cX9_unchain 56 = .ok (.iconst 1, 1) := by decide +kernel
theorem dX9_unchain_57 : decode cX9_unchain 57 = .ok (.isub, 1) := by decide +kernel
theorem dX9_unchain_58 : decode cX9_unchain 58 = .ok (.iastore, 1) := by decide +kernel
theorem dX9_unchain_59 : decode cX9_unchain 59 = .ok (.iload_n 3, 1) := by decide +kernel
theorem dX9_unchain_60 : decode cX9_unchain 60 = .ok (.istore 4, 2) := by decide +kernel
theorem dX9_unchain_62 : decode cX9_unchain 62 = .ok (.iload 4, 2) := by decide +kernel
theorem dX9_unchain_64 : decode cX9_unchain 64 = .ok (.aload_n 0, 1) := by decide +kernel
theorem dX9_unchain_65 : decode cX9_unchain 65 = .ok (.getfield 44, 3) := by decide +kernel
theorem dX9_unchain_68 : decode cX9_unchain 68 = .ok (.iload_n 2, 1) := by decide +kernel
theorem dX9_unchain_69 : decode cX9_unchain 69 = .ok (.iaload, 1) := by decide +kernel
theorem dX9_unchain_70 : decode cX9_unchain 70 = .ok (.if_icmp .ge 35, 3) := by decide +kernel
theorem dX9_unchain_73 : decode cX9_unchain 73 = .ok (.aload_n 0, 1) := by decide +kernel
theorem dX9_unchain_74 : decode cX9_unchain 74 = .ok (.getfield 41, 3) := by decide +kernel
theorem dX9_unchain_77 : decode cX9_unchain 77 = .ok (.bipush 20, 2) := by decide +kernel
theorem dX9_unchain_79 : decode cX9_unchain 79 = .ok (.iload_n 2, 1) := by decide +kernel
theorem dX9_unchain_80 : decode cX9_unchain 80 = .ok (.imul, 1) := by decide +kernel
theorem dX9_unchain_81 : decode cX9_unchain 81 = .ok (.iload 4, 2) := by decide +kernel
theorem dX9_unchain_83 : decode cX9_unchain 83 = .ok (.iadd, 1) := by decide +kernel
theorem dX9_unchain_84 : decode cX9_unchain 84 = .ok (.aload_n 0, 1) := by decide +kernel
theorem dX9_unchain_85 : decode cX9_unchain 85 = .ok (.getfield 41, 3) := by decide +kernel
theorem dX9_unchain_88 : decode cX9_unchain 88 = .ok (.bipush 20, 2) := by decide +kernel
theorem dX9_unchain_90 : decode cX9_unchain 90 = .ok (.iload_n 2, 1) := by decide +kernel
theorem dX9_unchain_91 : decode cX9_unchain 91 = .ok (.imul, 1) := by decide +kernel
theorem dX9_unchain_92 : decode cX9_unchain 92 = .ok (.iload 4, 2) := by decide +kernel
theorem dX9_unchain_94 : decode cX9_unchain 94 = .ok (.iadd, 1) := by decide +kernel
theorem dX9_unchain_95 : decode cX9_unchain 95 = .ok (.iconst 1, 1) := by decide +kernel
theorem dX9_unchain_96 : decode cX9_unchain 96 = .ok (.iadd, 1) := by decide +kernel
theorem dX9_unchain_97 : decode cX9_unchain 97 = .ok (.iaload, 1) := by decide +kernel
theorem dX9_unchain_98 : decode cX9_unchain 98 = .ok (.iastore, 1) := by decide +kernel
theorem dX9_unchain_99 : decode cX9_unchain 99 = .ok (.iinc 4 1, 3) := by decide +kernel
theorem dX9_unchain_102 : decode cX9_unchain 102 = .ok (.goto (-40), 3) := by decide +kernel
theorem dX9_unchain_105 : decode cX9_unchain 105 = .ok (.aload_n 0, 1) := by decide +kernel
theorem dX9_unchain_106 : decode cX9_unchain 106 = .ok (.getfield 31, 3) := by decide +kernel
theorem dX9_unchain_109 : decode cX9_unchain 109 = .ok (.iload_n 1, 1) := by decide +kernel
theorem dX9_unchain_110 : decode cX9_unchain 110 = .ok (.iconst (-1), 1) := by decide +kernel
theorem dX9_unchain_111 : decode cX9_unchain 111 = .ok (.iastore, 1) := by decide +kernel
theorem dX9_unchain_112 : decode cX9_unchain 112 = .ok (.aload_n 0, 1) := by decide +kernel
theorem dX9_unchain_113 : decode cX9_unchain 113 = .ok (.getfield 34, 3) := by decide +kernel
theorem dX9_unchain_116 : decode cX9_unchain 116 = .ok (.iload_n 1, 1) := by decide +kernel
theorem dX9_unchain_117 : decode cX9_unchain 117 = .ok (.iconst 0, 1) := by decide +kernel
theorem dX9_unchain_118 : decode cX9_unchain 118 = .ok (.bastore, 1) := by decide +kernel
theorem dX9_unchain_119 : decode cX9_unchain 119 = .ok (.iconst 1, 1) := by decide +kernel
theorem dX9_unchain_120 : decode cX9_unchain 120 = .ok (.ireturn, 1) := by decide +kernel
theorem dX9_link_0 : decode cX9_link 0 = .ok (.iload_n 1, 1) := by decide +kernel
theorem dX9_link_1 : decode cX9_link 1 = .ok (.invokestatic 168, 3) := by decide +kernel
theorem dX9_link_4 : decode cX9_link 4 = .ok (.ifCond .ne 9, 3) := by decide +kernel
theorem dX9_link_7 : decode cX9_link 7 = .ok (.sipush (-1001), 3) := by decide +kernel
theorem dX9_link_10 : decode cX9_link 10 = .ok (.goto 36, 3) := by decide +kernel
theorem dX9_link_13 : decode cX9_link 13 = .ok (.iload_n 2, 1) := by decide +kernel
theorem dX9_link_14 : decode cX9_link 14 = .ok (.i2l, 1) := by decide +kernel
theorem dX9_link_15 : decode cX9_link 15 = .ok (.lconst 0, 1) := by decide +kernel
theorem dX9_link_16 : decode cX9_link 16 = .ok (.aload_n 0, 1) := by decide +kernel
theorem dX9_link_17 : decode cX9_link 17 = .ok (.getfield 44, 3) := by decide +kernel
theorem dX9_link_20 : decode cX9_link 20 = .ok (.iload_n 1, 1) := by decide +kernel
theorem dX9_link_21 : decode cX9_link 21 = .ok (.iaload, 1) := by decide +kernel
theorem dX9_link_22 : decode cX9_link 22 = .ok (.iconst 1, 1) := by decide +kernel
theorem dX9_link_23 : decode cX9_link 23 = .ok (.isub, 1) := by decide +kernel
theorem dX9_link_24 : decode cX9_link 24 = .ok (.i2l, 1) := by decide +kernel
theorem dX9_link_25 : decode cX9_link 25 = .ok (.invokestatic 102, 3) := by decide +kernel
theorem dX9_link_28 : decode cX9_link 28 = .ok (.ifCond .eq 17, 3) := by decide +kernel
theorem dX9_link_31 : decode cX9_link 31 = .ok (.aload_n 0, 1) := by decide +kernel
theorem dX9_link_32 : decode cX9_link 32 = .ok (.getfield 41, 3) := by decide +kernel
theorem dX9_link_35 : decode cX9_link 35 = .ok (.bipush 20, 2) := by decide +kernel
theorem dX9_link_37 : decode cX9_link 37 = .ok (.iload_n 1, 1) := by decide +kernel
theorem dX9_link_38 : decode cX9_link 38 = .ok (.imul, 1) := by decide +kernel
theorem dX9_link_39 : decode cX9_link 39 = .ok (.iload_n 2, 1) := by decide +kernel
theorem dX9_link_40 : decode cX9_link 40 = .ok (.iadd, 1) := by decide +kernel
theorem dX9_link_41 : decode cX9_link 41 = .ok (.iaload, 1) := by decide +kernel
theorem dX9_link_42 : decode cX9_link 42 = .ok (.goto 4, 3) := by decide +kernel
theorem dX9_link_45 : decode cX9_link 45 = .ok (.iconst (-1), 1) := by decide +kernel
theorem dX9_link_46 : decode cX9_link 46 = .ok (.ireturn, 1) := by decide +kernel
theorem dX9_stitch_0 : decode cX9_stitch 0 = .ok (.iconst 0, 1) := by decide +kernel
theorem dX9_stitch_1 : decode cX9_stitch 1 = .ok (.istore_n 1, 1) := by decide +kernel
theorem dX9_stitch_2 : decode cX9_stitch 2 = .ok (.iconst 0, 1) := by decide +kernel
theorem dX9_stitch_3 : decode cX9_stitch 3 = .ok (.istore_n 2, 1) := by decide +kernel
theorem dX9_stitch_4 : decode cX9_stitch 4 = .ok (.iload_n 2, 1) := by decide +kernel
theorem dX9_stitch_5 : decode cX9_stitch 5 = .ok (.aload_n 0, 1) := by decide +kernel
theorem dX9_stitch_6 : decode cX9_stitch 6 = .ok (.getfield 106, 3) := by decide +kernel
theorem dX9_stitch_9 : decode cX9_stitch 9 = .ok (.if_icmp .ge 70, 3) := by decide +kernel
theorem dX9_stitch_12 : decode cX9_stitch 12 = .ok (.aload_n 0, 1) := by decide +kernel
theorem dX9_stitch_13 : decode cX9_stitch 13 = .ok (.getfield 31, 3) := by decide +kernel
theorem dX9_stitch_16 : decode cX9_stitch 16 = .ok (.iload_n 2, 1) := by decide +kernel
theorem dX9_stitch_17 : decode cX9_stitch 17 = .ok (.iaload, 1) := by decide +kernel
theorem dX9_stitch_18 : decode cX9_stitch 18 = .ok (.iconst (-1), 1) := by decide +kernel
theorem dX9_stitch_19 : decode cX9_stitch 19 = .ok (.if_icmp .ne 54, 3) := by decide +kernel
theorem dX9_stitch_22 : decode cX9_stitch 22 = .ok (.aload_n 0, 1) := by decide +kernel
theorem dX9_stitch_23 : decode cX9_stitch 23 = .ok (.getfield 25, 3) := by decide +kernel
theorem dX9_stitch_26 : decode cX9_stitch 26 = .ok (.iload_n 2, 1) := by decide +kernel
theorem dX9_stitch_27 : decode cX9_stitch 27 = .ok (.iaload, 1) := by decide +kernel
theorem dX9_stitch_28 : decode cX9_stitch 28 = .ok (.istore_n 3, 1) := by decide +kernel
theorem dX9_stitch_29 : decode cX9_stitch 29 = .ok (.aload_n 0, 1) := by decide +kernel
theorem dX9_stitch_30 : decode cX9_stitch 30 = .ok (.getfield 41, 3) := by decide +kernel
theorem dX9_stitch_33 : decode cX9_stitch 33 = .ok (.bipush 20, 2) := by decide +kernel
theorem dX9_stitch_35 : decode cX9_stitch 35 = .ok (.iload_n 3, 1) := by decide +kernel
theorem dX9_stitch_36 : decode cX9_stitch 36 = .ok (.imul, 1) := by decide +kernel
theorem dX9_stitch_37 : decode cX9_stitch 37 = .ok (.aload_n 0, 1) := by decide +kernel
theorem dX9_stitch_38 : decode cX9_stitch 38 = .ok (.getfield 44, 3) := by decide +kernel
theorem dX9_stitch_41 : decode cX9_stitch 41 = .ok (.iload_n 3, 1) := by decide +kernel
theorem dX9_stitch_42 : decode cX9_stitch 42 = .ok (.iaload, 1) := by decide +kernel
theorem dX9_stitch_43 : decode cX9_stitch 43 = .ok (.iadd, 1) := by decide +kernel
theorem dX9_stitch_44 : decode cX9_stitch 44 = .ok (.iload_n 2, 1) := by decide +kernel
theorem dX9_stitch_45 : decode cX9_stitch 45 = .ok (.iastore, 1) := by decide +kernel
theorem dX9_stitch_46 : decode cX9_stitch 46 = .ok (.aload_n 0, 1) := by decide +kernel
theorem dX9_stitch_47 : decode cX9_stitch 47 = .ok (.getfield 44, 3) := by decide +kernel
theorem dX9_stitch_50 : decode cX9_stitch 50 = .ok (.iload_n 3, 1) := by decide +kernel
theorem dX9_stitch_51 : decode cX9_stitch 51 = .ok (.dup2, 1) := by decide +kernel
theorem dX9_stitch_52 : decode cX9_stitch 52 = .ok (.iaload, 1) := by decide +kernel
theorem dX9_stitch_53 : decode cX9_stitch 53 = .ok (.iconst 1, 1) := by decide +kernel
theorem dX9_stitch_54 : decode cX9_stitch 54 = .ok (.iadd, 1) := by decide +kernel
theorem dX9_stitch_55 : decode cX9_stitch 55 = .ok (.iastore, 1) := by decide +kernel
theorem dX9_stitch_56 : decode cX9_stitch 56 = .ok (.aload_n 0, 1) := by decide +kernel
theorem dX9_stitch_57 : decode cX9_stitch 57 = .ok (.getfield 31, 3) := by decide +kernel
theorem dX9_stitch_60 : decode cX9_stitch 60 = .ok (.iload_n 2, 1) := by decide +kernel
theorem dX9_stitch_61 : decode cX9_stitch 61 = .ok (.iload_n 3, 1) := by decide +kernel
theorem dX9_stitch_62 : decode cX9_stitch 62 = .ok (.iastore, 1) := by decide +kernel
theorem dX9_stitch_63 : decode cX9_stitch 63 = .ok (.aload_n 0, 1) := by decide +kernel
theorem dX9_stitch_64 : decode cX9_stitch 64 = .ok (.getfield 34, 3) := by decide +kernel
theorem dX9_stitch_67 : decode cX9_stitch 67 = .ok (.iload_n 2, 1) := by decide +kernel
theorem dX9_stitch_68 : decode cX9_stitch 68 = .ok (.iconst 0, 1) := by decide +kernel
theorem dX9_stitch_69 : decode cX9_stitch 69 = .ok (.bastore, 1) := by decide +kernel
theorem dX9_stitch_70 : decode cX9_stitch 70 = .ok (.iinc 1 1, 3) := by decide +kernel
theorem dX9_stitch_73 : decode cX9_stitch 73 = .ok (.iinc 2 1, 3) := by decide +kernel
theorem dX9_stitch_76 : decode cX9_stitch 76 = .ok (.goto (-72), 3) := by decide +kernel
theorem dX9_stitch_79 : decode cX9_stitch 79 = .ok (.iload_n 1, 1) := by decide +kernel
theorem dX9_stitch_80 : decode cX9_stitch 80 = .ok (.ireturn, 1) := by decide +kernel
theorem dX9_cellValue_0 : decode cX9_cellValue 0 = .ok (.aload_n 0, 1) := by decide +kernel
theorem dX9_cellValue_1 : decode cX9_cellValue 1 = .ok (.getfield 22, 3) := by decide +kernel
theorem dX9_cellValue_4 : decode cX9_cellValue 4 = .ok (.iload_n 1, 1) := by decide +kernel
theorem dX9_cellValue_5 : decode cX9_cellValue 5 = .ok (.iaload, 1) := by decide +kernel
theorem dX9_cellValue_6 : decode cX9_cellValue 6 = .ok (.aload_n 0, 1) := by decide +kernel
theorem dX9_cellValue_7 : decode cX9_cellValue 7 = .ok (.getfield 59, 3) := by decide +kernel
theorem dX9_cellValue_10 : decode cX9_cellValue 10 = .ok (.if_icmp .ne 10, 3) := by decide +kernel
theorem dX9_cellValue_13 : decode cX9_cellValue 13 = .ok (.aload_n 0, 1) := by decide +kernel
theorem dX9_cellValue_14 : decode cX9_cellValue 14 = .ok (.getfield 157, 3) := by decide +kernel
theorem dX9_cellValue_17 : decode cX9_cellValue 17 = .ok (.goto 9, 3) := by decide +kernel
theorem dX9_cellValue_20 : decode cX9_cellValue 20 = .ok (.aload_n 0, 1) := by decide +kernel
theorem dX9_cellValue_21 : decode cX9_cellValue 21 = .ok (.getfield 56, 3) := by decide +kernel
theorem dX9_cellValue_24 : decode cX9_cellValue 24 = .ok (.iload_n 1, 1) := by decide +kernel
theorem dX9_cellValue_25 : decode cX9_cellValue 25 = .ok (.iaload, 1) := by decide +kernel
theorem dX9_cellValue_26 : decode cX9_cellValue 26 = .ok (.ireturn, 1) := by decide +kernel
theorem dX9_outOf_0 : decode cX9_outOf 0 = .ok (.aload_n 0, 1) := by decide +kernel
theorem dX9_outOf_1 : decode cX9_outOf 1 = .ok (.getfield 44, 3) := by decide +kernel
theorem dX9_outOf_4 : decode cX9_outOf 4 = .ok (.iload_n 1, 1) := by decide +kernel
theorem dX9_outOf_5 : decode cX9_outOf 5 = .ok (.iaload, 1) := by decide +kernel
theorem dX9_outOf_6 : decode cX9_outOf 6 = .ok (.ifCond .ne 7, 3) := by decide +kernel
theorem dX9_outOf_9 : decode cX9_outOf 9 = .ok (.iload_n 2, 1) := by decide +kernel
theorem dX9_outOf_10 : decode cX9_outOf 10 = .ok (.goto 25, 3) := by decide +kernel
theorem dX9_outOf_13 : decode cX9_outOf 13 = .ok (.aload_n 0, 1) := by decide +kernel
theorem dX9_outOf_14 : decode cX9_outOf 14 = .ok (.aload_n 0, 1) := by decide +kernel
theorem dX9_outOf_15 : decode cX9_outOf 15 = .ok (.getfield 41, 3) := by decide +kernel
theorem dX9_outOf_18 : decode cX9_outOf 18 = .ok (.bipush 20, 2) := by decide +kernel
theorem dX9_outOf_20 : decode cX9_outOf 20 = .ok (.iload_n 1, 1) := by decide +kernel
theorem dX9_outOf_21 : decode cX9_outOf 21 = .ok (.imul, 1) := by decide +kernel
theorem dX9_outOf_22 : decode cX9_outOf 22 = .ok (.aload_n 0, 1) := by decide +kernel
theorem dX9_outOf_23 : decode cX9_outOf 23 = .ok (.getfield 44, 3) := by decide +kernel
theorem dX9_outOf_26 : decode cX9_outOf 26 = .ok (.iload_n 1, 1) := by decide +kernel
theorem dX9_outOf_27 : decode cX9_outOf 27 = .ok (.iaload, 1) := by decide +kernel
theorem dX9_outOf_28 : decode cX9_outOf 28 = .ok (.iadd, 1) := by decide +kernel
theorem dX9_outOf_29 : decode cX9_outOf 29 = .ok (.iconst 1, 1) := by decide +kernel
theorem dX9_outOf_30 : decode cX9_outOf 30 = .ok (.isub, 1) := by decide +kernel
theorem dX9_outOf_31 : decode cX9_outOf 31 = .ok (.iaload, 1) := by decide +kernel
theorem dX9_outOf_32 : decode cX9_outOf 32 = .ok (.invokevirtual 171, 3) := by decide +kernel
theorem dX9_outOf_35 : decode cX9_outOf 35 = .ok (.ireturn, 1) := by decide +kernel
theorem dX9_prepare_0 : decode cX9_prepare 0 = .ok (.iconst 0, 1) := by decide +kernel
theorem dX9_prepare_1 : decode cX9_prepare 1 = .ok (.istore_n 3, 1) := by decide +kernel
theorem dX9_prepare_2 : decode cX9_prepare 2 = .ok (.iload_n 3, 1) := by decide +kernel
theorem dX9_prepare_3 : decode cX9_prepare 3 = .ok (.aload_n 0, 1) := by decide +kernel
theorem dX9_prepare_4 : decode cX9_prepare 4 = .ok (.getfield 44, 3) := by decide +kernel
theorem dX9_prepare_7 : decode cX9_prepare 7 = .ok (.iload_n 1, 1) := by decide +kernel
theorem dX9_prepare_8 : decode cX9_prepare 8 = .ok (.iaload, 1) := by decide +kernel
theorem dX9_prepare_9 : decode cX9_prepare 9 = .ok (.if_icmp .ge 76, 3) := by decide +kernel
theorem dX9_prepare_12 : decode cX9_prepare 12 = .ok (.aload_n 0, 1) := by decide +kernel
theorem dX9_prepare_13 : decode cX9_prepare 13 = .ok (.getfield 41, 3) := by decide +kernel
theorem dX9_prepare_16 : decode cX9_prepare 16 = .ok (.bipush 20, 2) := by decide +kernel
theorem dX9_prepare_18 : decode cX9_prepare 18 = .ok (.iload_n 1, 1) := by decide +kernel
theorem dX9_prepare_19 : decode cX9_prepare 19 = .ok (.imul, 1) := by decide +kernel
theorem dX9_prepare_20 : decode cX9_prepare 20 = .ok (.iload_n 3, 1) := by decide +kernel
theorem dX9_prepare_21 : decode cX9_prepare 21 = .ok (.iadd, 1) := by decide +kernel
theorem dX9_prepare_22 : decode cX9_prepare 22 = .ok (.iaload, 1) := by decide +kernel
theorem dX9_prepare_23 : decode cX9_prepare 23 = .ok (.istore 4, 2) := by decide +kernel
theorem dX9_prepare_25 : decode cX9_prepare 25 = .ok (.iload_n 3, 1) := by decide +kernel
theorem dX9_prepare_26 : decode cX9_prepare 26 = .ok (.ifCond .ne 7, 3) := by decide +kernel
theorem dX9_prepare_29 : decode cX9_prepare 29 = .ok (.iload_n 2, 1) := by decide +kernel
theorem dX9_prepare_30 : decode cX9_prepare 30 = .ok (.goto 20, 3) := by decide +kernel
theorem dX9_prepare_33 : decode cX9_prepare 33 = .ok (.aload_n 0, 1) := by decide +kernel
theorem dX9_prepare_34 : decode cX9_prepare 34 = .ok (.aload_n 0, 1) := by decide +kernel
theorem dX9_prepare_35 : decode cX9_prepare 35 = .ok (.getfield 41, 3) := by decide +kernel
theorem dX9_prepare_38 : decode cX9_prepare 38 = .ok (.bipush 20, 2) := by decide +kernel
theorem dX9_prepare_40 : decode cX9_prepare 40 = .ok (.iload_n 1, 1) := by decide +kernel
theorem dX9_prepare_41 : decode cX9_prepare 41 = .ok (.imul, 1) := by decide +kernel
theorem dX9_prepare_42 : decode cX9_prepare 42 = .ok (.iload_n 3, 1) := by decide +kernel
theorem dX9_prepare_43 : decode cX9_prepare 43 = .ok (.iadd, 1) := by decide +kernel
theorem dX9_prepare_44 : decode cX9_prepare 44 = .ok (.iconst 1, 1) := by decide +kernel
theorem dX9_prepare_45 : decode cX9_prepare 45 = .ok (.isub, 1) := by decide +kernel
theorem dX9_prepare_46 : decode cX9_prepare 46 = .ok (.iaload, 1) := by decide +kernel
theorem dX9_prepare_47 : decode cX9_prepare 47 = .ok (.invokevirtual 171, 3) := by decide +kernel
theorem dX9_prepare_50 : decode cX9_prepare 50 = .ok (.istore 5, 2) := by decide +kernel
theorem dX9_prepare_52 : decode cX9_prepare 52 = .ok (.aload_n 0, 1) := by decide +kernel
theorem dX9_prepare_53 : decode cX9_prepare 53 = .ok (.getfield 69, 3) := by decide +kernel
theorem dX9_prepare_56 : decode cX9_prepare 56 = .ok (.iload 4, 2) := by decide +kernel
theorem dX9_prepare_58 : decode cX9_prepare 58 = .ok (.aload_n 0, 1) := by decide +kernel
theorem dX9_prepare_59 : decode cX9_prepare 59 = .ok (.getfield 34, 3) := by decide +kernel
theorem dX9_prepare_62 : decode cX9_prepare 62 = .ok (.iload 4, 2) := by decide +kernel
theorem dX9_prepare_64 : decode cX9_prepare 64 = .ok (.baload, 1) := by decide +kernel
theorem dX9_prepare_65 : decode cX9_prepare 65 = .ok (.ifCond .eq 11, 3) := by decide +kernel
theorem dX9_prepare_68 : decode cX9_prepare 68 = .ok (.iload 5, 2) := by decide +kernel
theorem dX9_prepare_70 : decode cX9_prepare 70 = .ok (.invokestatic 147, 3) := by decide +kernel
theorem dX9_prepare_73 : decode cX9_prepare 73 = .ok (.goto 5, 3) := by decide +kernel
theorem dX9_prepare_76 : decode cX9_prepare 76 = .ok (.iload 5, 2) := by decide +kernel
theorem dX9_prepare_78 : decode cX9_prepare 78 = .ok (.iastore, 1) := by decide +kernel
theorem dX9_prepare_79 : decode cX9_prepare 79 = .ok (.iinc 3 1, 3) := by decide +kernel
theorem dX9_prepare_82 : decode cX9_prepare 82 = .ok (.goto (-80), 3) := by decide +kernel
theorem dX9_prepare_85 : decode cX9_prepare 85 = .ok (.return_, 1) := by decide +kernel
theorem dX9_take_0 : decode cX9_take 0 = .ok (.iconst 0, 1) := by decide +kernel
theorem dX9_take_1 : decode cX9_take 1 = .ok (.istore_n 2, 1) := by decide +kernel
theorem dX9_take_2 : decode cX9_take 2 = .ok (.iload_n 2, 1) := by decide +kernel
theorem dX9_take_3 : decode cX9_take 3 = .ok (.aload_n 0, 1) := by decide +kernel
theorem dX9_take_4 : decode cX9_take 4 = .ok (.getfield 44, 3) := by decide +kernel
theorem dX9_take_7 : decode cX9_take 7 = .ok (.iload_n 1, 1) := by decide +kernel
theorem dX9_take_8 : decode cX9_take 8 = .ok (.iaload, 1) := by decide +kernel
theorem dX9_take_9 : decode cX9_take 9 = .ok (.if_icmp .ge 33, 3) := by decide +kernel
theorem dX9_take_12 : decode cX9_take 12 = .ok (.aload_n 0, 1) := by decide +kernel
theorem dX9_take_13 : decode cX9_take 13 = .ok (.getfield 41, 3) := by decide +kernel
theorem dX9_take_16 : decode cX9_take 16 = .ok (.bipush 20, 2) := by decide +kernel
theorem dX9_take_18 : decode cX9_take 18 = .ok (.iload_n 1, 1) := by decide +kernel
theorem dX9_take_19 : decode cX9_take 19 = .ok (.imul, 1) := by decide +kernel
theorem dX9_take_20 : decode cX9_take 20 = .ok (.iload_n 2, 1) := by decide +kernel
theorem dX9_take_21 : decode cX9_take 21 = .ok (.iadd, 1) := by decide +kernel
theorem dX9_take_22 : decode cX9_take 22 = .ok (.iaload, 1) := by decide +kernel
theorem dX9_take_23 : decode cX9_take 23 = .ok (.istore_n 3, 1) := by decide +kernel
theorem dX9_take_24 : decode cX9_take 24 = .ok (.aload_n 0, 1) := by decide +kernel
theorem dX9_take_25 : decode cX9_take 25 = .ok (.getfield 56, 3) := by decide +kernel
theorem dX9_take_28 : decode cX9_take 28 = .ok (.iload_n 3, 1) := by decide +kernel
theorem dX9_take_29 : decode cX9_take 29 = .ok (.aload_n 0, 1) := by decide +kernel
theorem dX9_take_30 : decode cX9_take 30 = .ok (.getfield 69, 3) := by decide +kernel
theorem dX9_take_33 : decode cX9_take 33 = .ok (.iload_n 3, 1) := by decide +kernel
theorem dX9_take_34 : decode cX9_take 34 = .ok (.iaload, 1) := by decide +kernel
theorem dX9_take_35 : decode cX9_take 35 = .ok (.iastore, 1) := by decide +kernel
theorem dX9_take_36 : decode cX9_take 36 = .ok (.iinc 2 1, 3) := by decide +kernel
theorem dX9_take_39 : decode cX9_take 39 = .ok (.goto (-37), 3) := by decide +kernel
theorem dX9_take_42 : decode cX9_take 42 = .ok (.return_, 1) := by decide +kernel
theorem dX9_shifted_0 : decode cX9_shifted 0 = .ok (.aload_n 0, 1) := by decide +kernel
theorem dX9_shifted_1 : decode cX9_shifted 1 = .ok (.iload_n 1, 1) := by decide +kernel
theorem dX9_shifted_2 : decode cX9_shifted 2 = .ok (.iload_n 2, 1) := by decide +kernel
theorem dX9_shifted_3 : decode cX9_shifted 3 = .ok (.invokevirtual 174, 3) := by decide +kernel
theorem dX9_shifted_6 : decode cX9_shifted 6 = .ok (.istore_n 3, 1) := by decide +kernel
theorem dX9_shifted_7 : decode cX9_shifted 7 = .ok (.aload_n 0, 1) := by decide +kernel
theorem dX9_shifted_8 : decode cX9_shifted 8 = .ok (.iload_n 1, 1) := by decide +kernel
theorem dX9_shifted_9 : decode cX9_shifted 9 = .ok (.iload_n 2, 1) := by decide +kernel
theorem dX9_shifted_10 : decode cX9_shifted 10 = .ok (.invokevirtual 177, 3) := by decide +kernel
theorem dX9_shifted_13 : decode cX9_shifted 13 = .ok (.aload_n 0, 1) := by decide +kernel
theorem dX9_shifted_14 : decode cX9_shifted 14 = .ok (.iload_n 1, 1) := by decide +kernel
theorem dX9_shifted_15 : decode cX9_shifted 15 = .ok (.invokevirtual 181, 3) := by decide +kernel
theorem dX9_shifted_18 : decode cX9_shifted 18 = .ok (.iload_n 3, 1) := by decide +kernel
theorem dX9_shifted_19 : decode cX9_shifted 19 = .ok (.ireturn, 1) := by decide +kernel
theorem dX9_shift_0 : decode cX9_shift 0 = .ok (.iload_n 1, 1) := by decide +kernel
theorem dX9_shift_1 : decode cX9_shift 1 = .ok (.invokestatic 168, 3) := by decide +kernel
theorem dX9_shift_4 : decode cX9_shift 4 = .ok (.ifCond .ne 9, 3) := by decide +kernel
theorem dX9_shift_7 : decode cX9_shift 7 = .ok (.sipush (-1001), 3) := by decide +kernel
theorem dX9_shift_10 : decode cX9_shift 10 = .ok (.goto 27, 3) := by decide +kernel
theorem dX9_shift_13 : decode cX9_shift 13 = .ok (.iload_n 2, 1) := by decide +kernel
theorem dX9_shift_14 : decode cX9_shift 14 = .ok (.i2l, 1) := by decide +kernel
theorem dX9_shift_15 : decode cX9_shift 15 = .ok (.lconst 0, 1) := by decide +kernel
theorem dX9_shift_16 : decode cX9_shift 16 = .ok (.ldc2_w 126, 3) := by decide +kernel
theorem dX9_shift_19 : decode cX9_shift 19 = .ok (.invokestatic 102, 3) := by decide +kernel
theorem dX9_shift_22 : decode cX9_shift 22 = .ok (.ifCond .eq 12, 3) := by decide +kernel
theorem dX9_shift_25 : decode cX9_shift 25 = .ok (.aload_n 0, 1) := by decide +kernel
theorem dX9_shift_26 : decode cX9_shift 26 = .ok (.iload_n 1, 1) := by decide +kernel
theorem dX9_shift_27 : decode cX9_shift 27 = .ok (.iload_n 2, 1) := by decide +kernel
theorem dX9_shift_28 : decode cX9_shift 28 = .ok (.invokevirtual 185, 3) := by decide +kernel
theorem dX9_shift_31 : decode cX9_shift 31 = .ok (.goto 6, 3) := by decide +kernel
theorem dX9_shift_34 : decode cX9_shift 34 = .ok (.sipush (-1002), 3) := by decide +kernel
theorem dX9_shift_37 : decode cX9_shift 37 = .ok (.ireturn, 1) := by decide +kernel
theorem dX9_tag_0 : decode cX9_tag 0 = .ok (.aload_n 0, 1) := by decide +kernel
theorem dX9_tag_1 : decode cX9_tag 1 = .ok (.getfield 188, 3) := by decide +kernel
theorem dX9_tag_4 : decode cX9_tag 4 = .ok (.istore_n 2, 1) := by decide +kernel
theorem dX9_tag_5 : decode cX9_tag 5 = .ok (.aload_n 0, 1) := by decide +kernel
theorem dX9_tag_6 : decode cX9_tag 6 = .ok (.iload_n 1, 1) := by decide +kernel
theorem dX9_tag_7 : decode cX9_tag 7 = .ok (.ldc 191, 2) := by decide +kernel
theorem dX9_tag_9 : decode cX9_tag 9 = .ok (.iand, 1) := by decide +kernel
theorem dX9_tag_10 : decode cX9_tag 10 = .ok (.putfield 188, 3) := by decide +kernel
theorem dX9_tag_13 : decode cX9_tag 13 = .ok (.iload_n 2, 1) := by decide +kernel
theorem dX9_tag_14 : decode cX9_tag 14 = .ok (.ireturn, 1) := by decide +kernel
theorem dX9_shiftAll_0 : decode cX9_shiftAll 0 = .ok (.aload_n 0, 1) := by decide +kernel
theorem dX9_shiftAll_1 : decode cX9_shiftAll 1 = .ok (.iconst 0, 1) := by decide +kernel
theorem dX9_shiftAll_2 : decode cX9_shiftAll 2 = .ok (.iload_n 1, 1) := by decide +kernel
theorem dX9_shiftAll_3 : decode cX9_shiftAll 3 = .ok (.invokevirtual 174, 3) := by decide +kernel
theorem dX9_shiftAll_6 : decode cX9_shiftAll 6 = .ok (.istore_n 2, 1) := by decide +kernel
theorem dX9_shiftAll_7 : decode cX9_shiftAll 7 = .ok (.aload_n 0, 1) := by decide +kernel
theorem dX9_shiftAll_8 : decode cX9_shiftAll 8 = .ok (.iconst 1, 1) := by decide +kernel
theorem dX9_shiftAll_9 : decode cX9_shiftAll 9 = .ok (.iload_n 2, 1) := by decide +kernel
theorem dX9_shiftAll_10 : decode cX9_shiftAll 10 = .ok (.invokevirtual 174, 3) := by decide +kernel
theorem dX9_shiftAll_13 : decode cX9_shiftAll 13 = .ok (.istore_n 3, 1) := by decide +kernel
theorem dX9_shiftAll_14 : decode cX9_shiftAll 14 = .ok (.aload_n 0, 1) := by decide +kernel
theorem dX9_shiftAll_15 : decode cX9_shiftAll 15 = .ok (.iconst 2, 1) := by decide +kernel
theorem dX9_shiftAll_16 : decode cX9_shiftAll 16 = .ok (.iload_n 3, 1) := by decide +kernel
theorem dX9_shiftAll_17 : decode cX9_shiftAll 17 = .ok (.invokevirtual 174, 3) := by decide +kernel
theorem dX9_shiftAll_20 : decode cX9_shiftAll 20 = .ok (.istore 4, 2) := by decide +kernel
theorem dX9_shiftAll_22 : decode cX9_shiftAll 22 = .ok (.aload_n 0, 1) := by decide +kernel
theorem dX9_shiftAll_23 : decode cX9_shiftAll 23 = .ok (.iconst 0, 1) := by decide +kernel
theorem dX9_shiftAll_24 : decode cX9_shiftAll 24 = .ok (.iload_n 1, 1) := by decide +kernel
theorem dX9_shiftAll_25 : decode cX9_shiftAll 25 = .ok (.invokevirtual 177, 3) := by decide +kernel
theorem dX9_shiftAll_28 : decode cX9_shiftAll 28 = .ok (.aload_n 0, 1) := by decide +kernel
theorem dX9_shiftAll_29 : decode cX9_shiftAll 29 = .ok (.iconst 1, 1) := by decide +kernel
theorem dX9_shiftAll_30 : decode cX9_shiftAll 30 = .ok (.iload_n 2, 1) := by decide +kernel
theorem dX9_shiftAll_31 : decode cX9_shiftAll 31 = .ok (.invokevirtual 177, 3) := by decide +kernel
theorem dX9_shiftAll_34 : decode cX9_shiftAll 34 = .ok (.aload_n 0, 1) := by decide +kernel
theorem dX9_shiftAll_35 : decode cX9_shiftAll 35 = .ok (.iconst 2, 1) := by decide +kernel
theorem dX9_shiftAll_36 : decode cX9_shiftAll 36 = .ok (.iload_n 3, 1) := by decide +kernel
theorem dX9_shiftAll_37 : decode cX9_shiftAll 37 = .ok (.invokevirtual 177, 3) := by decide +kernel
theorem dX9_shiftAll_40 : decode cX9_shiftAll 40 = .ok (.aload_n 0, 1) := by decide +kernel
theorem dX9_shiftAll_41 : decode cX9_shiftAll 41 = .ok (.iconst 0, 1) := by decide +kernel
theorem dX9_shiftAll_42 : decode cX9_shiftAll 42 = .ok (.invokevirtual 181, 3) := by decide +kernel
theorem dX9_shiftAll_45 : decode cX9_shiftAll 45 = .ok (.aload_n 0, 1) := by decide +kernel
theorem dX9_shiftAll_46 : decode cX9_shiftAll 46 = .ok (.iconst 1, 1) := by decide +kernel
theorem dX9_shiftAll_47 : decode cX9_shiftAll 47 = .ok (.invokevirtual 181, 3) := by decide +kernel
theorem dX9_shiftAll_50 : decode cX9_shiftAll 50 = .ok (.aload_n 0, 1) := by decide +kernel
theorem dX9_shiftAll_51 : decode cX9_shiftAll 51 = .ok (.iconst 2, 1) := by decide +kernel
theorem dX9_shiftAll_52 : decode cX9_shiftAll 52 = .ok (.invokevirtual 181, 3) := by decide +kernel
theorem dX9_shiftAll_55 : decode cX9_shiftAll 55 = .ok (.iload 4, 2) := by decide +kernel
theorem dX9_shiftAll_57 : decode cX9_shiftAll 57 = .ok (.ireturn, 1) := by decide +kernel
theorem dX9_shiftOrder_0 : decode cX9_shiftOrder 0 = .ok (.iconst (-1), 1) := by decide +kernel
theorem dX9_shiftOrder_1 : decode cX9_shiftOrder 1 = .ok (.istore_n 2, 1) := by decide +kernel
theorem dX9_shiftOrder_2 : decode cX9_shiftOrder 2 = .ok (.aload_n 0, 1) := by decide +kernel
theorem dX9_shiftOrder_3 : decode cX9_shiftOrder 3 = .ok (.getfield 63, 3) := by decide +kernel
theorem dX9_shiftOrder_6 : decode cX9_shiftOrder 6 = .ok (.iconst 3, 1) := by decide +kernel
theorem dX9_shiftOrder_7 : decode cX9_shiftOrder 7 = .ok (.if_icmp .ge 16, 3) := by decide +kernel
theorem dX9_shiftOrder_10 : decode cX9_shiftOrder 10 = .ok (.aload_n 0, 1) := by decide +kernel
theorem dX9_shiftOrder_11 : decode cX9_shiftOrder 11 = .ok (.aload_n 0, 1) := by decide +kernel
theorem dX9_shiftOrder_12 : decode cX9_shiftOrder 12 = .ok (.getfield 63, 3) := by decide +kernel
theorem dX9_shiftOrder_15 : decode cX9_shiftOrder 15 = .ok (.iload_n 1, 1) := by decide +kernel
theorem dX9_shiftOrder_16 : decode cX9_shiftOrder 16 = .ok (.invokevirtual 185, 3) := by decide +kernel
theorem dX9_shiftOrder_19 : decode cX9_shiftOrder 19 = .ok (.istore_n 2, 1) := by decide +kernel
theorem dX9_shiftOrder_20 : decode cX9_shiftOrder 20 = .ok (.goto 63, 3) := by decide +kernel
theorem dX9_shiftOrder_23 : decode cX9_shiftOrder 23 = .ok (.aload_n 0, 1) := by decide +kernel
theorem dX9_shiftOrder_24 : decode cX9_shiftOrder 24 = .ok (.getfield 63, 3) := by decide +kernel
theorem dX9_shiftOrder_27 : decode cX9_shiftOrder 27 = .ok (.iconst 3, 1) := by decide +kernel
theorem dX9_shiftOrder_28 : decode cX9_shiftOrder 28 = .ok (.if_icmp .ne 12, 3) := by decide +kernel
theorem dX9_shiftOrder_31 : decode cX9_shiftOrder 31 = .ok (.aload_n 0, 1) := by decide +kernel
theorem dX9_shiftOrder_32 : decode cX9_shiftOrder 32 = .ok (.iload_n 1, 1) := by decide +kernel
theorem dX9_shiftOrder_33 : decode cX9_shiftOrder 33 = .ok (.invokevirtual 192, 3) := by decide +kernel
theorem dX9_shiftOrder_36 : decode cX9_shiftOrder 36 = .ok (.istore_n 2, 1) := by decide +kernel
theorem dX9_shiftOrder_37 : decode cX9_shiftOrder 37 = .ok (.goto 46, 3) := by decide +kernel
theorem dX9_shiftOrder_40 : decode cX9_shiftOrder 40 = .ok (.aload_n 0, 1) := by decide +kernel
theorem dX9_shiftOrder_41 : decode cX9_shiftOrder 41 = .ok (.getfield 63, 3) := by decide +kernel
theorem dX9_shiftOrder_44 : decode cX9_shiftOrder 44 = .ok (.iconst 4, 1) := by decide +kernel
theorem dX9_shiftOrder_45 : decode cX9_shiftOrder 45 = .ok (.if_icmp .ne 28, 3) := by decide +kernel
theorem dX9_shiftOrder_48 : decode cX9_shiftOrder 48 = .ok (.aload_n 0, 1) := by decide +kernel
theorem dX9_shiftOrder_49 : decode cX9_shiftOrder 49 = .ok (.getfield 195, 3) := by decide +kernel
theorem dX9_shiftOrder_52 : decode cX9_shiftOrder 52 = .ok (.iconst 1, 1) := by decide +kernel
theorem dX9_shiftOrder_53 : decode cX9_shiftOrder 53 = .ok (.iand, 1) := by decide +kernel
theorem dX9_shiftOrder_54 : decode cX9_shiftOrder 54 = .ok (.istore_n 2, 1) := by decide +kernel
theorem dX9_shiftOrder_55 : decode cX9_shiftOrder 55 = .ok (.aload_n 0, 1) := by decide +kernel
theorem dX9_shiftOrder_56 : decode cX9_shiftOrder 56 = .ok (.aload_n 0, 1) := by decide +kernel
theorem dX9_shiftOrder_57 : decode cX9_shiftOrder 57 = .ok (.getfield 195, 3) := by decide +kernel
theorem dX9_shiftOrder_60 : decode cX9_shiftOrder 60 = .ok (.iconst 1, 1) := by decide +kernel
theorem dX9_shiftOrder_61 : decode cX9_shiftOrder 61 = .ok (.ishr, 1) := by decide +kernel
theorem dX9_shiftOrder_62 : decode cX9_shiftOrder 62 = .ok (.iload_n 1, 1) := by decide +kernel
theorem dX9_shiftOrder_63 : decode cX9_shiftOrder 63 = .ok (.bipush 15, 2) := by decide +kernel
theorem dX9_shiftOrder_65 : decode cX9_shiftOrder 65 = .ok (.ishl, 1) := by decide +kernel
theorem dX9_shiftOrder_66 : decode cX9_shiftOrder 66 = .ok (.ior, 1) := by decide +kernel
theorem dX9_shiftOrder_67 : decode cX9_shiftOrder 67 = .ok (.putfield 195, 3) := by decide +kernel
theorem dX9_shiftOrder_70 : decode cX9_shiftOrder 70 = .ok (.goto 13, 3) := by decide +kernel
theorem dX9_shiftOrder_73 : decode cX9_shiftOrder 73 = .ok (.aload_n 0, 1) := by decide +kernel
theorem dX9_shiftOrder_74 : decode cX9_shiftOrder 74 = .ok (.getfield 198, 3) := by decide +kernel
theorem dX9_shiftOrder_77 : decode cX9_shiftOrder 77 = .ok (.istore_n 2, 1) := by decide +kernel
theorem dX9_shiftOrder_78 : decode cX9_shiftOrder 78 = .ok (.aload_n 0, 1) := by decide +kernel
theorem dX9_shiftOrder_79 : decode cX9_shiftOrder 79 = .ok (.iload_n 1, 1) := by decide +kernel
theorem dX9_shiftOrder_80 : decode cX9_shiftOrder 80 = .ok (.putfield 198, 3) := by decide +kernel
theorem dX9_shiftOrder_83 : decode cX9_shiftOrder 83 = .ok (.iload_n 2, 1) := by decide +kernel
theorem dX9_shiftOrder_84 : decode cX9_shiftOrder 84 = .ok (.ireturn, 1) := by decide +kernel
theorem dX9_catchOrder_0 : decode cX9_catchOrder 0 = .ok (.aload_n 0, 1) := by decide +kernel
theorem dX9_catchOrder_1 : decode cX9_catchOrder 1 = .ok (.getfield 63, 3) := by decide +kernel
theorem dX9_catchOrder_4 : decode cX9_catchOrder 4 = .ok (.iconst 4, 1) := by decide +kernel
theorem dX9_catchOrder_5 : decode cX9_catchOrder 5 = .ok (.if_icmp .ge 13, 3) := by decide +kernel
theorem dX9_catchOrder_8 : decode cX9_catchOrder 8 = .ok (.aload_n 0, 1) := by decide +kernel
theorem dX9_catchOrder_9 : decode cX9_catchOrder 9 = .ok (.bipush 7, 2) := by decide +kernel
theorem dX9_catchOrder_11 : decode cX9_catchOrder 11 = .ok (.invokevirtual 165, 3) := by decide +kernel
theorem dX9_catchOrder_14 : decode cX9_catchOrder 14 = .ok (.istore_n 1, 1) := by decide +kernel
theorem dX9_catchOrder_15 : decode cX9_catchOrder 15 = .ok (.goto 44, 3) := by decide +kernel
theorem dX9_catchOrder_18 : decode cX9_catchOrder 18 = .ok (.aload_n 0, 1) := by decide +kernel
theorem dX9_catchOrder_19 : decode cX9_catchOrder 19 = .ok (.getfield 63, 3) := by decide +kernel
theorem dX9_catchOrder_22 : decode cX9_catchOrder 22 = .ok (.iconst 4, 1) := by decide +kernel
theorem dX9_catchOrder_23 : decode cX9_catchOrder 23 = .ok (.if_icmp .ne 14, 3) := by decide +kernel
theorem dX9_catchOrder_26 : decode cX9_catchOrder 26 = .ok (.aload_n 0, 1) := by decide +kernel
theorem dX9_catchOrder_27 : decode cX9_catchOrder 27 = .ok (.aload_n 0, 1) := by decide +kernel
theorem dX9_catchOrder_28 : decode cX9_catchOrder 28 = .ok (.getfield 188, 3) := by decide +kernel
theorem dX9_catchOrder_31 : decode cX9_catchOrder 31 = .ok (.putfield 195, 3) := by decide +kernel
theorem dX9_catchOrder_34 : decode cX9_catchOrder 34 = .ok (.goto 25, 3) := by decide +kernel
theorem dX9_catchOrder_37 : decode cX9_catchOrder 37 = .ok (.aload_n 0, 1) := by decide +kernel
theorem dX9_catchOrder_38 : decode cX9_catchOrder 38 = .ok (.getfield 63, 3) := by decide +kernel
theorem dX9_catchOrder_41 : decode cX9_catchOrder 41 = .ok (.iconst 5, 1) := by decide +kernel
theorem dX9_catchOrder_42 : decode cX9_catchOrder 42 = .ok (.if_icmp .ne 12, 3) := by decide +kernel
theorem dX9_catchOrder_45 : decode cX9_catchOrder 45 = .ok (.aload_n 0, 1) := by decide +kernel
theorem dX9_catchOrder_46 : decode cX9_catchOrder 46 = .ok (.iconst 1, 1) := by decide +kernel
theorem dX9_catchOrder_47 : decode cX9_catchOrder 47 = .ok (.invokevirtual 165, 3) := by decide +kernel
theorem dX9_catchOrder_50 : decode cX9_catchOrder 50 = .ok (.istore_n 1, 1) := by decide +kernel
theorem dX9_catchOrder_51 : decode cX9_catchOrder 51 = .ok (.goto 8, 3) := by decide +kernel
theorem dX9_catchOrder_54 : decode cX9_catchOrder 54 = .ok (.aload_n 0, 1) := by decide +kernel
theorem dX9_catchOrder_55 : decode cX9_catchOrder 55 = .ok (.iconst 0, 1) := by decide +kernel
theorem dX9_catchOrder_56 : decode cX9_catchOrder 56 = .ok (.putfield 198, 3) := by decide +kernel
theorem dX9_catchOrder_59 : decode cX9_catchOrder 59 = .ok (.return_, 1) := by decide +kernel
theorem dX9_onward_0 : decode cX9_onward 0 = .ok (.iload_n 0, 1) := by decide +kernel
theorem dX9_onward_1 : decode cX9_onward 1 = .ok (.tableswitch 242 0 14 #[75, 85, 95, 106, 116, 126, 138, 150, 161, 171, 182, 194, 206, 218, 230], 75) := by decide +kernel
theorem dX9_onward_76 : decode cX9_onward 76 = .ok (.iload_n 1, 1) := by decide +kernel
theorem dX9_onward_77 : decode cX9_onward 77 = .ok (.ifCond .ne 7, 3) := by decide +kernel
theorem dX9_onward_80 : decode cX9_onward 80 = .ok (.iconst 1, 1) := by decide +kernel
theorem dX9_onward_81 : decode cX9_onward 81 = .ok (.goto 4, 3) := by decide +kernel
theorem dX9_onward_84 : decode cX9_onward 84 = .ok (.iconst 0, 1) := by decide +kernel
theorem dX9_onward_85 : decode cX9_onward 85 = .ok (.ireturn, 1) := by decide +kernel
theorem dX9_onward_86 : decode cX9_onward 86 = .ok (.iload_n 1, 1) := by decide +kernel
theorem dX9_onward_87 : decode cX9_onward 87 = .ok (.ifCond .ne 7, 3) := by decide +kernel
theorem dX9_onward_90 : decode cX9_onward 90 = .ok (.iconst 1, 1) := by decide +kernel
theorem dX9_onward_91 : decode cX9_onward 91 = .ok (.goto 4, 3) := by decide +kernel
theorem dX9_onward_94 : decode cX9_onward 94 = .ok (.iconst 2, 1) := by decide +kernel
theorem dX9_onward_95 : decode cX9_onward 95 = .ok (.ireturn, 1) := by decide +kernel
theorem dX9_onward_96 : decode cX9_onward 96 = .ok (.iload_n 1, 1) := by decide +kernel
theorem dX9_onward_97 : decode cX9_onward 97 = .ok (.ifCond .ne 7, 3) := by decide +kernel
theorem dX9_onward_100 : decode cX9_onward 100 = .ok (.iconst 3, 1) := by decide +kernel
theorem dX9_onward_101 : decode cX9_onward 101 = .ok (.goto 5, 3) := by decide +kernel
theorem dX9_onward_104 : decode cX9_onward 104 = .ok (.bipush 9, 2) := by decide +kernel
theorem dX9_onward_106 : decode cX9_onward 106 = .ok (.ireturn, 1) := by decide +kernel
theorem dX9_onward_107 : decode cX9_onward 107 = .ok (.iload_n 1, 1) := by decide +kernel
theorem dX9_onward_108 : decode cX9_onward 108 = .ok (.ifCond .ne 7, 3) := by decide +kernel
theorem dX9_onward_111 : decode cX9_onward 111 = .ok (.iconst 4, 1) := by decide +kernel
theorem dX9_onward_112 : decode cX9_onward 112 = .ok (.goto 4, 3) := by decide +kernel
theorem dX9_onward_115 : decode cX9_onward 115 = .ok (.iconst 5, 1) := by decide +kernel
theorem dX9_onward_116 : decode cX9_onward 116 = .ok (.ireturn, 1) := by decide +kernel
theorem dX9_onward_117 : decode cX9_onward 117 = .ok (.iload_n 1, 1) := by decide +kernel
theorem dX9_onward_118 : decode cX9_onward 118 = .ok (.ifCond .ne 7, 3) := by decide +kernel
theorem dX9_onward_121 : decode cX9_onward 121 = .ok (.iconst 4, 1) := by decide +kernel
theorem dX9_onward_122 : decode cX9_onward 122 = .ok (.goto 4, 3) := by decide +kernel
theorem dX9_onward_125 : decode cX9_onward 125 = .ok (.iconst 5, 1) := by decide +kernel
theorem dX9_onward_126 : decode cX9_onward 126 = .ok (.ireturn, 1) := by decide +kernel
theorem dX9_onward_127 : decode cX9_onward 127 = .ok (.iload_n 1, 1) := by decide +kernel
theorem dX9_onward_128 : decode cX9_onward 128 = .ok (.ifCond .ne 8, 3) := by decide +kernel
theorem dX9_onward_131 : decode cX9_onward 131 = .ok (.bipush 6, 2) := by decide +kernel
theorem dX9_onward_133 : decode cX9_onward 133 = .ok (.goto 5, 3) := by decide +kernel
theorem dX9_onward_136 : decode cX9_onward 136 = .ok (.bipush 8, 2) := by decide +kernel
theorem dX9_onward_138 : decode cX9_onward 138 = .ok (.ireturn, 1) := by decide +kernel
theorem dX9_onward_139 : decode cX9_onward 139 = .ok (.iload_n 1, 1) := by decide +kernel
theorem dX9_onward_140 : decode cX9_onward 140 = .ok (.ifCond .ne 8, 3) := by decide +kernel
theorem dX9_onward_143 : decode cX9_onward 143 = .ok (.bipush 6, 2) := by decide +kernel
theorem dX9_onward_145 : decode cX9_onward 145 = .ok (.goto 5, 3) := by decide +kernel
theorem dX9_onward_148 : decode cX9_onward 148 = .ok (.bipush 7, 2) := by decide +kernel
theorem dX9_onward_150 : decode cX9_onward 150 = .ok (.ireturn, 1) := by decide +kernel
theorem dX9_onward_151 : decode cX9_onward 151 = .ok (.iload_n 1, 1) := by decide +kernel
theorem dX9_onward_152 : decode cX9_onward 152 = .ok (.ifCond .ne 7, 3) := by decide +kernel
theorem dX9_onward_155 : decode cX9_onward 155 = .ok (.iconst 4, 1) := by decide +kernel
theorem dX9_onward_156 : decode cX9_onward 156 = .ok (.goto 5, 3) := by decide +kernel
theorem dX9_onward_159 : decode cX9_onward 159 = .ok (.bipush 8, 2) := by decide +kernel
theorem dX9_onward_161 : decode cX9_onward 161 = .ok (.ireturn, 1) := by decide +kernel
theorem dX9_onward_162 : decode cX9_onward 162 = .ok (.iload_n 1, 1) := by decide +kernel
theorem dX9_onward_163 : decode cX9_onward 163 = .ok (.ifCond .ne 7, 3) := by decide +kernel
theorem dX9_onward_166 : decode cX9_onward 166 = .ok (.iconst 1, 1) := by decide +kernel
theorem dX9_onward_167 : decode cX9_onward 167 = .ok (.goto 4, 3) := by decide +kernel
theorem dX9_onward_170 : decode cX9_onward 170 = .ok (.iconst 2, 1) := by decide +kernel
theorem dX9_onward_171 : decode cX9_onward 171 = .ok (.ireturn, 1) := by decide +kernel
theorem dX9_onward_172 : decode cX9_onward 172 = .ok (.iload_n 1, 1) := by decide +kernel
theorem dX9_onward_173 : decode cX9_onward 173 = .ok (.ifCond .ne 8, 3) := by decide +kernel
theorem dX9_onward_176 : decode cX9_onward 176 = .ok (.bipush 10, 2) := by decide +kernel
theorem dX9_onward_178 : decode cX9_onward 178 = .ok (.goto 4, 3) := by decide +kernel
theorem dX9_onward_181 : decode cX9_onward 181 = .ok (.iconst 0, 1) := by decide +kernel
theorem dX9_onward_182 : decode cX9_onward 182 = .ok (.ireturn, 1) := by decide +kernel
theorem dX9_onward_183 : decode cX9_onward 183 = .ok (.iload_n 1, 1) := by decide +kernel
theorem dX9_onward_184 : decode cX9_onward 184 = .ok (.ifCond .ne 8, 3) := by decide +kernel
theorem dX9_onward_187 : decode cX9_onward 187 = .ok (.bipush 11, 2) := by decide +kernel
theorem dX9_onward_189 : decode cX9_onward 189 = .ok (.goto 5, 3) := by decide +kernel
theorem dX9_onward_192 : decode cX9_onward 192 = .ok (.bipush 12, 2) := by decide +kernel
theorem dX9_onward_194 : decode cX9_onward 194 = .ok (.ireturn, 1) := by decide +kernel
theorem dX9_onward_195 : decode cX9_onward 195 = .ok (.iload_n 1, 1) := by decide +kernel
theorem dX9_onward_196 : decode cX9_onward 196 = .ok (.ifCond .ne 8, 3) := by decide +kernel
theorem dX9_onward_199 : decode cX9_onward 199 = .ok (.bipush 11, 2) := by decide +kernel
theorem dX9_onward_201 : decode cX9_onward 201 = .ok (.goto 5, 3) := by decide +kernel
theorem dX9_onward_204 : decode cX9_onward 204 = .ok (.bipush 12, 2) := by decide +kernel
theorem dX9_onward_206 : decode cX9_onward 206 = .ok (.ireturn, 1) := by decide +kernel
theorem dX9_onward_207 : decode cX9_onward 207 = .ok (.iload_n 1, 1) := by decide +kernel
theorem dX9_onward_208 : decode cX9_onward 208 = .ok (.ifCond .ne 8, 3) := by decide +kernel
theorem dX9_onward_211 : decode cX9_onward 211 = .ok (.bipush 13, 2) := by decide +kernel
theorem dX9_onward_213 : decode cX9_onward 213 = .ok (.goto 5, 3) := by decide +kernel
theorem dX9_onward_216 : decode cX9_onward 216 = .ok (.bipush 15, 2) := by decide +kernel
theorem dX9_onward_218 : decode cX9_onward 218 = .ok (.ireturn, 1) := by decide +kernel
theorem dX9_onward_219 : decode cX9_onward 219 = .ok (.iload_n 1, 1) := by decide +kernel
theorem dX9_onward_220 : decode cX9_onward 220 = .ok (.ifCond .ne 8, 3) := by decide +kernel
theorem dX9_onward_223 : decode cX9_onward 223 = .ok (.bipush 13, 2) := by decide +kernel
theorem dX9_onward_225 : decode cX9_onward 225 = .ok (.goto 5, 3) := by decide +kernel
theorem dX9_onward_228 : decode cX9_onward 228 = .ok (.bipush 14, 2) := by decide +kernel
theorem dX9_onward_230 : decode cX9_onward 230 = .ok (.ireturn, 1) := by decide +kernel
theorem dX9_onward_231 : decode cX9_onward 231 = .ok (.iload_n 1, 1) := by decide +kernel
theorem dX9_onward_232 : decode cX9_onward 232 = .ok (.ifCond .ne 8, 3) := by decide +kernel
theorem dX9_onward_235 : decode cX9_onward 235 = .ok (.bipush 11, 2) := by decide +kernel
theorem dX9_onward_237 : decode cX9_onward 237 = .ok (.goto 5, 3) := by decide +kernel
theorem dX9_onward_240 : decode cX9_onward 240 = .ok (.bipush 15, 2) := by decide +kernel
theorem dX9_onward_242 : decode cX9_onward 242 = .ok (.ireturn, 1) := by decide +kernel
theorem dX9_onward_243 : decode cX9_onward 243 = .ok (.iload_n 1, 1) := by decide +kernel
theorem dX9_onward_244 : decode cX9_onward 244 = .ok (.ifCond .ne 7, 3) := by decide +kernel
theorem dX9_onward_247 : decode cX9_onward 247 = .ok (.iconst 1, 1) := by decide +kernel
theorem dX9_onward_248 : decode cX9_onward 248 = .ok (.goto 4, 3) := by decide +kernel
theorem dX9_onward_251 : decode cX9_onward 251 = .ok (.iconst 2, 1) := by decide +kernel
theorem dX9_onward_252 : decode cX9_onward 252 = .ok (.ireturn, 1) := by decide +kernel
theorem dX9_ticked_0 : decode cX9_ticked 0 = .ok (.iconst (-1), 1) := by decide +kernel
theorem dX9_ticked_1 : decode cX9_ticked 1 = .ok (.istore_n 3, 1) := by decide +kernel
theorem dX9_ticked_2 : decode cX9_ticked 2 = .ok (.aload_n 0, 1) := by decide +kernel
theorem dX9_ticked_3 : decode cX9_ticked 3 = .ok (.getfield 201, 3) := by decide +kernel
