theorem dX4_run_45 : decode cX4_run 45 = .ok (.iaload, 1) := by decide +kernel
theorem dX4_run_46 : decode cX4_run 46 = .ok (.getstatic 50, 3) := by decide +kernel
theorem dX4_run_49 : decode cX4_run 49 = .ok (.iload 7, 2) := by decide +kernel
theorem dX4_run_51 : decode cX4_run 51 = .ok (.iaload, 1) := by decide +kernel
theorem dX4_run_52 : decode cX4_run 52 = .ok (.invokevirtual 53, 3) := by decide +kernel
theorem dX4_run_55 : decode cX4_run 55 = .ok (.pop, 1) := by decide +kernel
theorem dX4_run_56 : decode cX4_run 56 = .ok (.iinc 7 1, 3) := by decide +kernel
theorem dX4_run_59 : decode cX4_run 59 = .ok (.goto (-29), 3) := by decide +kernel
theorem dX4_run_62 : decode cX4_run 62 = .ok (.aload_n 0, 1) := by decide +kernel
theorem dX4_run_63 : decode cX4_run 63 = .ok (.iload_n 3, 1) := by decide +kernel
theorem dX4_run_64 : decode cX4_run 64 = .ok (.iload 6, 2) := by decide +kernel
theorem dX4_run_66 : decode cX4_run 66 = .ok (.invokevirtual 56, 3) := by decide +kernel
theorem dX4_run_69 : decode cX4_run 69 = .ok (.iconst 0, 1) := by decide +kernel
theorem dX4_run_70 : decode cX4_run 70 = .ok (.istore 7, 2) := by decide +kernel
theorem dX4_run_72 : decode cX4_run 72 = .ok (.iload 7, 2) := by decide +kernel
theorem dX4_run_74 : decode cX4_run 74 = .ok (.iload 6, 2) := by decide +kernel
theorem dX4_run_76 : decode cX4_run 76 = .ok (.if_icmp .ge 28, 3) := by decide +kernel
theorem dX4_run_79 : decode cX4_run 79 = .ok (.aload_n 1, 1) := by decide +kernel
theorem dX4_run_80 : decode cX4_run 80 = .ok (.iload 7, 2) := by decide +kernel
theorem dX4_run_82 : decode cX4_run 82 = .ok (.iload 6, 2) := by decide +kernel
theorem dX4_run_84 : decode cX4_run 84 = .ok (.invokestatic 60, 3) := by decide +kernel
theorem dX4_run_87 : decode cX4_run 87 = .ok (.aload_n 0, 1) := by decide +kernel
theorem dX4_run_88 : decode cX4_run 88 = .ok (.getfield 9, 3) := by decide +kernel
theorem dX4_run_91 : decode cX4_run 91 = .ok (.iload 7, 2) := by decide +kernel
theorem dX4_run_93 : decode cX4_run 93 = .ok (.iaload, 1) := by decide +kernel
theorem dX4_run_94 : decode cX4_run 94 = .ok (.invokevirtual 53, 3) := by decide +kernel
theorem dX4_run_97 : decode cX4_run 97 = .ok (.pop, 1) := by decide +kernel
theorem dX4_run_98 : decode cX4_run 98 = .ok (.iinc 7 1, 3) := by decide +kernel
theorem dX4_run_101 : decode cX4_run 101 = .ok (.goto (-29), 3) := by decide +kernel
theorem dX4_run_104 : decode cX4_run 104 = .ok (.iconst 0, 1) := by decide +kernel
theorem dX4_run_105 : decode cX4_run 105 = .ok (.istore 7, 2) := by decide +kernel
theorem dX4_run_107 : decode cX4_run 107 = .ok (.iload 7, 2) := by decide +kernel
theorem dX4_run_109 : decode cX4_run 109 = .ok (.getstatic 63, 3) := by decide +kernel
theorem dX4_run_112 : decode cX4_run 112 = .ok (.arraylength, 1) := by decide +kernel
theorem dX4_run_113 : decode cX4_run 113 = .ok (.if_icmp .ge 21, 3) := by decide +kernel
theorem dX4_run_116 : decode cX4_run 116 = .ok (.aload_n 1, 1) := by decide +kernel
theorem dX4_run_117 : decode cX4_run 117 = .ok (.getstatic 63, 3) := by decide +kernel
theorem dX4_run_120 : decode cX4_run 120 = .ok (.iload 7, 2) := by decide +kernel
theorem dX4_run_122 : decode cX4_run 122 = .ok (.iaload, 1) := by decide +kernel
theorem dX4_run_123 : decode cX4_run 123 = .ok (.iconst 0, 1) := by decide +kernel
theorem dX4_run_124 : decode cX4_run 124 = .ok (.invokevirtual 53, 3) := by decide +kernel
theorem dX4_run_127 : decode cX4_run 127 = .ok (.pop, 1) := by decide +kernel
theorem dX4_run_128 : decode cX4_run 128 = .ok (.iinc 7 1, 3) := by decide +kernel
theorem dX4_run_131 : decode cX4_run 131 = .ok (.goto (-24), 3) := by decide +kernel
theorem dX4_run_134 : decode cX4_run 134 = .ok (.aload 4, 2) := by decide +kernel
theorem dX4_run_136 : decode cX4_run 136 = .ok (.aload_n 1, 1) := by decide +kernel
theorem dX4_run_137 : decode cX4_run 137 = .ok (.getfield 37, 3) := by decide +kernel
theorem dX4_run_140 : decode cX4_run 140 = .ok (.invokevirtual 66, 3) := by decide +kernel
theorem dX4_run_143 : decode cX4_run 143 = .ok (.aload_n 1, 1) := by decide +kernel
theorem dX4_run_144 : decode cX4_run 144 = .ok (.iconst 0, 1) := by decide +kernel
theorem dX4_run_145 : decode cX4_run 145 = .ok (.iconst 0, 1) := by decide +kernel
theorem dX4_run_146 : decode cX4_run 146 = .ok (.invokevirtual 53, 3) := by decide +kernel
theorem dX4_run_149 : decode cX4_run 149 = .ok (.pop, 1) := by decide +kernel
theorem dX4_run_150 : decode cX4_run 150 = .ok (.iconst 0, 1) := by decide +kernel
theorem dX4_run_151 : decode cX4_run 151 = .ok (.istore 7, 2) := by decide +kernel
theorem dX4_run_153 : decode cX4_run 153 = .ok (.iload 7, 2) := by decide +kernel
theorem dX4_run_155 : decode cX4_run 155 = .ok (.iload 6, 2) := by decide +kernel
theorem dX4_run_157 : decode cX4_run 157 = .ok (.if_icmp .ge 29, 3) := by decide +kernel
theorem dX4_run_160 : decode cX4_run 160 = .ok (.aload 4, 2) := by decide +kernel
theorem dX4_run_162 : decode cX4_run 162 = .ok (.getfield 72, 3) := by decide +kernel
theorem dX4_run_165 : decode cX4_run 165 = .ok (.iload 7, 2) := by decide +kernel
theorem dX4_run_167 : decode cX4_run 167 = .ok (.aload_n 1, 1) := by decide +kernel
theorem dX4_run_168 : decode cX4_run 168 = .ok (.iload 7, 2) := by decide +kernel
theorem dX4_run_170 : decode cX4_run 170 = .ok (.iload 6, 2) := by decide +kernel
theorem dX4_run_172 : decode cX4_run 172 = .ok (.invokestatic 60, 3) := by decide +kernel
theorem dX4_run_175 : decode cX4_run 175 = .ok (.iconst 0, 1) := by decide +kernel
theorem dX4_run_176 : decode cX4_run 176 = .ok (.invokevirtual 53, 3) := by decide +kernel
theorem dX4_run_179 : decode cX4_run 179 = .ok (.iastore, 1) := by decide +kernel
theorem dX4_run_180 : decode cX4_run 180 = .ok (.iinc 7 1, 3) := by decide +kernel
theorem dX4_run_183 : decode cX4_run 183 = .ok (.goto (-30), 3) := by decide +kernel
theorem dX4_run_186 : decode cX4_run 186 = .ok (.aload 4, 2) := by decide +kernel
theorem dX4_run_188 : decode cX4_run 188 = .ok (.iload 6, 2) := by decide +kernel
theorem dX4_run_190 : decode cX4_run 190 = .ok (.putfield 75, 3) := by decide +kernel
theorem dX4_run_193 : decode cX4_run 193 = .ok (.aload_n 1, 1) := by decide +kernel
theorem dX4_run_194 : decode cX4_run 194 = .ok (.iconst 1, 1) := by decide +kernel
theorem dX4_run_195 : decode cX4_run 195 = .ok (.iconst 0, 1) := by decide +kernel
theorem dX4_run_196 : decode cX4_run 196 = .ok (.invokevirtual 53, 3) := by decide +kernel
theorem dX4_run_199 : decode cX4_run 199 = .ok (.pop, 1) := by decide +kernel
theorem dX4_run_200 : decode cX4_run 200 = .ok (.aload_n 1, 1) := by decide +kernel
theorem dX4_run_201 : decode cX4_run 201 = .ok (.iconst 0, 1) := by decide +kernel
theorem dX4_run_202 : decode cX4_run 202 = .ok (.iconst 0, 1) := by decide +kernel
theorem dX4_run_203 : decode cX4_run 203 = .ok (.invokevirtual 53, 3) := by decide +kernel
theorem dX4_run_206 : decode cX4_run 206 = .ok (.pop, 1) := by decide +kernel
theorem dX4_run_207 : decode cX4_run 207 = .ok (.aload_n 1, 1) := by decide +kernel
theorem dX4_run_208 : decode cX4_run 208 = .ok (.getfield 19, 3) := by decide +kernel
theorem dX4_run_211 : decode cX4_run 211 = .ok (.iload 5, 2) := by decide +kernel
theorem dX4_run_213 : decode cX4_run 213 = .ok (.isub, 1) := by decide +kernel
theorem dX4_run_214 : decode cX4_run 214 = .ok (.ireturn, 1) := by decide +kernel
theorem dX4_leadAt_0 : decode cX4_leadAt 0 = .ok (.iload_n 0, 1) := by decide +kernel
theorem dX4_leadAt_1 : decode cX4_leadAt 1 = .ok (.iload_n 1, 1) := by decide +kernel
theorem dX4_leadAt_2 : decode cX4_leadAt 2 = .ok (.iconst 1, 1) := by decide +kernel
theorem dX4_leadAt_3 : decode cX4_leadAt 3 = .ok (.isub, 1) := by decide +kernel
theorem dX4_leadAt_4 : decode cX4_leadAt 4 = .ok (.if_icmp .ne 7, 3) := by decide +kernel
theorem dX4_leadAt_7 : decode cX4_leadAt 7 = .ok (.iconst 1, 1) := by decide +kernel
theorem dX4_leadAt_8 : decode cX4_leadAt 8 = .ok (.goto 4, 3) := by decide +kernel
theorem dX4_leadAt_11 : decode cX4_leadAt 11 = .ok (.iconst 0, 1) := by decide +kernel
theorem dX4_leadAt_12 : decode cX4_leadAt 12 = .ok (.ireturn, 1) := by decide +kernel
theorem dX4_planLoads_0 : decode cX4_planLoads 0 = .ok (.aload_n 0, 1) := by decide +kernel
theorem dX4_planLoads_1 : decode cX4_planLoads 1 = .ok (.getfield 9, 3) := by decide +kernel
theorem dX4_planLoads_4 : decode cX4_planLoads 4 = .ok (.iconst 0, 1) := by decide +kernel
theorem dX4_planLoads_5 : decode cX4_planLoads 5 = .ok (.iconst 0, 1) := by decide +kernel
theorem dX4_planLoads_6 : decode cX4_planLoads 6 = .ok (.iastore, 1) := by decide +kernel
theorem dX4_planLoads_7 : decode cX4_planLoads 7 = .ok (.iload_n 2, 1) := by decide +kernel
theorem dX4_planLoads_8 : decode cX4_planLoads 8 = .ok (.iconst 1, 1) := by decide +kernel
theorem dX4_planLoads_9 : decode cX4_planLoads 9 = .ok (.isub, 1) := by decide +kernel
theorem dX4_planLoads_10 : decode cX4_planLoads 10 = .ok (.istore_n 3, 1) := by decide +kernel
theorem dX4_planLoads_11 : decode cX4_planLoads 11 = .ok (.iconst 0, 1) := by decide +kernel
theorem dX4_planLoads_12 : decode cX4_planLoads 12 = .ok (.istore 4, 2) := by decide +kernel
theorem dX4_planLoads_14 : decode cX4_planLoads 14 = .ok (.iconst 0, 1) := by decide +kernel
theorem dX4_planLoads_15 : decode cX4_planLoads 15 = .ok (.istore 5, 2) := by decide +kernel
theorem dX4_planLoads_17 : decode cX4_planLoads 17 = .ok (.iload 5, 2) := by decide +kernel
theorem dX4_planLoads_19 : decode cX4_planLoads 19 = .ok (.iconst 3, 1) := by decide +kernel
theorem dX4_planLoads_20 : decode cX4_planLoads 20 = .ok (.if_icmp .ge 89, 3) := by decide +kernel
theorem dX4_planLoads_23 : decode cX4_planLoads 23 = .ok (.iconst 0, 1) := by decide +kernel
theorem dX4_planLoads_24 : decode cX4_planLoads 24 = .ok (.istore 6, 2) := by decide +kernel
theorem dX4_planLoads_26 : decode cX4_planLoads 26 = .ok (.iload 6, 2) := by decide +kernel
theorem dX4_planLoads_28 : decode cX4_planLoads 28 = .ok (.aload_n 0, 1) := by decide +kernel
theorem dX4_planLoads_29 : decode cX4_planLoads 29 = .ok (.getfield 15, 3) := by decide +kernel
theorem dX4_planLoads_32 : decode cX4_planLoads 32 = .ok (.getfield 78, 3) := by decide +kernel
theorem dX4_planLoads_35 : decode cX4_planLoads 35 = .ok (.iload 5, 2) := by decide +kernel
theorem dX4_planLoads_37 : decode cX4_planLoads 37 = .ok (.iaload, 1) := by decide +kernel
theorem dX4_planLoads_38 : decode cX4_planLoads 38 = .ok (.if_icmp .ge 65, 3) := by decide +kernel
theorem dX4_planLoads_41 : decode cX4_planLoads 41 = .ok (.aload_n 0, 1) := by decide +kernel
theorem dX4_planLoads_42 : decode cX4_planLoads 42 = .ok (.getfield 15, 3) := by decide +kernel
theorem dX4_planLoads_45 : decode cX4_planLoads 45 = .ok (.getfield 81, 3) := by decide +kernel
theorem dX4_planLoads_48 : decode cX4_planLoads 48 = .ok (.iload 5, 2) := by decide +kernel
theorem dX4_planLoads_50 : decode cX4_planLoads 50 = .ok (.aaload, 1) := by decide +kernel
theorem dX4_planLoads_51 : decode cX4_planLoads 51 = .ok (.iload 6, 2) := by decide +kernel
theorem dX4_planLoads_53 : decode cX4_planLoads 53 = .ok (.iaload, 1) := by decide +kernel
theorem dX4_planLoads_54 : decode cX4_planLoads 54 = .ok (.istore 7, 2) := by decide +kernel
theorem dX4_planLoads_56 : decode cX4_planLoads 56 = .ok (.iload 4, 2) := by decide +kernel
theorem dX4_planLoads_58 : decode cX4_planLoads 58 = .ok (.aload_n 0, 1) := by decide +kernel
theorem dX4_planLoads_59 : decode cX4_planLoads 59 = .ok (.getfield 15, 3) := by decide +kernel
theorem dX4_planLoads_62 : decode cX4_planLoads 62 = .ok (.getfield 85, 3) := by decide +kernel
theorem dX4_planLoads_65 : decode cX4_planLoads 65 = .ok (.iload 7, 2) := by decide +kernel
theorem dX4_planLoads_67 : decode cX4_planLoads 67 = .ok (.baload, 1) := by decide +kernel
theorem dX4_planLoads_68 : decode cX4_planLoads 68 = .ok (.ifCond .eq 7, 3) := by decide +kernel
theorem dX4_planLoads_71 : decode cX4_planLoads 71 = .ok (.iconst 1, 1) := by decide +kernel
theorem dX4_planLoads_72 : decode cX4_planLoads 72 = .ok (.goto 4, 3) := by decide +kernel
theorem dX4_planLoads_75 : decode cX4_planLoads 75 = .ok (.iconst 0, 1) := by decide +kernel
theorem dX4_planLoads_76 : decode cX4_planLoads 76 = .ok (.ixor, 1) := by decide +kernel
theorem dX4_planLoads_77 : decode cX4_planLoads 77 = .ok (.istore 4, 2) := by decide +kernel
theorem dX4_planLoads_79 : decode cX4_planLoads 79 = .ok (.aload_n 0, 1) := by decide +kernel
theorem dX4_planLoads_80 : decode cX4_planLoads 80 = .ok (.getfield 9, 3) := by decide +kernel
theorem dX4_planLoads_83 : decode cX4_planLoads 83 = .ok (.iload_n 3, 1) := by decide +kernel
theorem dX4_planLoads_84 : decode cX4_planLoads 84 = .ok (.iload_n 1, 1) := by decide +kernel
theorem dX4_planLoads_85 : decode cX4_planLoads 85 = .ok (.iload 7, 2) := by decide +kernel
theorem dX4_planLoads_87 : decode cX4_planLoads 87 = .ok (.ishr, 1) := by decide +kernel
theorem dX4_planLoads_88 : decode cX4_planLoads 88 = .ok (.iconst 1, 1) := by decide +kernel
theorem dX4_planLoads_89 : decode cX4_planLoads 89 = .ok (.iand, 1) := by decide +kernel
theorem dX4_planLoads_90 : decode cX4_planLoads 90 = .ok (.iload 4, 2) := by decide +kernel
theorem dX4_planLoads_92 : decode cX4_planLoads 92 = .ok (.ixor, 1) := by decide +kernel
theorem dX4_planLoads_93 : decode cX4_planLoads 93 = .ok (.iastore, 1) := by decide +kernel
theorem dX4_planLoads_94 : decode cX4_planLoads 94 = .ok (.iinc 3 (-1), 3) := by decide +kernel
theorem dX4_planLoads_97 : decode cX4_planLoads 97 = .ok (.iinc 6 1, 3) := by decide +kernel
theorem dX4_planLoads_100 : decode cX4_planLoads 100 = .ok (.goto (-74), 3) := by decide +kernel
theorem dX4_planLoads_103 : decode cX4_planLoads 103 = .ok (.iinc 5 1, 3) := by decide +kernel
theorem dX4_planLoads_106 : decode cX4_planLoads 106 = .ok (.goto (-89), 3) := by decide +kernel
theorem dX4_planLoads_109 : decode cX4_planLoads 109 = .ok (.return_, 1) := by decide +kernel
theorem dX5_init_0 : decode cX5_init 0 = .ok (.aload_n 0, 1) := by decide +kernel
theorem dX5_init_1 : decode cX5_init 1 = .ok (.invokespecial 3, 3) := by decide +kernel
theorem dX5_init_4 : decode cX5_init 4 = .ok (.aload_n 0, 1) := by decide +kernel
theorem dX5_init_5 : decode cX5_init 5 = .ok (.bipush 8, 2) := by decide +kernel
theorem dX5_init_7 : decode cX5_init 7 = .ok (.newarray .int, 2) := by decide +kernel
theorem dX5_init_9 : decode cX5_init 9 = .ok (.putfield 9, 3) := by decide +kernel
theorem dX5_init_12 : decode cX5_init 12 = .ok (.aload_n 0, 1) := by decide +kernel
theorem dX5_init_13 : decode cX5_init 13 = .ok (.bipush 20, 2) := by decide +kernel
theorem dX5_init_15 : decode cX5_init 15 = .ok (.newarray .int, 2) := by decide +kernel
theorem dX5_init_17 : decode cX5_init 17 = .ok (.putfield 15, 3) := by decide +kernel
theorem dX5_init_20 : decode cX5_init 20 = .ok (.return_, 1) := by decide +kernel
theorem dX5_lookAtOutputs_0 : decode cX5_lookAtOutputs 0 = .ok (.aload_n 1, 1) := by decide +kernel
theorem dX5_lookAtOutputs_1 : decode cX5_lookAtOutputs 1 = .ok (.getfield 18, 3) := by decide +kernel
theorem dX5_lookAtOutputs_4 : decode cX5_lookAtOutputs 4 = .ok (.astore_n 2, 1) := by decide +kernel
theorem dX5_lookAtOutputs_5 : decode cX5_lookAtOutputs 5 = .ok (.aload_n 1, 1) := by decide +kernel
theorem dX5_lookAtOutputs_6 : decode cX5_lookAtOutputs 6 = .ok (.aload_n 2, 1) := by decide +kernel
theorem dX5_lookAtOutputs_7 : decode cX5_lookAtOutputs 7 = .ok (.getfield 24, 3) := by decide +kernel
theorem dX5_lookAtOutputs_10 : decode cX5_lookAtOutputs 10 = .ok (.invokevirtual 30, 3) := by decide +kernel
theorem dX5_lookAtOutputs_13 : decode cX5_lookAtOutputs 13 = .ok (.iconst 0, 1) := by decide +kernel
theorem dX5_lookAtOutputs_14 : decode cX5_lookAtOutputs 14 = .ok (.istore_n 3, 1) := by decide +kernel
theorem dX5_lookAtOutputs_15 : decode cX5_lookAtOutputs 15 = .ok (.iload_n 3, 1) := by decide +kernel
theorem dX5_lookAtOutputs_16 : decode cX5_lookAtOutputs 16 = .ok (.aload_n 2, 1) := by decide +kernel
theorem dX5_lookAtOutputs_17 : decode cX5_lookAtOutputs 17 = .ok (.getfield 34, 3) := by decide +kernel
theorem dX5_lookAtOutputs_20 : decode cX5_lookAtOutputs 20 = .ok (.if_icmp .ge 26, 3) := by decide +kernel
theorem dX5_lookAtOutputs_23 : decode cX5_lookAtOutputs 23 = .ok (.aload_n 0, 1) := by decide +kernel
theorem dX5_lookAtOutputs_24 : decode cX5_lookAtOutputs 24 = .ok (.getfield 9, 3) := by decide +kernel
theorem dX5_lookAtOutputs_27 : decode cX5_lookAtOutputs 27 = .ok (.iload_n 3, 1) := by decide +kernel
theorem dX5_lookAtOutputs_28 : decode cX5_lookAtOutputs 28 = .ok (.aload_n 1, 1) := by decide +kernel
theorem dX5_lookAtOutputs_29 : decode cX5_lookAtOutputs 29 = .ok (.getfield 37, 3) := by decide +kernel
theorem dX5_lookAtOutputs_32 : decode cX5_lookAtOutputs 32 = .ok (.aload_n 2, 1) := by decide +kernel
theorem dX5_lookAtOutputs_33 : decode cX5_lookAtOutputs 33 = .ok (.getfield 40, 3) := by decide +kernel
theorem dX5_lookAtOutputs_36 : decode cX5_lookAtOutputs 36 = .ok (.iload_n 3, 1) := by decide +kernel
theorem dX5_lookAtOutputs_37 : decode cX5_lookAtOutputs 37 = .ok (.iaload, 1) := by decide +kernel
theorem dX5_lookAtOutputs_38 : decode cX5_lookAtOutputs 38 = .ok (.iaload, 1) := by decide +kernel
theorem dX5_lookAtOutputs_39 : decode cX5_lookAtOutputs 39 = .ok (.iastore, 1) := by decide +kernel
theorem dX5_lookAtOutputs_40 : decode cX5_lookAtOutputs 40 = .ok (.iinc 3 1, 3) := by decide +kernel
theorem dX5_lookAtOutputs_43 : decode cX5_lookAtOutputs 43 = .ok (.goto (-28), 3) := by decide +kernel
theorem dX5_lookAtOutputs_46 : decode cX5_lookAtOutputs 46 = .ok (.aload_n 0, 1) := by decide +kernel
theorem dX5_lookAtOutputs_47 : decode cX5_lookAtOutputs 47 = .ok (.aload_n 2, 1) := by decide +kernel
theorem dX5_lookAtOutputs_48 : decode cX5_lookAtOutputs 48 = .ok (.getfield 34, 3) := by decide +kernel
theorem dX5_lookAtOutputs_51 : decode cX5_lookAtOutputs 51 = .ok (.putfield 43, 3) := by decide +kernel
theorem dX5_lookAtOutputs_54 : decode cX5_lookAtOutputs 54 = .ok (.return_, 1) := by decide +kernel
theorem dX5_differsKnown_0 : decode cX5_differsKnown 0 = .ok (.aload_n 0, 1) := by decide +kernel
theorem dX5_differsKnown_1 : decode cX5_differsKnown 1 = .ok (.getfield 9, 3) := by decide +kernel
theorem dX5_differsKnown_4 : decode cX5_differsKnown 4 = .ok (.aload_n 1, 1) := by decide +kernel
theorem dX5_differsKnown_5 : decode cX5_differsKnown 5 = .ok (.getfield 9, 3) := by decide +kernel
theorem dX5_differsKnown_8 : decode cX5_differsKnown 8 = .ok (.aload_n 0, 1) := by decide +kernel
theorem dX5_differsKnown_9 : decode cX5_differsKnown 9 = .ok (.getfield 43, 3) := by decide +kernel
theorem dX5_differsKnown_12 : decode cX5_differsKnown 12 = .ok (.invokestatic 44, 3) := by decide +kernel
theorem dX5_differsKnown_15 : decode cX5_differsKnown 15 = .ok (.ifCond .ne 21, 3) := by decide +kernel
theorem dX5_differsKnown_18 : decode cX5_differsKnown 18 = .ok (.aload_n 0, 1) := by decide +kernel
theorem dX5_differsKnown_19 : decode cX5_differsKnown 19 = .ok (.getfield 15, 3) := by decide +kernel
theorem dX5_differsKnown_22 : decode cX5_differsKnown 22 = .ok (.aload_n 1, 1) := by decide +kernel
theorem dX5_differsKnown_23 : decode cX5_differsKnown 23 = .ok (.getfield 15, 3) := by decide +kernel
theorem dX5_differsKnown_26 : decode cX5_differsKnown 26 = .ok (.aload_n 0, 1) := by decide +kernel
theorem dX5_differsKnown_27 : decode cX5_differsKnown 27 = .ok (.getfield 48, 3) := by decide +kernel
theorem dX5_differsKnown_30 : decode cX5_differsKnown 30 = .ok (.invokestatic 44, 3) := by decide +kernel
theorem dX5_differsKnown_33 : decode cX5_differsKnown 33 = .ok (.ifCond .eq 7, 3) := by decide +kernel
theorem dX5_differsKnown_36 : decode cX5_differsKnown 36 = .ok (.iconst 1, 1) := by decide +kernel
theorem dX5_differsKnown_37 : decode cX5_differsKnown 37 = .ok (.goto 4, 3) := by decide +kernel
theorem dX5_differsKnown_40 : decode cX5_differsKnown 40 = .ok (.iconst 0, 1) := by decide +kernel
theorem dX5_differsKnown_41 : decode cX5_differsKnown 41 = .ok (.ireturn, 1) := by decide +kernel
theorem dX5_differ_0 : decode cX5_differ 0 = .ok (.iconst 0, 1) := by decide +kernel
theorem dX5_differ_1 : decode cX5_differ 1 = .ok (.istore_n 3, 1) := by decide +kernel
theorem dX5_differ_2 : decode cX5_differ 2 = .ok (.iload_n 3, 1) := by decide +kernel
theorem dX5_differ_3 : decode cX5_differ 3 = .ok (.iload_n 2, 1) := by decide +kernel
theorem dX5_differ_4 : decode cX5_differ 4 = .ok (.if_icmp .ge 34, 3) := by decide +kernel
theorem dX5_differ_7 : decode cX5_differ 7 = .ok (.aload_n 0, 1) := by decide +kernel
theorem dX5_differ_8 : decode cX5_differ 8 = .ok (.iload_n 3, 1) := by decide +kernel
theorem dX5_differ_9 : decode cX5_differ 9 = .ok (.iaload, 1) := by decide +kernel
theorem dX5_differ_10 : decode cX5_differ 10 = .ok (.iconst 2, 1) := by decide +kernel
theorem dX5_differ_11 : decode cX5_differ 11 = .ok (.if_icmp .eq 21, 3) := by decide +kernel
theorem dX5_differ_14 : decode cX5_differ 14 = .ok (.aload_n 1, 1) := by decide +kernel
theorem dX5_differ_15 : decode cX5_differ 15 = .ok (.iload_n 3, 1) := by decide +kernel
theorem dX5_differ_16 : decode cX5_differ 16 = .ok (.iaload, 1) := by decide +kernel
theorem dX5_differ_17 : decode cX5_differ 17 = .ok (.iconst 2, 1) := by decide +kernel
theorem dX5_differ_18 : decode cX5_differ 18 = .ok (.if_icmp .eq 14, 3) := by decide +kernel
theorem dX5_differ_21 : decode cX5_differ 21 = .ok (.aload_n 0, 1) := by decide +kernel
theorem dX5_differ_22 : decode cX5_differ 22 = .ok (.iload_n 3, 1) := by decide +kernel
theorem dX5_differ_23 : decode cX5_differ 23 = .ok (.iaload, 1) := by decide +kernel
theorem dX5_differ_24 : decode cX5_differ 24 = .ok (.aload_n 1, 1) := by decide +kernel
theorem dX5_differ_25 : decode cX5_differ 25 = .ok (.iload_n 3, 1) := by decide +kernel
theorem dX5_differ_26 : decode cX5_differ 26 = .ok (.iaload, 1) := by decide +kernel
theorem dX5_differ_27 : decode cX5_differ 27 = .ok (.if_icmp .eq 5, 3) := by decide +kernel
theorem dX5_differ_30 : decode cX5_differ 30 = .ok (.iconst 1, 1) := by decide +kernel
theorem dX5_differ_31 : decode cX5_differ 31 = .ok (.ireturn, 1) := by decide +kernel
theorem dX5_differ_32 : decode cX5_differ 32 = .ok (.iinc 3 1, 3) := by decide +kernel
theorem dX5_differ_35 : decode cX5_differ 35 = .ok (.goto (-33), 3) := by decide +kernel
theorem dX5_differ_38 : decode cX5_differ 38 = .ok (.iconst 0, 1) := by decide +kernel
theorem dX5_differ_39 : decode cX5_differ 39 = .ok (.ireturn, 1) := by decide +kernel
theorem dX6_init_0 : decode cX6_init 0 = .ok (.aload_n 0, 1) := by decide +kernel
theorem dX6_init_1 : decode cX6_init 1 = .ok (.invokespecial 3, 3) := by decide +kernel
theorem dX6_init_4 : decode cX6_init 4 = .ok (.aload_n 0, 1) := by decide +kernel
theorem dX6_init_5 : decode cX6_init 5 = .ok (.bipush 20, 2) := by decide +kernel
theorem dX6_init_7 : decode cX6_init 7 = .ok (.newarray .int, 2) := by decide +kernel
theorem dX6_init_9 : decode cX6_init 9 = .ok (.putfield 9, 3) := by decide +kernel
theorem dX6_init_12 : decode cX6_init 12 = .ok (.aload_n 0, 1) := by decide +kernel
theorem dX6_init_13 : decode cX6_init 13 = .ok (.bipush 20, 2) := by decide +kernel
theorem dX6_init_15 : decode cX6_init 15 = .ok (.newarray .int, 2) := by decide +kernel
theorem dX6_init_17 : decode cX6_init 17 = .ok (.putfield 15, 3) := by decide +kernel
theorem dX6_init_20 : decode cX6_init 20 = .ok (.return_, 1) := by decide +kernel
theorem dX6_has_0 : decode cX6_has 0 = .ok (.iload_n 1, 1) := by decide +kernel
theorem dX6_has_1 : decode cX6_has 1 = .ok (.ifCond .lt 15, 3) := by decide +kernel
theorem dX6_has_4 : decode cX6_has 4 = .ok (.iload_n 1, 1) := by decide +kernel
theorem dX6_has_5 : decode cX6_has 5 = .ok (.aload_n 0, 1) := by decide +kernel
theorem dX6_has_6 : decode cX6_has 6 = .ok (.getfield 18, 3) := by decide +kernel
theorem dX6_has_9 : decode cX6_has 9 = .ok (.if_icmp .ge 7, 3) := by decide +kernel
theorem dX6_has_12 : decode cX6_has 12 = .ok (.iconst 1, 1) := by decide +kernel
theorem dX6_has_13 : decode cX6_has 13 = .ok (.goto 4, 3) := by decide +kernel
theorem dX6_has_16 : decode cX6_has 16 = .ok (.iconst 0, 1) := by decide +kernel
theorem dX6_has_17 : decode cX6_has 17 = .ok (.ireturn, 1) := by decide +kernel
theorem dX6_add_0 : decode cX6_add 0 = .ok (.aload_n 0, 1) := by decide +kernel
theorem dX6_add_1 : decode cX6_add 1 = .ok (.getfield 18, 3) := by decide +kernel
theorem dX6_add_4 : decode cX6_add 4 = .ok (.istore_n 3, 1) := by decide +kernel
theorem dX6_add_5 : decode cX6_add 5 = .ok (.aload_n 0, 1) := by decide +kernel
theorem dX6_add_6 : decode cX6_add 6 = .ok (.getfield 9, 3) := by decide +kernel
theorem dX6_add_9 : decode cX6_add 9 = .ok (.iload_n 3, 1) := by decide +kernel
theorem dX6_add_10 : decode cX6_add 10 = .ok (.iload_n 1, 1) := by decide +kernel
theorem dX6_add_11 : decode cX6_add 11 = .ok (.iastore, 1) := by decide +kernel
theorem dX6_add_12 : decode cX6_add 12 = .ok (.aload_n 0, 1) := by decide +kernel
theorem dX6_add_13 : decode cX6_add 13 = .ok (.getfield 15, 3) := by decide +kernel
theorem dX6_add_16 : decode cX6_add 16 = .ok (.iload_n 3, 1) := by decide +kernel
theorem dX6_add_17 : decode cX6_add 17 = .ok (.iload_n 2, 1) := by decide +kernel
theorem dX6_add_18 : decode cX6_add 18 = .ok (.iastore, 1) := by decide +kernel
theorem dX6_add_19 : decode cX6_add 19 = .ok (.aload_n 0, 1) := by decide +kernel
theorem dX6_add_20 : decode cX6_add 20 = .ok (.dup, 1) := by decide +kernel
theorem dX6_add_21 : decode cX6_add 21 = .ok (.getfield 18, 3) := by decide +kernel
theorem dX6_add_24 : decode cX6_add 24 = .ok (.iconst 1, 1) := by decide +kernel
theorem dX6_add_25 : decode cX6_add 25 = .ok (.iadd, 1) := by decide +kernel
theorem dX6_add_26 : decode cX6_add 26 = .ok (.putfield 18, 3) := by decide +kernel
theorem dX6_add_29 : decode cX6_add 29 = .ok (.iload_n 3, 1) := by decide +kernel
theorem dX6_add_30 : decode cX6_add 30 = .ok (.ireturn, 1) := by decide +kernel
theorem dX7_init_0 : decode cX7_init 0 = .ok (.aload_n 0, 1) := by decide +kernel
theorem dX7_init_1 : decode cX7_init 1 = .ok (.invokespecial 1, 3) := by decide +kernel
theorem dX7_init_4 : decode cX7_init 4 = .ok (.aload_n 0, 1) := by decide +kernel
theorem dX7_init_5 : decode cX7_init 5 = .ok (.new 7, 3) := by decide +kernel
theorem dX7_init_8 : decode cX7_init 8 = .ok (.dup, 1) := by decide +kernel
theorem dX7_init_9 : decode cX7_init 9 = .ok (.invokespecial 9, 3) := by decide +kernel
theorem dX7_init_12 : decode cX7_init 12 = .ok (.putfield 10, 3) := by decide +kernel
theorem dX7_init_15 : decode cX7_init 15 = .ok (.aload_n 0, 1) := by decide +kernel
theorem dX7_init_16 : decode cX7_init 16 = .ok (.new 7, 3) := by decide +kernel
theorem dX7_init_19 : decode cX7_init 19 = .ok (.dup, 1) := by decide +kernel
theorem dX7_init_20 : decode cX7_init 20 = .ok (.invokespecial 9, 3) := by decide +kernel
theorem dX7_init_23 : decode cX7_init 23 = .ok (.putfield 16, 3) := by decide +kernel
theorem dX7_init_26 : decode cX7_init 26 = .ok (.aload_n 0, 1) := by decide +kernel
theorem dX7_init_27 : decode cX7_init 27 = .ok (.aload_n 1, 1) := by decide +kernel
theorem dX7_init_28 : decode cX7_init 28 = .ok (.putfield 19, 3) := by decide +kernel
theorem dX7_init_31 : decode cX7_init 31 = .ok (.aload_n 0, 1) := by decide +kernel
theorem dX7_init_32 : decode cX7_init 32 = .ok (.aload_n 2, 1) := by decide +kernel
theorem dX7_init_33 : decode cX7_init 33 = .ok (.putfield 23, 3) := by decide +kernel
theorem dX7_init_36 : decode cX7_init 36 = .ok (.aload_n 0, 1) := by decide +kernel
theorem dX7_init_37 : decode cX7_init 37 = .ok (.aload_n 3, 1) := by decide +kernel
theorem dX7_init_38 : decode cX7_init 38 = .ok (.putfield 27, 3) := by decide +kernel
theorem dX7_init_41 : decode cX7_init 41 = .ok (.return_, 1) := by decide +kernel
theorem dX7_startWith_0 : decode cX7_startWith 0 = .ok (.aload_n 0, 1) := by decide +kernel
theorem dX7_startWith_1 : decode cX7_startWith 1 = .ok (.aload_n 0, 1) := by decide +kernel
theorem dX7_startWith_2 : decode cX7_startWith 2 = .ok (.getfield 27, 3) := by decide +kernel
theorem dX7_startWith_5 : decode cX7_startWith 5 = .ok (.getfield 31, 3) := by decide +kernel
theorem dX7_startWith_8 : decode cX7_startWith 8 = .ok (.iload_n 1, 1) := by decide +kernel
theorem dX7_startWith_9 : decode cX7_startWith 9 = .ok (.iaload, 1) := by decide +kernel
theorem dX7_startWith_10 : decode cX7_startWith 10 = .ok (.putfield 37, 3) := by decide +kernel
theorem dX7_startWith_13 : decode cX7_startWith 13 = .ok (.aload_n 0, 1) := by decide +kernel
theorem dX7_startWith_14 : decode cX7_startWith 14 = .ok (.aload_n 0, 1) := by decide +kernel
theorem dX7_startWith_15 : decode cX7_startWith 15 = .ok (.getfield 27, 3) := by decide +kernel
theorem dX7_startWith_18 : decode cX7_startWith 18 = .ok (.getfield 40, 3) := by decide +kernel
theorem dX7_startWith_21 : decode cX7_startWith 21 = .ok (.iload_n 1, 1) := by decide +kernel
theorem dX7_startWith_22 : decode cX7_startWith 22 = .ok (.iaload, 1) := by decide +kernel
theorem dX7_startWith_23 : decode cX7_startWith 23 = .ok (.putfield 43, 3) := by decide +kernel
theorem dX7_startWith_26 : decode cX7_startWith 26 = .ok (.aload_n 0, 1) := by decide +kernel
theorem dX7_startWith_27 : decode cX7_startWith 27 = .ok (.getfield 19, 3) := by decide +kernel
theorem dX7_startWith_30 : decode cX7_startWith 30 = .ok (.getfield 45, 3) := by decide +kernel
theorem dX7_startWith_33 : decode cX7_startWith 33 = .ok (.invokevirtual 51, 3) := by decide +kernel
theorem dX7_startWith_36 : decode cX7_startWith 36 = .ok (.aload_n 0, 1) := by decide +kernel
theorem dX7_startWith_37 : decode cX7_startWith 37 = .ok (.getfield 19, 3) := by decide +kernel
theorem dX7_startWith_40 : decode cX7_startWith 40 = .ok (.invokevirtual 56, 3) := by decide +kernel
theorem dX7_startWith_43 : decode cX7_startWith 43 = .ok (.aload_n 0, 1) := by decide +kernel
theorem dX7_startWith_44 : decode cX7_startWith 44 = .ok (.getfield 23, 3) := by decide +kernel
theorem dX7_startWith_47 : decode cX7_startWith 47 = .ok (.aload_n 0, 1) := by decide +kernel
theorem dX7_startWith_48 : decode cX7_startWith 48 = .ok (.getfield 19, 3) := by decide +kernel
theorem dX7_startWith_51 : decode cX7_startWith 51 = .ok (.aload_n 0, 1) := by decide +kernel
theorem dX7_startWith_52 : decode cX7_startWith 52 = .ok (.getfield 37, 3) := by decide +kernel
theorem dX7_startWith_55 : decode cX7_startWith 55 = .ok (.aload_n 0, 1) := by decide +kernel
theorem dX7_startWith_56 : decode cX7_startWith 56 = .ok (.getfield 43, 3) := by decide +kernel
theorem dX7_startWith_59 : decode cX7_startWith 59 = .ok (.aload_n 0, 1) := by decide +kernel
theorem dX7_startWith_60 : decode cX7_startWith 60 = .ok (.getfield 10, 3) := by decide +kernel
theorem dX7_startWith_63 : decode cX7_startWith 63 = .ok (.invokevirtual 59, 3) := by decide +kernel
theorem dX7_startWith_66 : decode cX7_startWith 66 = .ok (.pop, 1) := by decide +kernel
theorem dX7_startWith_67 : decode cX7_startWith 67 = .ok (.return_, 1) := by decide +kernel
theorem dX7_reveals_0 : decode cX7_reveals 0 = .ok (.aload_n 0, 1) := by decide +kernel
theorem dX7_reveals_1 : decode cX7_reveals 1 = .ok (.getfield 19, 3) := by decide +kernel
theorem dX7_reveals_4 : decode cX7_reveals 4 = .ok (.getfield 45, 3) := by decide +kernel
theorem dX7_reveals_7 : decode cX7_reveals 7 = .ok (.iload_n 1, 1) := by decide +kernel
theorem dX7_reveals_8 : decode cX7_reveals 8 = .ok (.iload_n 2, 1) := by decide +kernel
theorem dX7_reveals_9 : decode cX7_reveals 9 = .ok (.invokevirtual 65, 3) := by decide +kernel
theorem dX7_reveals_12 : decode cX7_reveals 12 = .ok (.aload_n 0, 1) := by decide +kernel
theorem dX7_reveals_13 : decode cX7_reveals 13 = .ok (.getfield 19, 3) := by decide +kernel
theorem dX7_reveals_16 : decode cX7_reveals 16 = .ok (.invokevirtual 56, 3) := by decide +kernel
theorem dX7_reveals_19 : decode cX7_reveals 19 = .ok (.aload_n 0, 1) := by decide +kernel
theorem dX7_reveals_20 : decode cX7_reveals 20 = .ok (.getfield 23, 3) := by decide +kernel
theorem dX7_reveals_23 : decode cX7_reveals 23 = .ok (.aload_n 0, 1) := by decide +kernel
theorem dX7_reveals_24 : decode cX7_reveals 24 = .ok (.getfield 19, 3) := by decide +kernel
theorem dX7_reveals_27 : decode cX7_reveals 27 = .ok (.aload_n 0, 1) := by decide +kernel
theorem dX7_reveals_28 : decode cX7_reveals 28 = .ok (.getfield 37, 3) := by decide +kernel
theorem dX7_reveals_31 : decode cX7_reveals 31 = .ok (.aload_n 0, 1) := by decide +kernel
theorem dX7_reveals_32 : decode cX7_reveals 32 = .ok (.getfield 43, 3) := by decide +kernel
theorem dX7_reveals_35 : decode cX7_reveals 35 = .ok (.aload_n 0, 1) := by decide +kernel
theorem dX7_reveals_36 : decode cX7_reveals 36 = .ok (.getfield 16, 3) := by decide +kernel
theorem dX7_reveals_39 : decode cX7_reveals 39 = .ok (.invokevirtual 59, 3) := by decide +kernel
theorem dX7_reveals_42 : decode cX7_reveals 42 = .ok (.pop, 1) := by decide +kernel
theorem dX7_reveals_43 : decode cX7_reveals 43 = .ok (.aload_n 0, 1) := by decide +kernel
theorem dX7_reveals_44 : decode cX7_reveals 44 = .ok (.getfield 10, 3) := by decide +kernel
theorem dX7_reveals_47 : decode cX7_reveals 47 = .ok (.aload_n 0, 1) := by decide +kernel
theorem dX7_reveals_48 : decode cX7_reveals 48 = .ok (.getfield 16, 3) := by decide +kernel
theorem dX7_reveals_51 : decode cX7_reveals 51 = .ok (.invokevirtual 69, 3) := by decide +kernel
theorem dX7_reveals_54 : decode cX7_reveals 54 = .ok (.ireturn, 1) := by decide +kernel
theorem dX7_countAlike_0 : decode cX7_countAlike 0 = .ok (.aload_n 0, 1) := by decide +kernel
theorem dX7_countAlike_1 : decode cX7_countAlike 1 = .ok (.getfield 19, 3) := by decide +kernel
theorem dX7_countAlike_4 : decode cX7_countAlike 4 = .ok (.getfield 45, 3) := by decide +kernel
theorem dX7_countAlike_7 : decode cX7_countAlike 7 = .ok (.astore_n 3, 1) := by decide +kernel
theorem dX7_countAlike_8 : decode cX7_countAlike 8 = .ok (.aload_n 3, 1) := by decide +kernel
theorem dX7_countAlike_9 : decode cX7_countAlike 9 = .ok (.invokevirtual 51, 3) := by decide +kernel
theorem dX7_countAlike_12 : decode cX7_countAlike 12 = .ok (.aload_n 3, 1) := by decide +kernel
theorem dX7_countAlike_13 : decode cX7_countAlike 13 = .ok (.getfield 73, 3) := by decide +kernel
theorem dX7_countAlike_16 : decode cX7_countAlike 16 = .ok (.getfield 77, 3) := by decide +kernel
theorem dX7_countAlike_19 : decode cX7_countAlike 19 = .ok (.istore 4, 2) := by decide +kernel
theorem dX7_countAlike_21 : decode cX7_countAlike 21 = .ok (.iconst 1, 1) := by decide +kernel
theorem dX7_countAlike_22 : decode cX7_countAlike 22 = .ok (.iload 4, 2) := by decide +kernel
theorem dX7_countAlike_24 : decode cX7_countAlike 24 = .ok (.aload_n 3, 1) := by decide +kernel
theorem dX7_countAlike_25 : decode cX7_countAlike 25 = .ok (.getfield 73, 3) := by decide +kernel
theorem dX7_countAlike_28 : decode cX7_countAlike 28 = .ok (.getfield 82, 3) := by decide +kernel
theorem dX7_countAlike_31 : decode cX7_countAlike 31 = .ok (.iadd, 1) := by decide +kernel
theorem dX7_countAlike_32 : decode cX7_countAlike 32 = .ok (.ishl, 1) := by decide +kernel
theorem dX7_countAlike_33 : decode cX7_countAlike 33 = .ok (.istore 5, 2) := by decide +kernel
theorem dX7_countAlike_35 : decode cX7_countAlike 35 = .ok (.iconst 0, 1) := by decide +kernel
theorem dX7_countAlike_36 : decode cX7_countAlike 36 = .ok (.istore 6, 2) := by decide +kernel
theorem dX7_countAlike_38 : decode cX7_countAlike 38 = .ok (.iconst 0, 1) := by decide +kernel
theorem dX7_countAlike_39 : decode cX7_countAlike 39 = .ok (.istore 7, 2) := by decide +kernel
theorem dX7_countAlike_41 : decode cX7_countAlike 41 = .ok (.iload 7, 2) := by decide +kernel
theorem dX7_countAlike_43 : decode cX7_countAlike 43 = .ok (.iload 5, 2) := by decide +kernel
theorem dX7_countAlike_45 : decode cX7_countAlike 45 = .ok (.if_icmp .ge 53, 3) := by decide +kernel
theorem dX7_countAlike_48 : decode cX7_countAlike 48 = .ok (.aload_n 3, 1) := by decide +kernel
theorem dX7_countAlike_49 : decode cX7_countAlike 49 = .ok (.iload 7, 2) := by decide +kernel
theorem dX7_countAlike_51 : decode cX7_countAlike 51 = .ok (.invokevirtual 85, 3) := by decide +kernel
theorem dX7_countAlike_54 : decode cX7_countAlike 54 = .ok (.aload_n 3, 1) := by decide +kernel
theorem dX7_countAlike_55 : decode cX7_countAlike 55 = .ok (.iload 7, 2) := by decide +kernel
theorem dX7_countAlike_57 : decode cX7_countAlike 57 = .ok (.iload 4, 2) := by decide +kernel
theorem dX7_countAlike_59 : decode cX7_countAlike 59 = .ok (.ishr, 1) := by decide +kernel
theorem dX7_countAlike_60 : decode cX7_countAlike 60 = .ok (.invokevirtual 89, 3) := by decide +kernel
theorem dX7_countAlike_63 : decode cX7_countAlike 63 = .ok (.aload_n 3, 1) := by decide +kernel
theorem dX7_countAlike_64 : decode cX7_countAlike 64 = .ok (.iload_n 1, 1) := by decide +kernel
theorem dX7_countAlike_65 : decode cX7_countAlike 65 = .ok (.iload_n 2, 1) := by decide +kernel
theorem dX7_countAlike_66 : decode cX7_countAlike 66 = .ok (.invokestatic 92, 3) := by decide +kernel
theorem dX7_countAlike_69 : decode cX7_countAlike 69 = .ok (.iconst 1, 1) := by decide +kernel
theorem dX7_countAlike_70 : decode cX7_countAlike 70 = .ok (.iadd, 1) := by decide +kernel
theorem dX7_countAlike_71 : decode cX7_countAlike 71 = .ok (.invokevirtual 98, 3) := by decide +kernel
theorem dX7_countAlike_74 : decode cX7_countAlike 74 = .ok (.aload_n 3, 1) := by decide +kernel
theorem dX7_countAlike_75 : decode cX7_countAlike 75 = .ok (.getfield 101, 3) := by decide +kernel
theorem dX7_countAlike_78 : decode cX7_countAlike 78 = .ok (.iload_n 1, 1) := by decide +kernel
theorem dX7_countAlike_79 : decode cX7_countAlike 79 = .ok (.iaload, 1) := by decide +kernel
theorem dX7_countAlike_80 : decode cX7_countAlike 80 = .ok (.aload_n 3, 1) := by decide +kernel
theorem dX7_countAlike_81 : decode cX7_countAlike 81 = .ok (.getfield 101, 3) := by decide +kernel
theorem dX7_countAlike_84 : decode cX7_countAlike 84 = .ok (.iload_n 2, 1) := by decide +kernel
theorem dX7_countAlike_85 : decode cX7_countAlike 85 = .ok (.iaload, 1) := by decide +kernel
theorem dX7_countAlike_86 : decode cX7_countAlike 86 = .ok (.if_icmp .ne 6, 3) := by decide +kernel
theorem dX7_countAlike_89 : decode cX7_countAlike 89 = .ok (.iinc 6 1, 3) := by decide +kernel
theorem dX7_countAlike_92 : decode cX7_countAlike 92 = .ok (.iinc 7 1, 3) := by decide +kernel
theorem dX7_countAlike_95 : decode cX7_countAlike 95 = .ok (.goto (-54), 3) := by decide +kernel
theorem dX7_countAlike_98 : decode cX7_countAlike 98 = .ok (.iload 6, 2) := by decide +kernel
theorem dX7_countAlike_100 : decode cX7_countAlike 100 = .ok (.ireturn, 1) := by decide +kernel
theorem dX8_init_0 : decode cX8_init 0 = .ok (.aload_n 0, 1) := by decide +kernel
theorem dX8_init_1 : decode cX8_init 1 = .ok (.invokespecial 1, 3) := by decide +kernel
theorem dX8_init_4 : decode cX8_init 4 = .ok (.aload_n 0, 1) := by decide +kernel
theorem dX8_init_5 : decode cX8_init 5 = .ok (.new 7, 3) := by decide +kernel
theorem dX8_init_8 : decode cX8_init 8 = .ok (.dup, 1) := by decide +kernel
theorem dX8_init_9 : decode cX8_init 9 = .ok (.invokespecial 9, 3) := by decide +kernel
theorem dX8_init_12 : decode cX8_init 12 = .ok (.putfield 10, 3) := by decide +kernel
theorem dX8_init_15 : decode cX8_init 15 = .ok (.aload_n 0, 1) := by decide +kernel
theorem dX8_init_16 : decode cX8_init 16 = .ok (.new 16, 3) := by decide +kernel
theorem dX8_init_19 : decode cX8_init 19 = .ok (.dup, 1) := by decide +kernel
theorem dX8_init_20 : decode cX8_init 20 = .ok (.invokespecial 18, 3) := by decide +kernel
theorem dX8_init_23 : decode cX8_init 23 = .ok (.putfield 19, 3) := by decide +kernel
theorem dX8_init_26 : decode cX8_init 26 = .ok (.aload_n 0, 1) := by decide +kernel
theorem dX8_init_27 : decode cX8_init 27 = .ok (.new 23, 3) := by decide +kernel
theorem dX8_init_30 : decode cX8_init 30 = .ok (.dup, 1) := by decide +kernel
theorem dX8_init_31 : decode cX8_init 31 = .ok (.new 25, 3) := by decide +kernel
theorem dX8_init_34 : decode cX8_init 34 = .ok (.dup, 1) := by decide +kernel
theorem dX8_init_35 : decode cX8_init 35 = .ok (.aload_n 0, 1) := by decide +kernel
theorem dX8_init_36 : decode cX8_init 36 = .ok (.getfield 10, 3) := by decide +kernel
theorem dX8_init_39 : decode cX8_init 39 = .ok (.aload_n 0, 1) := by decide +kernel
theorem dX8_init_40 : decode cX8_init 40 = .ok (.getfield 19, 3) := by decide +kernel
theorem dX8_init_43 : decode cX8_init 43 = .ok (.invokespecial 27, 3) := by decide +kernel
theorem dX8_init_46 : decode cX8_init 46 = .ok (.invokespecial 30, 3) := by decide +kernel
theorem dX8_init_49 : decode cX8_init 49 = .ok (.putfield 33, 3) := by decide +kernel
theorem dX8_init_52 : decode cX8_init 52 = .ok (.aload_n 0, 1) := by decide +kernel
theorem dX8_init_53 : decode cX8_init 53 = .ok (.new 37, 3) := by decide +kernel
theorem dX8_init_56 : decode cX8_init 56 = .ok (.dup, 1) := by decide +kernel
theorem dX8_init_57 : decode cX8_init 57 = .ok (.invokespecial 39, 3) := by decide +kernel
theorem dX8_init_60 : decode cX8_init 60 = .ok (.putfield 40, 3) := by decide +kernel
theorem dX8_init_63 : decode cX8_init 63 = .ok (.aload_n 0, 1) := by decide +kernel
theorem dX8_init_64 : decode cX8_init 64 = .ok (.new 44, 3) := by decide +kernel
theorem dX8_init_67 : decode cX8_init 67 = .ok (.dup, 1) := by decide +kernel
theorem dX8_init_68 : decode cX8_init 68 = .ok (.aload_n 0, 1) := by decide +kernel
theorem dX8_init_69 : decode cX8_init 69 = .ok (.getfield 19, 3) := by decide +kernel
theorem dX8_init_72 : decode cX8_init 72 = .ok (.invokespecial 46, 3) := by decide +kernel
theorem dX8_init_75 : decode cX8_init 75 = .ok (.putfield 49, 3) := by decide +kernel
theorem dX8_init_78 : decode cX8_init 78 = .ok (.aload_n 0, 1) := by decide +kernel
theorem dX8_init_79 : decode cX8_init 79 = .ok (.new 53, 3) := by decide +kernel
theorem dX8_init_82 : decode cX8_init 82 = .ok (.dup, 1) := by decide +kernel
theorem dX8_init_83 : decode cX8_init 83 = .ok (.new 23, 3) := by decide +kernel
theorem dX8_init_86 : decode cX8_init 86 = .ok (.dup, 1) := by decide +kernel
theorem dX8_init_87 : decode cX8_init 87 = .ok (.new 25, 3) := by decide +kernel
theorem dX8_init_90 : decode cX8_init 90 = .ok (.dup, 1) := by decide +kernel
theorem dX8_init_91 : decode cX8_init 91 = .ok (.aload_n 0, 1) := by decide +kernel
theorem dX8_init_92 : decode cX8_init 92 = .ok (.getfield 10, 3) := by decide +kernel
theorem dX8_init_95 : decode cX8_init 95 = .ok (.aload_n 0, 1) := by decide +kernel
theorem dX8_init_96 : decode cX8_init 96 = .ok (.getfield 19, 3) := by decide +kernel
theorem dX8_init_99 : decode cX8_init 99 = .ok (.invokespecial 27, 3) := by decide +kernel
theorem dX8_init_102 : decode cX8_init 102 = .ok (.invokespecial 30, 3) := by decide +kernel
theorem dX8_init_105 : decode cX8_init 105 = .ok (.aload_n 0, 1) := by decide +kernel
theorem dX8_init_106 : decode cX8_init 106 = .ok (.getfield 49, 3) := by decide +kernel
theorem dX8_init_109 : decode cX8_init 109 = .ok (.aload_n 0, 1) := by decide +kernel
theorem dX8_init_110 : decode cX8_init 110 = .ok (.getfield 40, 3) := by decide +kernel
theorem dX8_init_113 : decode cX8_init 113 = .ok (.invokespecial 55, 3) := by decide +kernel
theorem dX8_init_116 : decode cX8_init 116 = .ok (.putfield 58, 3) := by decide +kernel
theorem dX8_init_119 : decode cX8_init 119 = .ok (.aload_n 0, 1) := by decide +kernel
theorem dX8_init_120 : decode cX8_init 120 = .ok (.new 62, 3) := by decide +kernel
theorem dX8_init_123 : decode cX8_init 123 = .ok (.dup, 1) := by decide +kernel
theorem dX8_init_124 : decode cX8_init 124 = .ok (.invokespecial 64, 3) := by decide +kernel
theorem dX8_init_127 : decode cX8_init 127 = .ok (.putfield 65, 3) := by decide +kernel
theorem dX8_init_130 : decode cX8_init 130 = .ok (.aload_n 0, 1) := by decide +kernel
theorem dX8_init_131 : decode cX8_init 131 = .ok (.sipush 160, 3) := by decide +kernel
theorem dX8_init_134 : decode cX8_init 134 = .ok (.newarray .int, 2) := by decide +kernel
theorem dX8_init_136 : decode cX8_init 136 = .ok (.putfield 69, 3) := by decide +kernel
theorem dX8_init_139 : decode cX8_init 139 = .ok (.return_, 1) := by decide +kernel
theorem dX8_input_0 : decode cX8_input 0 = .ok (.aload_n 0, 1) := by decide +kernel
theorem dX8_input_1 : decode cX8_input 1 = .ok (.getfield 10, 3) := by decide +kernel
theorem dX8_input_4 : decode cX8_input 4 = .ok (.getfield 73, 3) := by decide +kernel
theorem dX8_input_7 : decode cX8_input 7 = .ok (.bipush 80, 2) := by decide +kernel
theorem dX8_input_9 : decode cX8_input 9 = .ok (.if_icmp .ge 15, 3) := by decide +kernel
theorem dX8_input_12 : decode cX8_input 12 = .ok (.aload_n 0, 1) := by decide +kernel
theorem dX8_input_13 : decode cX8_input 13 = .ok (.getfield 10, 3) := by decide +kernel
theorem dX8_input_16 : decode cX8_input 16 = .ok (.getfield 77, 3) := by decide +kernel
theorem dX8_input_19 : decode cX8_input 19 = .ok (.bipush 8, 2) := by decide +kernel
theorem dX8_input_21 : decode cX8_input 21 = .ok (.if_icmp .lt 7, 3) := by decide +kernel
theorem dX8_input_24 : decode cX8_input 24 = .ok (.sipush (-1004), 3) := by decide +kernel
theorem dX8_input_27 : decode cX8_input 27 = .ok (.ireturn, 1) := by decide +kernel
theorem dX8_input_28 : decode cX8_input 28 = .ok (.aload_n 0, 1) := by decide +kernel
theorem dX8_input_29 : decode cX8_input 29 = .ok (.getfield 10, 3) := by decide +kernel
theorem dX8_input_32 : decode cX8_input 32 = .ok (.invokevirtual 80, 3) := by decide +kernel
theorem dX8_input_35 : decode cX8_input 35 = .ok (.ireturn, 1) := by decide +kernel
theorem dX8_gate_0 : decode cX8_gate 0 = .ok (.iload_n 1, 1) := by decide +kernel
theorem dX8_gate_1 : decode cX8_gate 1 = .ok (.invokestatic 84, 3) := by decide +kernel
theorem dX8_gate_4 : decode cX8_gate 4 = .ok (.istore 5, 2) := by decide +kernel
theorem dX8_gate_6 : decode cX8_gate 6 = .ok (.iload 5, 2) := by decide +kernel
theorem dX8_gate_8 : decode cX8_gate 8 = .ok (.iconst 1, 1) := by decide +kernel
theorem dX8_gate_9 : decode cX8_gate 9 = .ok (.if_icmp .lt 14, 3) := by decide +kernel
theorem dX8_gate_12 : decode cX8_gate 12 = .ok (.aload_n 0, 1) := by decide +kernel
theorem dX8_gate_13 : decode cX8_gate 13 = .ok (.getfield 10, 3) := by decide +kernel
theorem dX8_gate_16 : decode cX8_gate 16 = .ok (.iload_n 2, 1) := by decide +kernel
theorem dX8_gate_17 : decode cX8_gate 17 = .ok (.invokevirtual 88, 3) := by decide +kernel
theorem dX8_gate_20 : decode cX8_gate 20 = .ok (.ifCond .eq 38, 3) := by decide +kernel
theorem dX8_gate_23 : decode cX8_gate 23 = .ok (.iload 5, 2) := by decide +kernel
theorem dX8_gate_25 : decode cX8_gate 25 = .ok (.iconst 2, 1) := by decide +kernel
theorem dX8_gate_26 : decode cX8_gate 26 = .ok (.if_icmp .lt 14, 3) := by decide +kernel
theorem dX8_gate_29 : decode cX8_gate 29 = .ok (.aload_n 0, 1) := by decide +kernel
theorem dX8_gate_30 : decode cX8_gate 30 = .ok (.getfield 10, 3) := by decide +kernel
theorem dX8_gate_33 : decode cX8_gate 33 = .ok (.iload_n 3, 1) := by decide +kernel
theorem dX8_gate_34 : decode cX8_gate 34 = .ok (.invokevirtual 88, 3) := by decide +kernel
theorem dX8_gate_37 : decode cX8_gate 37 = .ok (.ifCond .eq 21, 3) := by decide +kernel
theorem dX8_gate_40 : decode cX8_gate 40 = .ok (.iload 5, 2) := by decide +kernel
theorem dX8_gate_42 : decode cX8_gate 42 = .ok (.iconst 3, 1) := by decide +kernel
theorem dX8_gate_43 : decode cX8_gate 43 = .ok (.if_icmp .lt 19, 3) := by decide +kernel
theorem dX8_gate_46 : decode cX8_gate 46 = .ok (.aload_n 0, 1) := by decide +kernel
theorem dX8_gate_47 : decode cX8_gate 47 = .ok (.getfield 10, 3) := by decide +kernel
theorem dX8_gate_50 : decode cX8_gate 50 = .ok (.iload 4, 2) := by decide +kernel
theorem dX8_gate_52 : decode cX8_gate 52 = .ok (.invokevirtual 88, 3) := by decide +kernel
theorem dX8_gate_55 : decode cX8_gate 55 = .ok (.ifCond .ne 7, 3) := by decide +kernel
theorem dX8_gate_58 : decode cX8_gate 58 = .ok (.sipush (-1001), 3) := by decide +kernel
theorem dX8_gate_61 : decode cX8_gate 61 = .ok (.ireturn, 1) := by decide +kernel
theorem dX8_gate_62 : decode cX8_gate 62 = .ok (.iload 5, 2) := by decide +kernel
theorem dX8_gate_64 : decode cX8_gate 64 = .ok (.ifCond .ne 7, 3) := by decide +kernel
theorem dX8_gate_67 : decode cX8_gate 67 = .ok (.sipush (-1002), 3) := by decide +kernel
theorem dX8_gate_70 : decode cX8_gate 70 = .ok (.ireturn, 1) := by decide +kernel
theorem dX8_gate_71 : decode cX8_gate 71 = .ok (.aload_n 0, 1) := by decide +kernel
theorem dX8_gate_72 : decode cX8_gate 72 = .ok (.getfield 10, 3) := by decide +kernel
theorem dX8_gate_75 : decode cX8_gate 75 = .ok (.getfield 73, 3) := by decide +kernel
theorem dX8_gate_78 : decode cX8_gate 78 = .ok (.bipush 80, 2) := by decide +kernel
theorem dX8_gate_80 : decode cX8_gate 80 = .ok (.if_icmp .lt 7, 3) := by decide +kernel
theorem dX8_gate_83 : decode cX8_gate 83 = .ok (.sipush (-1004), 3) := by decide +kernel
theorem dX8_gate_86 : decode cX8_gate 86 = .ok (.ireturn, 1) := by decide +kernel
theorem dX8_gate_87 : decode cX8_gate 87 = .ok (.aload_n 0, 1) := by decide +kernel
theorem dX8_gate_88 : decode cX8_gate 88 = .ok (.getfield 10, 3) := by decide +kernel
theorem dX8_gate_91 : decode cX8_gate 91 = .ok (.iload_n 1, 1) := by decide +kernel
theorem dX8_gate_92 : decode cX8_gate 92 = .ok (.iload_n 2, 1) := by decide +kernel
theorem dX8_gate_93 : decode cX8_gate 93 = .ok (.iload_n 3, 1) := by decide +kernel
theorem dX8_gate_94 : decode cX8_gate 94 = .ok (.iload 4, 2) := by decide +kernel
theorem dX8_gate_96 : decode cX8_gate 96 = .ok (.invokevirtual 92, 3) := by decide +kernel
theorem dX8_gate_99 : decode cX8_gate 99 = .ok (.ireturn, 1) := by decide +kernel
theorem dX8_cell_0 : decode cX8_cell 0 = .ok (.iload_n 1, 1) := by decide +kernel
theorem dX8_cell_1 : decode cX8_cell 1 = .ok (.ifCond .lt 8, 3) := by decide +kernel
theorem dX8_cell_4 : decode cX8_cell 4 = .ok (.iload_n 1, 1) := by decide +kernel
theorem dX8_cell_5 : decode cX8_cell 5 = .ok (.iconst 3, 1) := by decide +kernel
theorem dX8_cell_6 : decode cX8_cell 6 = .ok (.if_icmp .lt 7, 3) := by decide +kernel
theorem dX8_cell_9 : decode cX8_cell 9 = .ok (.sipush (-1002), 3) := by decide +kernel
theorem dX8_cell_12 : decode cX8_cell 12 = .ok (.ireturn, 1) := by decide +kernel
theorem dX8_cell_13 : decode cX8_cell 13 = .ok (.aload_n 0, 1) := by decide +kernel
theorem dX8_cell_14 : decode cX8_cell 14 = .ok (.getfield 10, 3) := by decide +kernel
theorem dX8_cell_17 : decode cX8_cell 17 = .ok (.getfield 73, 3) := by decide +kernel
theorem dX8_cell_20 : decode cX8_cell 20 = .ok (.bipush 80, 2) := by decide +kernel
theorem dX8_cell_22 : decode cX8_cell 22 = .ok (.if_icmp .ge 15, 3) := by decide +kernel
theorem dX8_cell_25 : decode cX8_cell 25 = .ok (.aload_n 0, 1) := by decide +kernel
theorem dX8_cell_26 : decode cX8_cell 26 = .ok (.getfield 10, 3) := by decide +kernel
theorem dX8_cell_29 : decode cX8_cell 29 = .ok (.getfield 96, 3) := by decide +kernel
theorem dX8_cell_32 : decode cX8_cell 32 = .ok (.bipush 20, 2) := by decide +kernel
theorem dX8_cell_34 : decode cX8_cell 34 = .ok (.if_icmp .lt 7, 3) := by decide +kernel
theorem dX8_cell_37 : decode cX8_cell 37 = .ok (.sipush (-1004), 3) := by decide +kernel
theorem dX8_cell_40 : decode cX8_cell 40 = .ok (.ireturn, 1) := by decide +kernel
theorem dX8_cell_41 : decode cX8_cell 41 = .ok (.aload_n 0, 1) := by decide +kernel
theorem dX8_cell_42 : decode cX8_cell 42 = .ok (.getfield 10, 3) := by decide +kernel
theorem dX8_cell_45 : decode cX8_cell 45 = .ok (.iload_n 1, 1) := by decide +kernel
theorem dX8_cell_46 : decode cX8_cell 46 = .ok (.invokevirtual 99, 3) := by decide +kernel
theorem dX8_cell_49 : decode cX8_cell 49 = .ok (.ireturn, 1) := by decide +kernel
theorem dX8_source_0 : decode cX8_source 0 = .ok (.aload_n 0, 1) := by decide +kernel
theorem dX8_source_1 : decode cX8_source 1 = .ok (.getfield 10, 3) := by decide +kernel
theorem dX8_source_4 : decode cX8_source 4 = .ok (.iload_n 1, 1) := by decide +kernel
theorem dX8_source_5 : decode cX8_source 5 = .ok (.invokevirtual 102, 3) := by decide +kernel
theorem dX8_source_8 : decode cX8_source 8 = .ok (.ifCond .eq 14, 3) := by decide +kernel
theorem dX8_source_11 : decode cX8_source 11 = .ok (.aload_n 0, 1) := by decide +kernel
theorem dX8_source_12 : decode cX8_source 12 = .ok (.getfield 10, 3) := by decide +kernel
theorem dX8_source_15 : decode cX8_source 15 = .ok (.iload_n 2, 1) := by decide +kernel
theorem dX8_source_16 : decode cX8_source 16 = .ok (.invokevirtual 88, 3) := by decide +kernel
theorem dX8_source_19 : decode cX8_source 19 = .ok (.ifCond .ne 7, 3) := by decide +kernel
theorem dX8_source_22 : decode cX8_source 22 = .ok (.sipush (-1001), 3) := by decide +kernel
theorem dX8_source_25 : decode cX8_source 25 = .ok (.ireturn, 1) := by decide +kernel
theorem dX8_source_26 : decode cX8_source 26 = .ok (.aload_n 0, 1) := by decide +kernel
theorem dX8_source_27 : decode cX8_source 27 = .ok (.getfield 10, 3) := by decide +kernel
theorem dX8_source_30 : decode cX8_source 30 = .ok (.getfield 105, 3) := by decide +kernel
theorem dX8_source_33 : decode cX8_source 33 = .ok (.iload_n 1, 1) := by decide +kernel
theorem dX8_source_34 : decode cX8_source 34 = .ok (.iaload, 1) := by decide +kernel
theorem dX8_source_35 : decode cX8_source 35 = .ok (.istore_n 3, 1) := by decide +kernel
theorem dX8_source_36 : decode cX8_source 36 = .ok (.aload_n 0, 1) := by decide +kernel
theorem dX8_source_37 : decode cX8_source 37 = .ok (.getfield 10, 3) := by decide +kernel
theorem dX8_source_40 : decode cX8_source 40 = .ok (.getfield 105, 3) := by decide +kernel
theorem dX8_source_43 : decode cX8_source 43 = .ok (.iload_n 1, 1) := by decide +kernel
theorem dX8_source_44 : decode cX8_source 44 = .ok (.iload_n 2, 1) := by decide +kernel
theorem dX8_source_45 : decode cX8_source 45 = .ok (.iastore, 1) := by decide +kernel
theorem dX8_source_46 : decode cX8_source 46 = .ok (.iload_n 3, 1) := by decide +kernel
theorem dX8_source_47 : decode cX8_source 47 = .ok (.ireturn, 1) := by decide +kernel
theorem dX8_output_0 : decode cX8_output 0 = .ok (.aload_n 0, 1) := by decide +kernel
theorem dX8_output_1 : decode cX8_output 1 = .ok (.getfield 10, 3) := by decide +kernel
theorem dX8_output_4 : decode cX8_output 4 = .ok (.iload_n 1, 1) := by decide +kernel
theorem dX8_output_5 : decode cX8_output 5 = .ok (.invokevirtual 88, 3) := by decide +kernel
theorem dX8_output_8 : decode cX8_output 8 = .ok (.ifCond .ne 7, 3) := by decide +kernel
theorem dX8_output_11 : decode cX8_output 11 = .ok (.sipush (-1001), 3) := by decide +kernel
theorem dX8_output_14 : decode cX8_output 14 = .ok (.ireturn, 1) := by decide +kernel
theorem dX8_output_15 : decode cX8_output 15 = .ok (.aload_n 0, 1) := by decide +kernel
theorem dX8_output_16 : decode cX8_output 16 = .ok (.getfield 10, 3) := by decide +kernel
theorem dX8_output_19 : decode cX8_output 19 = .ok (.getfield 108, 3) := by decide +kernel
theorem dX8_output_22 : decode cX8_output 22 = .ok (.iload_n 1, 1) := by decide +kernel
theorem dX8_output_23 : decode cX8_output 23 = .ok (.baload, 1) := by decide +kernel
theorem dX8_output_24 : decode cX8_output 24 = .ok (.ifCond .eq 7, 3) := by decide +kernel
theorem dX8_output_27 : decode cX8_output 27 = .ok (.sipush (-1003), 3) := by decide +kernel
theorem dX8_output_30 : decode cX8_output 30 = .ok (.ireturn, 1) := by decide +kernel
theorem dX8_output_31 : decode cX8_output 31 = .ok (.aload_n 0, 1) := by decide +kernel
theorem dX8_output_32 : decode cX8_output 32 = .ok (.getfield 10, 3) := by decide +kernel
theorem dX8_output_35 : decode cX8_output 35 = .ok (.getfield 112, 3) := by decide +kernel
theorem dX8_output_38 : decode cX8_output 38 = .ok (.bipush 8, 2) := by decide +kernel
theorem dX8_output_40 : decode cX8_output 40 = .ok (.if_icmp .lt 7, 3) := by decide +kernel
theorem dX8_output_43 : decode cX8_output 43 = .ok (.sipush (-1004), 3) := by decide +kernel
theorem dX8_output_46 : decode cX8_output 46 = .ok (.ireturn, 1) := by decide +kernel
theorem dX8_output_47 : decode cX8_output 47 = .ok (.aload_n 0, 1) := by decide +kernel
theorem dX8_output_48 : decode cX8_output 48 = .ok (.getfield 10, 3) := by decide +kernel
theorem dX8_output_51 : decode cX8_output 51 = .ok (.iload_n 1, 1) := by decide +kernel
theorem dX8_output_52 : decode cX8_output 52 = .ok (.invokevirtual 115, 3) := by decide +kernel
theorem dX8_output_55 : decode cX8_output 55 = .ok (.ireturn, 1) := by decide +kernel
theorem dX8_count_0 : decode cX8_count 0 = .ok (.iload_n 1, 1) := by decide +kernel
theorem dX8_count_1 : decode cX8_count 1 = .ok (.tableswitch 99 0 6 #[43, 51, 59, 67, 75, 83, 91], 43) := by decide +kernel
theorem dX8_count_44 : decode cX8_count 44 = .ok (.aload_n 0, 1) := by decide +kernel
theorem dX8_count_45 : decode cX8_count 45 = .ok (.getfield 10, 3) := by decide +kernel
theorem dX8_count_48 : decode cX8_count 48 = .ok (.getfield 73, 3) := by decide +kernel
theorem dX8_count_51 : decode cX8_count 51 = .ok (.ireturn, 1) := by decide +kernel
theorem dX8_count_52 : decode cX8_count 52 = .ok (.aload_n 0, 1) := by decide +kernel
theorem dX8_count_53 : decode cX8_count 53 = .ok (.getfield 10, 3) := by decide +kernel
theorem dX8_count_56 : decode cX8_count 56 = .ok (.getfield 77, 3) := by decide +kernel
theorem dX8_count_59 : decode cX8_count 59 = .ok (.ireturn, 1) := by decide +kernel
theorem dX8_count_60 : decode cX8_count 60 = .ok (.aload_n 0, 1) := by decide +kernel
theorem dX8_count_61 : decode cX8_count 61 = .ok (.getfield 10, 3) := by decide +kernel
theorem dX8_count_64 : decode cX8_count 64 = .ok (.getfield 96, 3) := by decide +kernel
theorem dX8_count_67 : decode cX8_count 67 = .ok (.ireturn, 1) := by decide +kernel
theorem dX8_count_68 : decode cX8_count 68 = .ok (.aload_n 0, 1) := by decide +kernel
theorem dX8_count_69 : decode cX8_count 69 = .ok (.getfield 10, 3) := by decide +kernel
theorem dX8_count_72 : decode cX8_count 72 = .ok (.getfield 112, 3) := by decide +kernel
theorem dX8_count_75 : decode cX8_count 75 = .ok (.ireturn, 1) := by decide +kernel
theorem dX8_count_76 : decode cX8_count 76 = .ok (.aload_n 0, 1) := by decide +kernel
theorem dX8_count_77 : decode cX8_count 77 = .ok (.getfield 40, 3) := by decide +kernel
theorem dX8_count_80 : decode cX8_count 80 = .ok (.getfield 118, 3) := by decide +kernel
theorem dX8_count_83 : decode cX8_count 83 = .ok (.ireturn, 1) := by decide +kernel
theorem dX8_count_84 : decode cX8_count 84 = .ok (.aload_n 0, 1) := by decide +kernel
theorem dX8_count_85 : decode cX8_count 85 = .ok (.getfield 19, 3) := by decide +kernel
theorem dX8_count_88 : decode cX8_count 88 = .ok (.invokevirtual 121, 3) := by decide +kernel
theorem dX8_count_91 : decode cX8_count 91 = .ok (.ireturn, 1) := by decide +kernel
theorem dX8_count_92 : decode cX8_count 92 = .ok (.aload_n 0, 1) := by decide +kernel
theorem dX8_count_93 : decode cX8_count 93 = .ok (.getfield 33, 3) := by decide +kernel
theorem dX8_count_96 : decode cX8_count 96 = .ok (.getfield 124, 3) := by decide +kernel
theorem dX8_count_99 : decode cX8_count 99 = .ok (.ireturn, 1) := by decide +kernel
theorem dX8_count_100 : decode cX8_count 100 = .ok (.sipush (-1002), 3) := by decide +kernel
theorem dX8_count_103 : decode cX8_count 103 = .ok (.ireturn, 1) := by decide +kernel
theorem dX8_line_0 : decode cX8_line 0 = .ok (.aload_n 0, 1) := by decide +kernel
theorem dX8_line_1 : decode cX8_line 1 = .ok (.getfield 10, 3) := by decide +kernel
theorem dX8_line_4 : decode cX8_line 4 = .ok (.iload_n 1, 1) := by decide +kernel
theorem dX8_line_5 : decode cX8_line 5 = .ok (.invokevirtual 88, 3) := by decide +kernel
theorem dX8_line_8 : decode cX8_line 8 = .ok (.ifCond .ne 7, 3) := by decide +kernel
theorem dX8_line_11 : decode cX8_line 11 = .ok (.sipush (-1001), 3) := by decide +kernel
theorem dX8_line_14 : decode cX8_line 14 = .ok (.ireturn, 1) := by decide +kernel
theorem dX8_line_15 : decode cX8_line 15 = .ok (.iload_n 2, 1) := by decide +kernel
theorem dX8_line_16 : decode cX8_line 16 = .ok (.tableswitch 60 0 2 #[28, 38, 48], 28) := by decide +kernel
theorem dX8_line_44 : decode cX8_line 44 = .ok (.aload_n 0, 1) := by decide +kernel
theorem dX8_line_45 : decode cX8_line 45 = .ok (.getfield 10, 3) := by decide +kernel
theorem dX8_line_48 : decode cX8_line 48 = .ok (.getfield 127, 3) := by decide +kernel
theorem dX8_line_51 : decode cX8_line 51 = .ok (.iload_n 1, 1) := by decide +kernel
theorem dX8_line_52 : decode cX8_line 52 = .ok (.iaload, 1) := by decide +kernel
theorem dX8_line_53 : decode cX8_line 53 = .ok (.ireturn, 1) := by decide +kernel
theorem dX8_line_54 : decode cX8_line 54 = .ok (.aload_n 0, 1) := by decide +kernel
theorem dX8_line_55 : decode cX8_line 55 = .ok (.getfield 10, 3) := by decide +kernel
theorem dX8_line_58 : decode cX8_line 58 = .ok (.getfield 130, 3) := by decide +kernel
theorem dX8_line_61 : decode cX8_line 61 = .ok (.iload_n 1, 1) := by decide +kernel
theorem dX8_line_62 : decode cX8_line 62 = .ok (.iaload, 1) := by decide +kernel
theorem dX8_line_63 : decode cX8_line 63 = .ok (.ireturn, 1) := by decide +kernel
theorem dX8_line_64 : decode cX8_line 64 = .ok (.aload_n 0, 1) := by decide +kernel
theorem dX8_line_65 : decode cX8_line 65 = .ok (.getfield 33, 3) := by decide +kernel
theorem dX8_line_68 : decode cX8_line 68 = .ok (.getfield 133, 3) := by decide +kernel
theorem dX8_line_71 : decode cX8_line 71 = .ok (.iload_n 1, 1) := by decide +kernel
theorem dX8_line_72 : decode cX8_line 72 = .ok (.invokevirtual 137, 3) := by decide +kernel
theorem dX8_line_75 : decode cX8_line 75 = .ok (.ireturn, 1) := by decide +kernel
theorem dX8_line_76 : decode cX8_line 76 = .ok (.sipush (-1002), 3) := by decide +kernel
theorem dX8_line_79 : decode cX8_line 79 = .ok (.ireturn, 1) := by decide +kernel
theorem dX8_set_0 : decode cX8_set 0 = .ok (.iload_n 1, 1) := by decide +kernel
theorem dX8_set_1 : decode cX8_set 1 = .ok (.ifCond .lt 14, 3) := by decide +kernel
theorem dX8_set_4 : decode cX8_set 4 = .ok (.iload_n 1, 1) := by decide +kernel
theorem dX8_set_5 : decode cX8_set 5 = .ok (.aload_n 0, 1) := by decide +kernel
theorem dX8_set_6 : decode cX8_set 6 = .ok (.getfield 10, 3) := by decide +kernel
theorem dX8_set_9 : decode cX8_set 9 = .ok (.getfield 77, 3) := by decide +kernel
theorem dX8_set_12 : decode cX8_set 12 = .ok (.if_icmp .lt 7, 3) := by decide +kernel
theorem dX8_set_15 : decode cX8_set 15 = .ok (.sipush (-1001), 3) := by decide +kernel
theorem dX8_set_18 : decode cX8_set 18 = .ok (.ireturn, 1) := by decide +kernel
theorem dX8_set_19 : decode cX8_set 19 = .ok (.iload_n 2, 1) := by decide +kernel
theorem dX8_set_20 : decode cX8_set 20 = .ok (.invokestatic 140, 3) := by decide +kernel
theorem dX8_set_23 : decode cX8_set 23 = .ok (.ifCond .ne 7, 3) := by decide +kernel
theorem dX8_set_26 : decode cX8_set 26 = .ok (.sipush (-1002), 3) := by decide +kernel
theorem dX8_set_29 : decode cX8_set 29 = .ok (.ireturn, 1) := by decide +kernel
theorem dX8_set_30 : decode cX8_set 30 = .ok (.aload_n 0, 1) := by decide +kernel
theorem dX8_set_31 : decode cX8_set 31 = .ok (.getfield 33, 3) := by decide +kernel
theorem dX8_set_34 : decode cX8_set 34 = .ok (.getfield 133, 3) := by decide +kernel
theorem dX8_set_37 : decode cX8_set 37 = .ok (.getfield 143, 3) := by decide +kernel
theorem dX8_set_40 : decode cX8_set 40 = .ok (.iload_n 1, 1) := by decide +kernel
theorem dX8_set_41 : decode cX8_set 41 = .ok (.iaload, 1) := by decide +kernel
theorem dX8_set_42 : decode cX8_set 42 = .ok (.istore_n 3, 1) := by decide +kernel
theorem dX8_set_43 : decode cX8_set 43 = .ok (.aload_n 0, 1) := by decide +kernel
theorem dX8_set_44 : decode cX8_set 44 = .ok (.getfield 33, 3) := by decide +kernel
theorem dX8_set_47 : decode cX8_set 47 = .ok (.getfield 133, 3) := by decide +kernel
theorem dX8_set_50 : decode cX8_set 50 = .ok (.getfield 143, 3) := by decide +kernel
theorem dX8_set_53 : decode cX8_set 53 = .ok (.iload_n 1, 1) := by decide +kernel
theorem dX8_set_54 : decode cX8_set 54 = .ok (.iload_n 2, 1) := by decide +kernel
theorem dX8_set_55 : decode cX8_set 55 = .ok (.iastore, 1) := by decide +kernel
theorem dX8_set_56 : decode cX8_set 56 = .ok (.iload_n 3, 1) := by decide +kernel
theorem dX8_set_57 : decode cX8_set 57 = .ok (.ireturn, 1) := by decide +kernel
theorem dX8_hold_0 : decode cX8_hold 0 = .ok (.aload_n 0, 1) := by decide +kernel
theorem dX8_hold_1 : decode cX8_hold 1 = .ok (.getfield 10, 3) := by decide +kernel
theorem dX8_hold_4 : decode cX8_hold 4 = .ok (.iload_n 1, 1) := by decide +kernel
theorem dX8_hold_5 : decode cX8_hold 5 = .ok (.invokevirtual 102, 3) := by decide +kernel
theorem dX8_hold_8 : decode cX8_hold 8 = .ok (.ifCond .ne 7, 3) := by decide +kernel
theorem dX8_hold_11 : decode cX8_hold 11 = .ok (.sipush (-1001), 3) := by decide +kernel
theorem dX8_hold_14 : decode cX8_hold 14 = .ok (.ireturn, 1) := by decide +kernel
theorem dX8_hold_15 : decode cX8_hold 15 = .ok (.iload_n 2, 1) := by decide +kernel
theorem dX8_hold_16 : decode cX8_hold 16 = .ok (.invokestatic 140, 3) := by decide +kernel
theorem dX8_hold_19 : decode cX8_hold 19 = .ok (.ifCond .ne 7, 3) := by decide +kernel
theorem dX8_hold_22 : decode cX8_hold 22 = .ok (.sipush (-1002), 3) := by decide +kernel
theorem dX8_hold_25 : decode cX8_hold 25 = .ok (.ireturn, 1) := by decide +kernel
theorem dX8_hold_26 : decode cX8_hold 26 = .ok (.aload_n 0, 1) := by decide +kernel
theorem dX8_hold_27 : decode cX8_hold 27 = .ok (.getfield 33, 3) := by decide +kernel
theorem dX8_hold_30 : decode cX8_hold 30 = .ok (.getfield 133, 3) := by decide +kernel
theorem dX8_hold_33 : decode cX8_hold 33 = .ok (.getfield 146, 3) := by decide +kernel
theorem dX8_hold_36 : decode cX8_hold 36 = .ok (.iload_n 1, 1) := by decide +kernel
theorem dX8_hold_37 : decode cX8_hold 37 = .ok (.iaload, 1) := by decide +kernel
theorem dX8_hold_38 : decode cX8_hold 38 = .ok (.istore_n 3, 1) := by decide +kernel
theorem dX8_hold_39 : decode cX8_hold 39 = .ok (.aload_n 0, 1) := by decide +kernel
theorem dX8_hold_40 : decode cX8_hold 40 = .ok (.getfield 33, 3) := by decide +kernel
theorem dX8_hold_43 : decode cX8_hold 43 = .ok (.getfield 133, 3) := by decide +kernel
theorem dX8_hold_46 : decode cX8_hold 46 = .ok (.getfield 146, 3) := by decide +kernel
theorem dX8_hold_49 : decode cX8_hold 49 = .ok (.iload_n 1, 1) := by decide +kernel
theorem dX8_hold_50 : decode cX8_hold 50 = .ok (.iload_n 2, 1) := by decide +kernel
theorem dX8_hold_51 : decode cX8_hold 51 = .ok (.iastore, 1) := by decide +kernel
theorem dX8_hold_52 : decode cX8_hold 52 = .ok (.iload_n 3, 1) := by decide +kernel
theorem dX8_hold_53 : decode cX8_hold 53 = .ok (.ireturn, 1) := by decide +kernel
theorem dX8_clock_0 : decode cX8_clock 0 = .ok (.iload_n 1, 1) := by decide +kernel
theorem dX8_clock_1 : decode cX8_clock 1 = .ok (.ifCond .lt 9, 3) := by decide +kernel
theorem dX8_clock_4 : decode cX8_clock 4 = .ok (.iload_n 1, 1) := by decide +kernel
theorem dX8_clock_5 : decode cX8_clock 5 = .ok (.bipush 7, 2) := by decide +kernel
theorem dX8_clock_7 : decode cX8_clock 7 = .ok (.if_icmp .le 7, 3) := by decide +kernel
theorem dX8_clock_10 : decode cX8_clock 10 = .ok (.sipush (-1002), 3) := by decide +kernel
theorem dX8_clock_13 : decode cX8_clock 13 = .ok (.ireturn, 1) := by decide +kernel
theorem dX8_clock_14 : decode cX8_clock 14 = .ok (.aload_n 0, 1) := by decide +kernel
theorem dX8_clock_15 : decode cX8_clock 15 = .ok (.getfield 33, 3) := by decide +kernel
theorem dX8_clock_18 : decode cX8_clock 18 = .ok (.getfield 133, 3) := by decide +kernel
theorem dX8_clock_21 : decode cX8_clock 21 = .ok (.iload_n 1, 1) := by decide +kernel
theorem dX8_clock_22 : decode cX8_clock 22 = .ok (.invokevirtual 149, 3) := by decide +kernel
theorem dX8_clock_25 : decode cX8_clock 25 = .ok (.ireturn, 1) := by decide +kernel
theorem dX8_stick_0 : decode cX8_stick 0 = .ok (.iload_n 1, 1) := by decide +kernel
theorem dX8_stick_1 : decode cX8_stick 1 = .ok (.iconst (-1), 1) := by decide +kernel
theorem dX8_stick_2 : decode cX8_stick 2 = .ok (.if_icmp .ne 15, 3) := by decide +kernel
theorem dX8_stick_5 : decode cX8_stick 5 = .ok (.aload_n 0, 1) := by decide +kernel
theorem dX8_stick_6 : decode cX8_stick 6 = .ok (.getfield 33, 3) := by decide +kernel
theorem dX8_stick_9 : decode cX8_stick 9 = .ok (.getfield 133, 3) := by decide +kernel
theorem dX8_stick_12 : decode cX8_stick 12 = .ok (.invokevirtual 152, 3) := by decide +kernel
theorem dX8_stick_15 : decode cX8_stick 15 = .ok (.iconst 1, 1) := by decide +kernel
theorem dX8_stick_16 : decode cX8_stick 16 = .ok (.ireturn, 1) := by decide +kernel
theorem dX8_stick_17 : decode cX8_stick 17 = .ok (.aload_n 0, 1) := by decide +kernel
theorem dX8_stick_18 : decode cX8_stick 18 = .ok (.getfield 10, 3) := by decide +kernel
theorem dX8_stick_21 : decode cX8_stick 21 = .ok (.iload_n 1, 1) := by decide +kernel
theorem dX8_stick_22 : decode cX8_stick 22 = .ok (.invokevirtual 88, 3) := by decide +kernel
theorem dX8_stick_25 : decode cX8_stick 25 = .ok (.ifCond .ne 7, 3) := by decide +kernel
theorem dX8_stick_28 : decode cX8_stick 28 = .ok (.sipush (-1001), 3) := by decide +kernel
theorem dX8_stick_31 : decode cX8_stick 31 = .ok (.ireturn, 1) := by decide +kernel
theorem dX8_stick_32 : decode cX8_stick 32 = .ok (.iload_n 2, 1) := by decide +kernel
theorem dX8_stick_33 : decode cX8_stick 33 = .ok (.invokestatic 155, 3) := by decide +kernel
theorem dX8_stick_36 : decode cX8_stick 36 = .ok (.ifCond .ne 7, 3) := by decide +kernel
theorem dX8_stick_39 : decode cX8_stick 39 = .ok (.sipush (-1002), 3) := by decide +kernel
theorem dX8_stick_42 : decode cX8_stick 42 = .ok (.ireturn, 1) := by decide +kernel
theorem dX8_stick_43 : decode cX8_stick 43 = .ok (.aload_n 0, 1) := by decide +kernel
theorem dX8_stick_44 : decode cX8_stick 44 = .ok (.getfield 33, 3) := by decide +kernel
theorem dX8_stick_47 : decode cX8_stick 47 = .ok (.getfield 133, 3) := by decide +kernel
theorem dX8_stick_50 : decode cX8_stick 50 = .ok (.iload_n 1, 1) := by decide +kernel
theorem dX8_stick_51 : decode cX8_stick 51 = .ok (.iload_n 2, 1) := by decide +kernel
theorem dX8_stick_52 : decode cX8_stick 52 = .ok (.invokevirtual 158, 3) := by decide +kernel
theorem dX8_stick_55 : decode cX8_stick 55 = .ok (.iconst 1, 1) := by decide +kernel
theorem dX8_stick_56 : decode cX8_stick 56 = .ok (.ireturn, 1) := by decide +kernel
theorem dX8_chain_0 : decode cX8_chain 0 = .ok (.iload_n 1, 1) := by decide +kernel
theorem dX8_chain_1 : decode cX8_chain 1 = .ok (.invokestatic 162, 3) := by decide +kernel
theorem dX8_chain_4 : decode cX8_chain 4 = .ok (.ifCond .eq 14, 3) := by decide +kernel
theorem dX8_chain_7 : decode cX8_chain 7 = .ok (.aload_n 0, 1) := by decide +kernel
theorem dX8_chain_8 : decode cX8_chain 8 = .ok (.getfield 10, 3) := by decide +kernel
theorem dX8_chain_11 : decode cX8_chain 11 = .ok (.iload_n 2, 1) := by decide +kernel
theorem dX8_chain_12 : decode cX8_chain 12 = .ok (.invokevirtual 102, 3) := by decide +kernel
theorem dX8_chain_15 : decode cX8_chain 15 = .ok (.ifCond .ne 7, 3) := by decide +kernel
theorem dX8_chain_18 : decode cX8_chain 18 = .ok (.sipush (-1001), 3) := by decide +kernel
theorem dX8_chain_21 : decode cX8_chain 21 = .ok (.ireturn, 1) := by decide +kernel
theorem dX8_chain_22 : decode cX8_chain 22 = .ok (.iload_n 3, 1) := by decide +kernel
theorem dX8_chain_23 : decode cX8_chain 23 = .ok (.ifCond .lt 16, 3) := by decide +kernel
theorem dX8_chain_26 : decode cX8_chain 26 = .ok (.iload_n 3, 1) := by decide +kernel
theorem dX8_chain_27 : decode cX8_chain 27 = .ok (.aload_n 0, 1) := by decide +kernel
theorem dX8_chain_28 : decode cX8_chain 28 = .ok (.getfield 19, 3) := by decide +kernel
theorem dX8_chain_31 : decode cX8_chain 31 = .ok (.getfield 165, 3) := by decide +kernel
theorem dX8_chain_34 : decode cX8_chain 34 = .ok (.iload_n 1, 1) := by decide +kernel
theorem dX8_chain_35 : decode cX8_chain 35 = .ok (.iaload, 1) := by decide +kernel
theorem dX8_chain_36 : decode cX8_chain 36 = .ok (.if_icmp .le 7, 3) := by decide +kernel
theorem dX8_chain_39 : decode cX8_chain 39 = .ok (.sipush (-1002), 3) := by decide +kernel
theorem dX8_chain_42 : decode cX8_chain 42 = .ok (.ireturn, 1) := by decide +kernel
theorem dX8_chain_43 : decode cX8_chain 43 = .ok (.aload_n 0, 1) := by decide +kernel
theorem dX8_chain_44 : decode cX8_chain 44 = .ok (.getfield 19, 3) := by decide +kernel
theorem dX8_chain_47 : decode cX8_chain 47 = .ok (.getfield 167, 3) := by decide +kernel
theorem dX8_chain_50 : decode cX8_chain 50 = .ok (.iload_n 2, 1) := by decide +kernel
theorem dX8_chain_51 : decode cX8_chain 51 = .ok (.iaload, 1) := by decide +kernel
theorem dX8_chain_52 : decode cX8_chain 52 = .ok (.iconst (-1), 1) := by decide +kernel
theorem dX8_chain_53 : decode cX8_chain 53 = .ok (.if_icmp .eq 7, 3) := by decide +kernel
theorem dX8_chain_56 : decode cX8_chain 56 = .ok (.sipush (-1003), 3) := by decide +kernel
theorem dX8_chain_59 : decode cX8_chain 59 = .ok (.ireturn, 1) := by decide +kernel
theorem dX8_chain_60 : decode cX8_chain 60 = .ok (.aload_n 0, 1) := by decide +kernel
theorem dX8_chain_61 : decode cX8_chain 61 = .ok (.getfield 19, 3) := by decide +kernel
theorem dX8_chain_64 : decode cX8_chain 64 = .ok (.iload_n 1, 1) := by decide +kernel
theorem dX8_chain_65 : decode cX8_chain 65 = .ok (.iload_n 2, 1) := by decide +kernel
theorem dX8_chain_66 : decode cX8_chain 66 = .ok (.iload_n 3, 1) := by decide +kernel
theorem dX8_chain_67 : decode cX8_chain 67 = .ok (.iload 4, 2) := by decide +kernel
theorem dX8_chain_69 : decode cX8_chain 69 = .ok (.invokevirtual 170, 3) := by decide +kernel
theorem dX8_chain_72 : decode cX8_chain 72 = .ok (.ireturn, 1) := by decide +kernel
theorem dX8_unchain_0 : decode cX8_unchain 0 = .ok (.aload_n 0, 1) := by decide +kernel
theorem dX8_unchain_1 : decode cX8_unchain 1 = .ok (.getfield 10, 3) := by decide +kernel
theorem dX8_unchain_4 : decode cX8_unchain 4 = .ok (.iload_n 1, 1) := by decide +kernel
theorem dX8_unchain_5 : decode cX8_unchain 5 = .ok (.invokevirtual 102, 3) := by decide +kernel
theorem dX8_unchain_8 : decode cX8_unchain 8 = .ok (.ifCond .ne 7, 3) := by decide +kernel
theorem dX8_unchain_11 : decode cX8_unchain 11 = .ok (.sipush (-1001), 3) := by decide +kernel
theorem dX8_unchain_14 : decode cX8_unchain 14 = .ok (.ireturn, 1) := by decide +kernel
theorem dX8_unchain_15 : decode cX8_unchain 15 = .ok (.aload_n 0, 1) := by decide +kernel
theorem dX8_unchain_16 : decode cX8_unchain 16 = .ok (.getfield 19, 3) := by decide +kernel
theorem dX8_unchain_19 : decode cX8_unchain 19 = .ok (.getfield 167, 3) := by decide +kernel
theorem dX8_unchain_22 : decode cX8_unchain 22 = .ok (.iload_n 1, 1) := by decide +kernel
theorem dX8_unchain_23 : decode cX8_unchain 23 = .ok (.iaload, 1) := by decide +kernel
theorem dX8_unchain_24 : decode cX8_unchain 24 = .ok (.iconst (-1), 1) := by decide +kernel
theorem dX8_unchain_25 : decode cX8_unchain 25 = .ok (.if_icmp .ne 5, 3) := by decide +kernel
theorem dX8_unchain_28 : decode cX8_unchain 28 = .ok (.iconst 0, 1) := by decide +kernel
theorem dX8_unchain_29 : decode cX8_unchain 29 = .ok (.ireturn, 1) := by decide +kernel
theorem dX8_unchain_30 : decode cX8_unchain 30 = .ok (.aload_n 0, 1) := by decide +kernel
theorem dX8_unchain_31 : decode cX8_unchain 31 = .ok (.getfield 19, 3) := by decide +kernel
theorem dX8_unchain_34 : decode cX8_unchain 34 = .ok (.iload_n 1, 1) := by decide +kernel
theorem dX8_unchain_35 : decode cX8_unchain 35 = .ok (.invokevirtual 174, 3) := by decide +kernel
theorem dX8_unchain_38 : decode cX8_unchain 38 = .ok (.iconst 1, 1) := by decide +kernel
theorem dX8_unchain_39 : decode cX8_unchain 39 = .ok (.ireturn, 1) := by decide +kernel
theorem dX8_link_0 : decode cX8_link 0 = .ok (.iload_n 1, 1) := by decide +kernel
theorem dX8_link_1 : decode cX8_link 1 = .ok (.invokestatic 162, 3) := by decide +kernel
theorem dX8_link_4 : decode cX8_link 4 = .ok (.ifCond .ne 7, 3) := by decide +kernel
theorem dX8_link_7 : decode cX8_link 7 = .ok (.sipush (-1001), 3) := by decide +kernel
theorem dX8_link_10 : decode cX8_link 10 = .ok (.ireturn, 1) := by decide +kernel
theorem dX8_link_11 : decode cX8_link 11 = .ok (.iload_n 2, 1) := by decide +kernel
theorem dX8_link_12 : decode cX8_link 12 = .ok (.ifCond .lt 16, 3) := by decide +kernel
theorem dX8_link_15 : decode cX8_link 15 = .ok (.iload_n 2, 1) := by decide +kernel
theorem dX8_link_16 : decode cX8_link 16 = .ok (.aload_n 0, 1) := by decide +kernel
theorem dX8_link_17 : decode cX8_link 17 = .ok (.getfield 19, 3) := by decide +kernel
theorem dX8_link_20 : decode cX8_link 20 = .ok (.getfield 165, 3) := by decide +kernel
theorem dX8_link_23 : decode cX8_link 23 = .ok (.iload_n 1, 1) := by decide +kernel
theorem dX8_link_24 : decode cX8_link 24 = .ok (.iaload, 1) := by decide +kernel
theorem dX8_link_25 : decode cX8_link 25 = .ok (.if_icmp .lt 5, 3) := by decide +kernel
theorem dX8_link_28 : decode cX8_link 28 = .ok (.iconst (-1), 1) := by decide +kernel
theorem dX8_link_29 : decode cX8_link 29 = .ok (.ireturn, 1) := by decide +kernel
theorem dX8_link_30 : decode cX8_link 30 = .ok (.aload_n 0, 1) := by decide +kernel
theorem dX8_link_31 : decode cX8_link 31 = .ok (.getfield 19, 3) := by decide +kernel
theorem dX8_link_34 : decode cX8_link 34 = .ok (.getfield 178, 3) := by decide +kernel
theorem dX8_link_37 : decode cX8_link 37 = .ok (.iload_n 1, 1) := by decide +kernel
theorem dX8_link_38 : decode cX8_link 38 = .ok (.aaload, 1) := by decide +kernel
theorem dX8_link_39 : decode cX8_link 39 = .ok (.iload_n 2, 1) := by decide +kernel
theorem dX8_link_40 : decode cX8_link 40 = .ok (.iaload, 1) := by decide +kernel
theorem dX8_link_41 : decode cX8_link 41 = .ok (.ireturn, 1) := by decide +kernel
theorem dX8_stitch_0 : decode cX8_stitch 0 = .ok (.iconst 0, 1) := by decide +kernel
theorem dX8_stitch_1 : decode cX8_stitch 1 = .ok (.istore_n 1, 1) := by decide +kernel
theorem dX8_stitch_2 : decode cX8_stitch 2 = .ok (.iconst 0, 1) := by decide +kernel
theorem dX8_stitch_3 : decode cX8_stitch 3 = .ok (.istore_n 2, 1) := by decide +kernel
theorem dX8_stitch_4 : decode cX8_stitch 4 = .ok (.iload_n 2, 1) := by decide +kernel
theorem dX8_stitch_5 : decode cX8_stitch 5 = .ok (.aload_n 0, 1) := by decide +kernel
theorem dX8_stitch_6 : decode cX8_stitch 6 = .ok (.getfield 10, 3) := by decide +kernel
theorem dX8_stitch_9 : decode cX8_stitch 9 = .ok (.getfield 96, 3) := by decide +kernel
theorem dX8_stitch_12 : decode cX8_stitch 12 = .ok (.if_icmp .ge 55, 3) := by decide +kernel
theorem dX8_stitch_15 : decode cX8_stitch 15 = .ok (.aload_n 0, 1) := by decide +kernel
theorem dX8_stitch_16 : decode cX8_stitch 16 = .ok (.getfield 19, 3) := by decide +kernel
theorem dX8_stitch_19 : decode cX8_stitch 19 = .ok (.getfield 167, 3) := by decide +kernel
theorem dX8_stitch_22 : decode cX8_stitch 22 = .ok (.iload_n 2, 1) := by decide +kernel
theorem dX8_stitch_23 : decode cX8_stitch 23 = .ok (.iaload, 1) := by decide +kernel
theorem dX8_stitch_24 : decode cX8_stitch 24 = .ok (.iconst (-1), 1) := by decide +kernel
theorem dX8_stitch_25 : decode cX8_stitch 25 = .ok (.if_icmp .ne 36, 3) := by decide +kernel
theorem dX8_stitch_28 : decode cX8_stitch 28 = .ok (.aload_n 0, 1) := by decide +kernel
theorem dX8_stitch_29 : decode cX8_stitch 29 = .ok (.getfield 10, 3) := by decide +kernel
theorem dX8_stitch_32 : decode cX8_stitch 32 = .ok (.getfield 182, 3) := by decide +kernel
theorem dX8_stitch_35 : decode cX8_stitch 35 = .ok (.iload_n 2, 1) := by decide +kernel
theorem dX8_stitch_36 : decode cX8_stitch 36 = .ok (.iaload, 1) := by decide +kernel
