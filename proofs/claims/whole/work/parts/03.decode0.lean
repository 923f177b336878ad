theorem dX0_init_0 : decode cX0_init 0 = .ok (.aload_n 0, 1) := by decide +kernel
theorem dX0_init_1 : decode cX0_init 1 = .ok (.invokespecial 3, 3) := by decide +kernel
theorem dX0_init_4 : decode cX0_init 4 = .ok (.aload_n 0, 1) := by decide +kernel
theorem dX0_init_5 : decode cX0_init 5 = .ok (.bipush 8, 2) := by decide +kernel
theorem dX0_init_7 : decode cX0_init 7 = .ok (.newarray .int, 2) := by decide +kernel
theorem dX0_init_9 : decode cX0_init 9 = .ok (.putfield 9, 3) := by decide +kernel
theorem dX0_init_12 : decode cX0_init 12 = .ok (.aload_n 0, 1) := by decide +kernel
theorem dX0_init_13 : decode cX0_init 13 = .ok (.bipush 20, 2) := by decide +kernel
theorem dX0_init_15 : decode cX0_init 15 = .ok (.newarray .int, 2) := by decide +kernel
theorem dX0_init_17 : decode cX0_init 17 = .ok (.putfield 15, 3) := by decide +kernel
theorem dX0_init_20 : decode cX0_init 20 = .ok (.aload_n 0, 1) := by decide +kernel
theorem dX0_init_21 : decode cX0_init 21 = .ok (.bipush 80, 2) := by decide +kernel
theorem dX0_init_23 : decode cX0_init 23 = .ok (.newarray .int, 2) := by decide +kernel
theorem dX0_init_25 : decode cX0_init 25 = .ok (.putfield 18, 3) := by decide +kernel
theorem dX0_init_28 : decode cX0_init 28 = .ok (.aload_n 0, 1) := by decide +kernel
theorem dX0_init_29 : decode cX0_init 29 = .ok (.iconst (-1), 1) := by decide +kernel
theorem dX0_init_30 : decode cX0_init 30 = .ok (.putfield 21, 3) := by decide +kernel
theorem dX0_init_33 : decode cX0_init 33 = .ok (.aload_n 0, 1) := by decide +kernel
theorem dX0_init_34 : decode cX0_init 34 = .ok (.aload_n 1, 1) := by decide +kernel
theorem dX0_init_35 : decode cX0_init 35 = .ok (.putfield 25, 3) := by decide +kernel
theorem dX0_init_38 : decode cX0_init 38 = .ok (.aload_n 0, 1) := by decide +kernel
theorem dX0_init_39 : decode cX0_init 39 = .ok (.aload_n 2, 1) := by decide +kernel
theorem dX0_init_40 : decode cX0_init 40 = .ok (.putfield 29, 3) := by decide +kernel
theorem dX0_init_43 : decode cX0_init 43 = .ok (.aload_n 0, 1) := by decide +kernel
theorem dX0_init_44 : decode cX0_init 44 = .ok (.getfield 15, 3) := by decide +kernel
theorem dX0_init_47 : decode cX0_init 47 = .ok (.iconst 2, 1) := by decide +kernel
theorem dX0_init_48 : decode cX0_init 48 = .ok (.invokestatic 33, 3) := by decide +kernel
theorem dX0_init_51 : decode cX0_init 51 = .ok (.return_, 1) := by decide +kernel
theorem dX0_forgetCells_0 : decode cX0_forgetCells 0 = .ok (.aload_n 0, 1) := by decide +kernel
theorem dX0_forgetCells_1 : decode cX0_forgetCells 1 = .ok (.getfield 15, 3) := by decide +kernel
theorem dX0_forgetCells_4 : decode cX0_forgetCells 4 = .ok (.iconst 2, 1) := by decide +kernel
theorem dX0_forgetCells_5 : decode cX0_forgetCells 5 = .ok (.invokestatic 33, 3) := by decide +kernel
theorem dX0_forgetCells_8 : decode cX0_forgetCells 8 = .ok (.return_, 1) := by decide +kernel
theorem dX0_unstick_0 : decode cX0_unstick 0 = .ok (.aload_n 0, 1) := by decide +kernel
theorem dX0_unstick_1 : decode cX0_unstick 1 = .ok (.iconst (-1), 1) := by decide +kernel
theorem dX0_unstick_2 : decode cX0_unstick 2 = .ok (.putfield 21, 3) := by decide +kernel
theorem dX0_unstick_5 : decode cX0_unstick 5 = .ok (.return_, 1) := by decide +kernel
theorem dX0_stickAt_0 : decode cX0_stickAt 0 = .ok (.aload_n 0, 1) := by decide +kernel
theorem dX0_stickAt_1 : decode cX0_stickAt 1 = .ok (.iload_n 1, 1) := by decide +kernel
theorem dX0_stickAt_2 : decode cX0_stickAt 2 = .ok (.putfield 21, 3) := by decide +kernel
theorem dX0_stickAt_5 : decode cX0_stickAt 5 = .ok (.aload_n 0, 1) := by decide +kernel
theorem dX0_stickAt_6 : decode cX0_stickAt 6 = .ok (.iload_n 2, 1) := by decide +kernel
theorem dX0_stickAt_7 : decode cX0_stickAt 7 = .ok (.putfield 39, 3) := by decide +kernel
theorem dX0_stickAt_10 : decode cX0_stickAt 10 = .ok (.return_, 1) := by decide +kernel
theorem dX0_setInputs_0 : decode cX0_setInputs 0 = .ok (.iconst 0, 1) := by decide +kernel
theorem dX0_setInputs_1 : decode cX0_setInputs 1 = .ok (.istore_n 2, 1) := by decide +kernel
theorem dX0_setInputs_2 : decode cX0_setInputs 2 = .ok (.iload_n 2, 1) := by decide +kernel
theorem dX0_setInputs_3 : decode cX0_setInputs 3 = .ok (.aload_n 0, 1) := by decide +kernel
theorem dX0_setInputs_4 : decode cX0_setInputs 4 = .ok (.getfield 25, 3) := by decide +kernel
theorem dX0_setInputs_7 : decode cX0_setInputs 7 = .ok (.getfield 42, 3) := by decide +kernel
theorem dX0_setInputs_10 : decode cX0_setInputs 10 = .ok (.if_icmp .ge 20, 3) := by decide +kernel
theorem dX0_setInputs_13 : decode cX0_setInputs 13 = .ok (.aload_n 0, 1) := by decide +kernel
theorem dX0_setInputs_14 : decode cX0_setInputs 14 = .ok (.getfield 9, 3) := by decide +kernel
theorem dX0_setInputs_17 : decode cX0_setInputs 17 = .ok (.iload_n 2, 1) := by decide +kernel
theorem dX0_setInputs_18 : decode cX0_setInputs 18 = .ok (.iload_n 1, 1) := by decide +kernel
theorem dX0_setInputs_19 : decode cX0_setInputs 19 = .ok (.iload_n 2, 1) := by decide +kernel
theorem dX0_setInputs_20 : decode cX0_setInputs 20 = .ok (.ishr, 1) := by decide +kernel
theorem dX0_setInputs_21 : decode cX0_setInputs 21 = .ok (.iconst 1, 1) := by decide +kernel
theorem dX0_setInputs_22 : decode cX0_setInputs 22 = .ok (.iand, 1) := by decide +kernel
theorem dX0_setInputs_23 : decode cX0_setInputs 23 = .ok (.iastore, 1) := by decide +kernel
theorem dX0_setInputs_24 : decode cX0_setInputs 24 = .ok (.iinc 2 1, 3) := by decide +kernel
theorem dX0_setInputs_27 : decode cX0_setInputs 27 = .ok (.goto (-25), 3) := by decide +kernel
theorem dX0_setInputs_30 : decode cX0_setInputs 30 = .ok (.return_, 1) := by decide +kernel
theorem dX0_setCells_0 : decode cX0_setCells 0 = .ok (.iconst 0, 1) := by decide +kernel
theorem dX0_setCells_1 : decode cX0_setCells 1 = .ok (.istore_n 2, 1) := by decide +kernel
theorem dX0_setCells_2 : decode cX0_setCells 2 = .ok (.iload_n 2, 1) := by decide +kernel
theorem dX0_setCells_3 : decode cX0_setCells 3 = .ok (.aload_n 0, 1) := by decide +kernel
theorem dX0_setCells_4 : decode cX0_setCells 4 = .ok (.getfield 25, 3) := by decide +kernel
theorem dX0_setCells_7 : decode cX0_setCells 7 = .ok (.getfield 47, 3) := by decide +kernel
theorem dX0_setCells_10 : decode cX0_setCells 10 = .ok (.if_icmp .ge 20, 3) := by decide +kernel
theorem dX0_setCells_13 : decode cX0_setCells 13 = .ok (.aload_n 0, 1) := by decide +kernel
theorem dX0_setCells_14 : decode cX0_setCells 14 = .ok (.getfield 15, 3) := by decide +kernel
theorem dX0_setCells_17 : decode cX0_setCells 17 = .ok (.iload_n 2, 1) := by decide +kernel
theorem dX0_setCells_18 : decode cX0_setCells 18 = .ok (.iload_n 1, 1) := by decide +kernel
theorem dX0_setCells_19 : decode cX0_setCells 19 = .ok (.iload_n 2, 1) := by decide +kernel
theorem dX0_setCells_20 : decode cX0_setCells 20 = .ok (.ishr, 1) := by decide +kernel
theorem dX0_setCells_21 : decode cX0_setCells 21 = .ok (.iconst 1, 1) := by decide +kernel
theorem dX0_setCells_22 : decode cX0_setCells 22 = .ok (.iand, 1) := by decide +kernel
theorem dX0_setCells_23 : decode cX0_setCells 23 = .ok (.iastore, 1) := by decide +kernel
theorem dX0_setCells_24 : decode cX0_setCells 24 = .ok (.iinc 2 1, 3) := by decide +kernel
theorem dX0_setCells_27 : decode cX0_setCells 27 = .ok (.goto (-25), 3) := by decide +kernel
theorem dX0_setCells_30 : decode cX0_setCells 30 = .ok (.return_, 1) := by decide +kernel
theorem dX0_valueOf_0 : decode cX0_valueOf 0 = .ok (.aload_n 0, 1) := by decide +kernel
theorem dX0_valueOf_1 : decode cX0_valueOf 1 = .ok (.iload_n 1, 1) := by decide +kernel
theorem dX0_valueOf_2 : decode cX0_valueOf 2 = .ok (.iconst 1, 1) := by decide +kernel
theorem dX0_valueOf_3 : decode cX0_valueOf 3 = .ok (.iadd, 1) := by decide +kernel
theorem dX0_valueOf_4 : decode cX0_valueOf 4 = .ok (.invokevirtual 50, 3) := by decide +kernel
theorem dX0_valueOf_7 : decode cX0_valueOf 7 = .ok (.aload_n 0, 1) := by decide +kernel
theorem dX0_valueOf_8 : decode cX0_valueOf 8 = .ok (.getfield 18, 3) := by decide +kernel
theorem dX0_valueOf_11 : decode cX0_valueOf 11 = .ok (.iload_n 1, 1) := by decide +kernel
theorem dX0_valueOf_12 : decode cX0_valueOf 12 = .ok (.iaload, 1) := by decide +kernel
theorem dX0_valueOf_13 : decode cX0_valueOf 13 = .ok (.ireturn, 1) := by decide +kernel
theorem dX0_settle_0 : decode cX0_settle 0 = .ok (.iconst 0, 1) := by decide +kernel
theorem dX0_settle_1 : decode cX0_settle 1 = .ok (.istore_n 2, 1) := by decide +kernel
theorem dX0_settle_2 : decode cX0_settle 2 = .ok (.iload_n 2, 1) := by decide +kernel
theorem dX0_settle_3 : decode cX0_settle 3 = .ok (.iload_n 1, 1) := by decide +kernel
theorem dX0_settle_4 : decode cX0_settle 4 = .ok (.if_icmp .ge 107, 3) := by decide +kernel
theorem dX0_settle_7 : decode cX0_settle 7 = .ok (.aload_n 0, 1) := by decide +kernel
theorem dX0_settle_8 : decode cX0_settle 8 = .ok (.getfield 25, 3) := by decide +kernel
theorem dX0_settle_11 : decode cX0_settle 11 = .ok (.getfield 54, 3) := by decide +kernel
theorem dX0_settle_14 : decode cX0_settle 14 = .ok (.iload_n 2, 1) := by decide +kernel
theorem dX0_settle_15 : decode cX0_settle 15 = .ok (.iaload, 1) := by decide +kernel
theorem dX0_settle_16 : decode cX0_settle 16 = .ok (.istore_n 3, 1) := by decide +kernel
theorem dX0_settle_17 : decode cX0_settle 17 = .ok (.iload_n 2, 1) := by decide +kernel
theorem dX0_settle_18 : decode cX0_settle 18 = .ok (.aload_n 0, 1) := by decide +kernel
theorem dX0_settle_19 : decode cX0_settle 19 = .ok (.getfield 21, 3) := by decide +kernel
theorem dX0_settle_22 : decode cX0_settle 22 = .ok (.if_icmp .ne 16, 3) := by decide +kernel
theorem dX0_settle_25 : decode cX0_settle 25 = .ok (.aload_n 0, 1) := by decide +kernel
theorem dX0_settle_26 : decode cX0_settle 26 = .ok (.getfield 18, 3) := by decide +kernel
theorem dX0_settle_29 : decode cX0_settle 29 = .ok (.iload_n 2, 1) := by decide +kernel
theorem dX0_settle_30 : decode cX0_settle 30 = .ok (.aload_n 0, 1) := by decide +kernel
theorem dX0_settle_31 : decode cX0_settle 31 = .ok (.getfield 39, 3) := by decide +kernel
theorem dX0_settle_34 : decode cX0_settle 34 = .ok (.iastore, 1) := by decide +kernel
theorem dX0_settle_35 : decode cX0_settle 35 = .ok (.goto 70, 3) := by decide +kernel
theorem dX0_settle_38 : decode cX0_settle 38 = .ok (.aload_n 0, 1) := by decide +kernel
theorem dX0_settle_39 : decode cX0_settle 39 = .ok (.getfield 25, 3) := by decide +kernel
theorem dX0_settle_42 : decode cX0_settle 42 = .ok (.getfield 57, 3) := by decide +kernel
theorem dX0_settle_45 : decode cX0_settle 45 = .ok (.iload_n 2, 1) := by decide +kernel
theorem dX0_settle_46 : decode cX0_settle 46 = .ok (.iaload, 1) := by decide +kernel
theorem dX0_settle_47 : decode cX0_settle 47 = .ok (.ifCond .ne 18, 3) := by decide +kernel
theorem dX0_settle_50 : decode cX0_settle 50 = .ok (.aload_n 0, 1) := by decide +kernel
theorem dX0_settle_51 : decode cX0_settle 51 = .ok (.getfield 18, 3) := by decide +kernel
theorem dX0_settle_54 : decode cX0_settle 54 = .ok (.iload_n 2, 1) := by decide +kernel
theorem dX0_settle_55 : decode cX0_settle 55 = .ok (.aload_n 0, 1) := by decide +kernel
theorem dX0_settle_56 : decode cX0_settle 56 = .ok (.getfield 9, 3) := by decide +kernel
theorem dX0_settle_59 : decode cX0_settle 59 = .ok (.iload_n 3, 1) := by decide +kernel
theorem dX0_settle_60 : decode cX0_settle 60 = .ok (.iaload, 1) := by decide +kernel
theorem dX0_settle_61 : decode cX0_settle 61 = .ok (.iastore, 1) := by decide +kernel
theorem dX0_settle_62 : decode cX0_settle 62 = .ok (.goto 43, 3) := by decide +kernel
theorem dX0_settle_65 : decode cX0_settle 65 = .ok (.aload_n 0, 1) := by decide +kernel
theorem dX0_settle_66 : decode cX0_settle 66 = .ok (.getfield 25, 3) := by decide +kernel
theorem dX0_settle_69 : decode cX0_settle 69 = .ok (.getfield 57, 3) := by decide +kernel
theorem dX0_settle_72 : decode cX0_settle 72 = .ok (.iload_n 2, 1) := by decide +kernel
theorem dX0_settle_73 : decode cX0_settle 73 = .ok (.iaload, 1) := by decide +kernel
theorem dX0_settle_74 : decode cX0_settle 74 = .ok (.iconst 2, 1) := by decide +kernel
theorem dX0_settle_75 : decode cX0_settle 75 = .ok (.if_icmp .ne 18, 3) := by decide +kernel
theorem dX0_settle_78 : decode cX0_settle 78 = .ok (.aload_n 0, 1) := by decide +kernel
theorem dX0_settle_79 : decode cX0_settle 79 = .ok (.getfield 18, 3) := by decide +kernel
theorem dX0_settle_82 : decode cX0_settle 82 = .ok (.iload_n 2, 1) := by decide +kernel
theorem dX0_settle_83 : decode cX0_settle 83 = .ok (.aload_n 0, 1) := by decide +kernel
theorem dX0_settle_84 : decode cX0_settle 84 = .ok (.getfield 15, 3) := by decide +kernel
theorem dX0_settle_87 : decode cX0_settle 87 = .ok (.iload_n 3, 1) := by decide +kernel
theorem dX0_settle_88 : decode cX0_settle 88 = .ok (.iaload, 1) := by decide +kernel
theorem dX0_settle_89 : decode cX0_settle 89 = .ok (.iastore, 1) := by decide +kernel
theorem dX0_settle_90 : decode cX0_settle 90 = .ok (.goto 15, 3) := by decide +kernel
theorem dX0_settle_93 : decode cX0_settle 93 = .ok (.aload_n 0, 1) := by decide +kernel
theorem dX0_settle_94 : decode cX0_settle 94 = .ok (.getfield 18, 3) := by decide +kernel
theorem dX0_settle_97 : decode cX0_settle 97 = .ok (.iload_n 2, 1) := by decide +kernel
theorem dX0_settle_98 : decode cX0_settle 98 = .ok (.aload_n 0, 1) := by decide +kernel
theorem dX0_settle_99 : decode cX0_settle 99 = .ok (.iload_n 2, 1) := by decide +kernel
theorem dX0_settle_100 : decode cX0_settle 100 = .ok (.iload_n 3, 1) := by decide +kernel
theorem dX0_settle_101 : decode cX0_settle 101 = .ok (.invokevirtual 60, 3) := by decide +kernel
theorem dX0_settle_104 : decode cX0_settle 104 = .ok (.iastore, 1) := by decide +kernel
theorem dX0_settle_105 : decode cX0_settle 105 = .ok (.iinc 2 1, 3) := by decide +kernel
theorem dX0_settle_108 : decode cX0_settle 108 = .ok (.goto (-106), 3) := by decide +kernel
theorem dX0_settle_111 : decode cX0_settle 111 = .ok (.return_, 1) := by decide +kernel
theorem dX0_clockCells_0 : decode cX0_clockCells 0 = .ok (.aload_n 0, 1) := by decide +kernel
theorem dX0_clockCells_1 : decode cX0_clockCells 1 = .ok (.aload_n 0, 1) := by decide +kernel
theorem dX0_clockCells_2 : decode cX0_clockCells 2 = .ok (.getfield 25, 3) := by decide +kernel
theorem dX0_clockCells_5 : decode cX0_clockCells 5 = .ok (.getfield 64, 3) := by decide +kernel
theorem dX0_clockCells_8 : decode cX0_clockCells 8 = .ok (.invokevirtual 50, 3) := by decide +kernel
theorem dX0_clockCells_11 : decode cX0_clockCells 11 = .ok (.iconst 0, 1) := by decide +kernel
theorem dX0_clockCells_12 : decode cX0_clockCells 12 = .ok (.istore_n 2, 1) := by decide +kernel
theorem dX0_clockCells_13 : decode cX0_clockCells 13 = .ok (.iconst 0, 1) := by decide +kernel
theorem dX0_clockCells_14 : decode cX0_clockCells 14 = .ok (.istore_n 3, 1) := by decide +kernel
theorem dX0_clockCells_15 : decode cX0_clockCells 15 = .ok (.iload_n 3, 1) := by decide +kernel
theorem dX0_clockCells_16 : decode cX0_clockCells 16 = .ok (.aload_n 0, 1) := by decide +kernel
theorem dX0_clockCells_17 : decode cX0_clockCells 17 = .ok (.getfield 25, 3) := by decide +kernel
theorem dX0_clockCells_20 : decode cX0_clockCells 20 = .ok (.getfield 47, 3) := by decide +kernel
theorem dX0_clockCells_23 : decode cX0_clockCells 23 = .ok (.if_icmp .ge 49, 3) := by decide +kernel
theorem dX0_clockCells_26 : decode cX0_clockCells 26 = .ok (.iload_n 1, 1) := by decide +kernel
theorem dX0_clockCells_27 : decode cX0_clockCells 27 = .ok (.aload_n 0, 1) := by decide +kernel
theorem dX0_clockCells_28 : decode cX0_clockCells 28 = .ok (.getfield 25, 3) := by decide +kernel
theorem dX0_clockCells_31 : decode cX0_clockCells 31 = .ok (.getfield 67, 3) := by decide +kernel
theorem dX0_clockCells_34 : decode cX0_clockCells 34 = .ok (.iload_n 3, 1) := by decide +kernel
theorem dX0_clockCells_35 : decode cX0_clockCells 35 = .ok (.iaload, 1) := by decide +kernel
theorem dX0_clockCells_36 : decode cX0_clockCells 36 = .ok (.ishr, 1) := by decide +kernel
theorem dX0_clockCells_37 : decode cX0_clockCells 37 = .ok (.iconst 1, 1) := by decide +kernel
theorem dX0_clockCells_38 : decode cX0_clockCells 38 = .ok (.iand, 1) := by decide +kernel
theorem dX0_clockCells_39 : decode cX0_clockCells 39 = .ok (.iconst 1, 1) := by decide +kernel
theorem dX0_clockCells_40 : decode cX0_clockCells 40 = .ok (.if_icmp .ne 26, 3) := by decide +kernel
theorem dX0_clockCells_43 : decode cX0_clockCells 43 = .ok (.aload_n 0, 1) := by decide +kernel
theorem dX0_clockCells_44 : decode cX0_clockCells 44 = .ok (.getfield 15, 3) := by decide +kernel
theorem dX0_clockCells_47 : decode cX0_clockCells 47 = .ok (.iload_n 3, 1) := by decide +kernel
theorem dX0_clockCells_48 : decode cX0_clockCells 48 = .ok (.aload_n 0, 1) := by decide +kernel
theorem dX0_clockCells_49 : decode cX0_clockCells 49 = .ok (.getfield 18, 3) := by decide +kernel
theorem dX0_clockCells_52 : decode cX0_clockCells 52 = .ok (.aload_n 0, 1) := by decide +kernel
theorem dX0_clockCells_53 : decode cX0_clockCells 53 = .ok (.getfield 25, 3) := by decide +kernel
theorem dX0_clockCells_56 : decode cX0_clockCells 56 = .ok (.getfield 70, 3) := by decide +kernel
theorem dX0_clockCells_59 : decode cX0_clockCells 59 = .ok (.iload_n 3, 1) := by decide +kernel
theorem dX0_clockCells_60 : decode cX0_clockCells 60 = .ok (.iaload, 1) := by decide +kernel
theorem dX0_clockCells_61 : decode cX0_clockCells 61 = .ok (.iaload, 1) := by decide +kernel
theorem dX0_clockCells_62 : decode cX0_clockCells 62 = .ok (.iastore, 1) := by decide +kernel
theorem dX0_clockCells_63 : decode cX0_clockCells 63 = .ok (.iinc 2 1, 3) := by decide +kernel
theorem dX0_clockCells_66 : decode cX0_clockCells 66 = .ok (.iinc 3 1, 3) := by decide +kernel
theorem dX0_clockCells_69 : decode cX0_clockCells 69 = .ok (.goto (-54), 3) := by decide +kernel
theorem dX0_clockCells_72 : decode cX0_clockCells 72 = .ok (.iload_n 2, 1) := by decide +kernel
theorem dX0_clockCells_73 : decode cX0_clockCells 73 = .ok (.ireturn, 1) := by decide +kernel
theorem dX0_shiftChain_0 : decode cX0_shiftChain 0 = .ok (.aload_n 0, 1) := by decide +kernel
theorem dX0_shiftChain_1 : decode cX0_shiftChain 1 = .ok (.getfield 29, 3) := by decide +kernel
theorem dX0_shiftChain_4 : decode cX0_shiftChain 4 = .ok (.getfield 73, 3) := by decide +kernel
theorem dX0_shiftChain_7 : decode cX0_shiftChain 7 = .ok (.iload_n 1, 1) := by decide +kernel
theorem dX0_shiftChain_8 : decode cX0_shiftChain 8 = .ok (.aaload, 1) := by decide +kernel
theorem dX0_shiftChain_9 : decode cX0_shiftChain 9 = .ok (.astore_n 3, 1) := by decide +kernel
theorem dX0_shiftChain_10 : decode cX0_shiftChain 10 = .ok (.iload_n 2, 1) := by decide +kernel
theorem dX0_shiftChain_11 : decode cX0_shiftChain 11 = .ok (.istore 4, 2) := by decide +kernel
theorem dX0_shiftChain_13 : decode cX0_shiftChain 13 = .ok (.iconst 0, 1) := by decide +kernel
theorem dX0_shiftChain_14 : decode cX0_shiftChain 14 = .ok (.istore 5, 2) := by decide +kernel
theorem dX0_shiftChain_16 : decode cX0_shiftChain 16 = .ok (.iload 5, 2) := by decide +kernel
theorem dX0_shiftChain_18 : decode cX0_shiftChain 18 = .ok (.aload_n 0, 1) := by decide +kernel
theorem dX0_shiftChain_19 : decode cX0_shiftChain 19 = .ok (.getfield 29, 3) := by decide +kernel
theorem dX0_shiftChain_22 : decode cX0_shiftChain 22 = .ok (.getfield 79, 3) := by decide +kernel
theorem dX0_shiftChain_25 : decode cX0_shiftChain 25 = .ok (.iload_n 1, 1) := by decide +kernel
theorem dX0_shiftChain_26 : decode cX0_shiftChain 26 = .ok (.iaload, 1) := by decide +kernel
theorem dX0_shiftChain_27 : decode cX0_shiftChain 27 = .ok (.if_icmp .ge 83, 3) := by decide +kernel
theorem dX0_shiftChain_30 : decode cX0_shiftChain 30 = .ok (.aload_n 3, 1) := by decide +kernel
theorem dX0_shiftChain_31 : decode cX0_shiftChain 31 = .ok (.iload 5, 2) := by decide +kernel
theorem dX0_shiftChain_33 : decode cX0_shiftChain 33 = .ok (.iaload, 1) := by decide +kernel
theorem dX0_shiftChain_34 : decode cX0_shiftChain 34 = .ok (.istore 6, 2) := by decide +kernel
theorem dX0_shiftChain_36 : decode cX0_shiftChain 36 = .ok (.aload_n 0, 1) := by decide +kernel
theorem dX0_shiftChain_37 : decode cX0_shiftChain 37 = .ok (.getfield 25, 3) := by decide +kernel
theorem dX0_shiftChain_40 : decode cX0_shiftChain 40 = .ok (.getfield 82, 3) := by decide +kernel
theorem dX0_shiftChain_43 : decode cX0_shiftChain 43 = .ok (.iload 6, 2) := by decide +kernel
theorem dX0_shiftChain_45 : decode cX0_shiftChain 45 = .ok (.iaload, 1) := by decide +kernel
theorem dX0_shiftChain_46 : decode cX0_shiftChain 46 = .ok (.aload_n 0, 1) := by decide +kernel
theorem dX0_shiftChain_47 : decode cX0_shiftChain 47 = .ok (.getfield 21, 3) := by decide +kernel
theorem dX0_shiftChain_50 : decode cX0_shiftChain 50 = .ok (.if_icmp .ne 10, 3) := by decide +kernel
theorem dX0_shiftChain_53 : decode cX0_shiftChain 53 = .ok (.aload_n 0, 1) := by decide +kernel
theorem dX0_shiftChain_54 : decode cX0_shiftChain 54 = .ok (.getfield 39, 3) := by decide +kernel
theorem dX0_shiftChain_57 : decode cX0_shiftChain 57 = .ok (.goto 10, 3) := by decide +kernel
theorem dX0_shiftChain_60 : decode cX0_shiftChain 60 = .ok (.aload_n 0, 1) := by decide +kernel
theorem dX0_shiftChain_61 : decode cX0_shiftChain 61 = .ok (.getfield 15, 3) := by decide +kernel
theorem dX0_shiftChain_64 : decode cX0_shiftChain 64 = .ok (.iload 6, 2) := by decide +kernel
theorem dX0_shiftChain_66 : decode cX0_shiftChain 66 = .ok (.iaload, 1) := by decide +kernel
theorem dX0_shiftChain_67 : decode cX0_shiftChain 67 = .ok (.istore 7, 2) := by decide +kernel
theorem dX0_shiftChain_69 : decode cX0_shiftChain 69 = .ok (.aload_n 0, 1) := by decide +kernel
theorem dX0_shiftChain_70 : decode cX0_shiftChain 70 = .ok (.getfield 15, 3) := by decide +kernel
theorem dX0_shiftChain_73 : decode cX0_shiftChain 73 = .ok (.iload 6, 2) := by decide +kernel
theorem dX0_shiftChain_75 : decode cX0_shiftChain 75 = .ok (.aload_n 0, 1) := by decide +kernel
theorem dX0_shiftChain_76 : decode cX0_shiftChain 76 = .ok (.getfield 29, 3) := by decide +kernel
theorem dX0_shiftChain_79 : decode cX0_shiftChain 79 = .ok (.getfield 85, 3) := by decide +kernel
theorem dX0_shiftChain_82 : decode cX0_shiftChain 82 = .ok (.iload 6, 2) := by decide +kernel
theorem dX0_shiftChain_84 : decode cX0_shiftChain 84 = .ok (.baload, 1) := by decide +kernel
theorem dX0_shiftChain_85 : decode cX0_shiftChain 85 = .ok (.ifCond .eq 12, 3) := by decide +kernel
theorem dX0_shiftChain_88 : decode cX0_shiftChain 88 = .ok (.getstatic 89, 3) := by decide +kernel
theorem dX0_shiftChain_91 : decode cX0_shiftChain 91 = .ok (.iload 4, 2) := by decide +kernel
theorem dX0_shiftChain_93 : decode cX0_shiftChain 93 = .ok (.iaload, 1) := by decide +kernel
theorem dX0_shiftChain_94 : decode cX0_shiftChain 94 = .ok (.goto 5, 3) := by decide +kernel
theorem dX0_shiftChain_97 : decode cX0_shiftChain 97 = .ok (.iload 4, 2) := by decide +kernel
theorem dX0_shiftChain_99 : decode cX0_shiftChain 99 = .ok (.iastore, 1) := by decide +kernel
theorem dX0_shiftChain_100 : decode cX0_shiftChain 100 = .ok (.iload 7, 2) := by decide +kernel
theorem dX0_shiftChain_102 : decode cX0_shiftChain 102 = .ok (.istore 4, 2) := by decide +kernel
theorem dX0_shiftChain_104 : decode cX0_shiftChain 104 = .ok (.iinc 5 1, 3) := by decide +kernel
theorem dX0_shiftChain_107 : decode cX0_shiftChain 107 = .ok (.goto (-91), 3) := by decide +kernel
theorem dX0_shiftChain_110 : decode cX0_shiftChain 110 = .ok (.iload 4, 2) := by decide +kernel
theorem dX0_shiftChain_112 : decode cX0_shiftChain 112 = .ok (.ireturn, 1) := by decide +kernel
theorem dX0_gateValue_0 : decode cX0_gateValue 0 = .ok (.aload_n 0, 1) := by decide +kernel
theorem dX0_gateValue_1 : decode cX0_gateValue 1 = .ok (.getfield 18, 3) := by decide +kernel
theorem dX0_gateValue_4 : decode cX0_gateValue 4 = .ok (.aload_n 0, 1) := by decide +kernel
theorem dX0_gateValue_5 : decode cX0_gateValue 5 = .ok (.getfield 25, 3) := by decide +kernel
theorem dX0_gateValue_8 : decode cX0_gateValue 8 = .ok (.getfield 92, 3) := by decide +kernel
theorem dX0_gateValue_11 : decode cX0_gateValue 11 = .ok (.iload_n 1, 1) := by decide +kernel
theorem dX0_gateValue_12 : decode cX0_gateValue 12 = .ok (.iaload, 1) := by decide +kernel
theorem dX0_gateValue_13 : decode cX0_gateValue 13 = .ok (.iaload, 1) := by decide +kernel
theorem dX0_gateValue_14 : decode cX0_gateValue 14 = .ok (.istore_n 3, 1) := by decide +kernel
theorem dX0_gateValue_15 : decode cX0_gateValue 15 = .ok (.iload_n 2, 1) := by decide +kernel
theorem dX0_gateValue_16 : decode cX0_gateValue 16 = .ok (.iconst 3, 1) := by decide +kernel
theorem dX0_gateValue_17 : decode cX0_gateValue 17 = .ok (.if_icmp .ne 9, 3) := by decide +kernel
theorem dX0_gateValue_20 : decode cX0_gateValue 20 = .ok (.getstatic 89, 3) := by decide +kernel
theorem dX0_gateValue_23 : decode cX0_gateValue 23 = .ok (.iload_n 3, 1) := by decide +kernel
theorem dX0_gateValue_24 : decode cX0_gateValue 24 = .ok (.iaload, 1) := by decide +kernel
theorem dX0_gateValue_25 : decode cX0_gateValue 25 = .ok (.ireturn, 1) := by decide +kernel
theorem dX0_gateValue_26 : decode cX0_gateValue 26 = .ok (.aload_n 0, 1) := by decide +kernel
theorem dX0_gateValue_27 : decode cX0_gateValue 27 = .ok (.getfield 18, 3) := by decide +kernel
theorem dX0_gateValue_30 : decode cX0_gateValue 30 = .ok (.aload_n 0, 1) := by decide +kernel
theorem dX0_gateValue_31 : decode cX0_gateValue 31 = .ok (.getfield 25, 3) := by decide +kernel
theorem dX0_gateValue_34 : decode cX0_gateValue 34 = .ok (.getfield 95, 3) := by decide +kernel
theorem dX0_gateValue_37 : decode cX0_gateValue 37 = .ok (.iload_n 1, 1) := by decide +kernel
theorem dX0_gateValue_38 : decode cX0_gateValue 38 = .ok (.iaload, 1) := by decide +kernel
theorem dX0_gateValue_39 : decode cX0_gateValue 39 = .ok (.iaload, 1) := by decide +kernel
theorem dX0_gateValue_40 : decode cX0_gateValue 40 = .ok (.istore 4, 2) := by decide +kernel
theorem dX0_gateValue_42 : decode cX0_gateValue 42 = .ok (.iload_n 2, 1) := by decide +kernel
theorem dX0_gateValue_43 : decode cX0_gateValue 43 = .ok (.tableswitch 104 0 6 #[41, 52, 63, 104, 104, 74, 89], 41) := by decide +kernel
theorem dX0_gateValue_84 : decode cX0_gateValue 84 = .ok (.getstatic 98, 3) := by decide +kernel
theorem dX0_gateValue_87 : decode cX0_gateValue 87 = .ok (.iconst 3, 1) := by decide +kernel
theorem dX0_gateValue_88 : decode cX0_gateValue 88 = .ok (.iload_n 3, 1) := by decide +kernel
theorem dX0_gateValue_89 : decode cX0_gateValue 89 = .ok (.imul, 1) := by decide +kernel
theorem dX0_gateValue_90 : decode cX0_gateValue 90 = .ok (.iload 4, 2) := by decide +kernel
theorem dX0_gateValue_92 : decode cX0_gateValue 92 = .ok (.iadd, 1) := by decide +kernel
theorem dX0_gateValue_93 : decode cX0_gateValue 93 = .ok (.iaload, 1) := by decide +kernel
theorem dX0_gateValue_94 : decode cX0_gateValue 94 = .ok (.ireturn, 1) := by decide +kernel
theorem dX0_gateValue_95 : decode cX0_gateValue 95 = .ok (.getstatic 101, 3) := by decide +kernel
theorem dX0_gateValue_98 : decode cX0_gateValue 98 = .ok (.iconst 3, 1) := by decide +kernel
theorem dX0_gateValue_99 : decode cX0_gateValue 99 = .ok (.iload_n 3, 1) := by decide +kernel
theorem dX0_gateValue_100 : decode cX0_gateValue 100 = .ok (.imul, 1) := by decide +kernel
theorem dX0_gateValue_101 : decode cX0_gateValue 101 = .ok (.iload 4, 2) := by decide +kernel
theorem dX0_gateValue_103 : decode cX0_gateValue 103 = .ok (.iadd, 1) := by decide +kernel
theorem dX0_gateValue_104 : decode cX0_gateValue 104 = .ok (.iaload, 1) := by decide +kernel
theorem dX0_gateValue_105 : decode cX0_gateValue 105 = .ok (.ireturn, 1) := by decide +kernel
theorem dX0_gateValue_106 : decode cX0_gateValue 106 = .ok (.getstatic 104, 3) := by decide +kernel
theorem dX0_gateValue_109 : decode cX0_gateValue 109 = .ok (.iconst 3, 1) := by decide +kernel
theorem dX0_gateValue_110 : decode cX0_gateValue 110 = .ok (.iload_n 3, 1) := by decide +kernel
theorem dX0_gateValue_111 : decode cX0_gateValue 111 = .ok (.imul, 1) := by decide +kernel
theorem dX0_gateValue_112 : decode cX0_gateValue 112 = .ok (.iload 4, 2) := by decide +kernel
theorem dX0_gateValue_114 : decode cX0_gateValue 114 = .ok (.iadd, 1) := by decide +kernel
theorem dX0_gateValue_115 : decode cX0_gateValue 115 = .ok (.iaload, 1) := by decide +kernel
theorem dX0_gateValue_116 : decode cX0_gateValue 116 = .ok (.ireturn, 1) := by decide +kernel
theorem dX0_gateValue_117 : decode cX0_gateValue 117 = .ok (.getstatic 89, 3) := by decide +kernel
theorem dX0_gateValue_120 : decode cX0_gateValue 120 = .ok (.getstatic 98, 3) := by decide +kernel
theorem dX0_gateValue_123 : decode cX0_gateValue 123 = .ok (.iconst 3, 1) := by decide +kernel
theorem dX0_gateValue_124 : decode cX0_gateValue 124 = .ok (.iload_n 3, 1) := by decide +kernel
theorem dX0_gateValue_125 : decode cX0_gateValue 125 = .ok (.imul, 1) := by decide +kernel
theorem dX0_gateValue_126 : decode cX0_gateValue 126 = .ok (.iload 4, 2) := by decide +kernel
theorem dX0_gateValue_128 : decode cX0_gateValue 128 = .ok (.iadd, 1) := by decide +kernel
theorem dX0_gateValue_129 : decode cX0_gateValue 129 = .ok (.iaload, 1) := by decide +kernel
theorem dX0_gateValue_130 : decode cX0_gateValue 130 = .ok (.iaload, 1) := by decide +kernel
theorem dX0_gateValue_131 : decode cX0_gateValue 131 = .ok (.ireturn, 1) := by decide +kernel
theorem dX0_gateValue_132 : decode cX0_gateValue 132 = .ok (.getstatic 89, 3) := by decide +kernel
theorem dX0_gateValue_135 : decode cX0_gateValue 135 = .ok (.getstatic 101, 3) := by decide +kernel
theorem dX0_gateValue_138 : decode cX0_gateValue 138 = .ok (.iconst 3, 1) := by decide +kernel
theorem dX0_gateValue_139 : decode cX0_gateValue 139 = .ok (.iload_n 3, 1) := by decide +kernel
theorem dX0_gateValue_140 : decode cX0_gateValue 140 = .ok (.imul, 1) := by decide +kernel
theorem dX0_gateValue_141 : decode cX0_gateValue 141 = .ok (.iload 4, 2) := by decide +kernel
theorem dX0_gateValue_143 : decode cX0_gateValue 143 = .ok (.iadd, 1) := by decide +kernel
theorem dX0_gateValue_144 : decode cX0_gateValue 144 = .ok (.iaload, 1) := by decide +kernel
theorem dX0_gateValue_145 : decode cX0_gateValue 145 = .ok (.iaload, 1) := by decide +kernel
theorem dX0_gateValue_146 : decode cX0_gateValue 146 = .ok (.ireturn, 1) := by decide +kernel
theorem dX0_gateValue_147 : decode cX0_gateValue 147 = .ok (.aload_n 0, 1) := by decide +kernel
theorem dX0_gateValue_148 : decode cX0_gateValue 148 = .ok (.getfield 18, 3) := by decide +kernel
theorem dX0_gateValue_151 : decode cX0_gateValue 151 = .ok (.aload_n 0, 1) := by decide +kernel
theorem dX0_gateValue_152 : decode cX0_gateValue 152 = .ok (.getfield 25, 3) := by decide +kernel
theorem dX0_gateValue_155 : decode cX0_gateValue 155 = .ok (.getfield 107, 3) := by decide +kernel
theorem dX0_gateValue_158 : decode cX0_gateValue 158 = .ok (.iload_n 1, 1) := by decide +kernel
theorem dX0_gateValue_159 : decode cX0_gateValue 159 = .ok (.iaload, 1) := by decide +kernel
theorem dX0_gateValue_160 : decode cX0_gateValue 160 = .ok (.iaload, 1) := by decide +kernel
theorem dX0_gateValue_161 : decode cX0_gateValue 161 = .ok (.istore 5, 2) := by decide +kernel
theorem dX0_gateValue_163 : decode cX0_gateValue 163 = .ok (.iload_n 3, 1) := by decide +kernel
theorem dX0_gateValue_164 : decode cX0_gateValue 164 = .ok (.iconst 2, 1) := by decide +kernel
theorem dX0_gateValue_165 : decode cX0_gateValue 165 = .ok (.if_icmp .ne 17, 3) := by decide +kernel
theorem dX0_gateValue_168 : decode cX0_gateValue 168 = .ok (.iload 4, 2) := by decide +kernel
theorem dX0_gateValue_170 : decode cX0_gateValue 170 = .ok (.iload 5, 2) := by decide +kernel
theorem dX0_gateValue_172 : decode cX0_gateValue 172 = .ok (.if_icmp .ne 8, 3) := by decide +kernel
theorem dX0_gateValue_175 : decode cX0_gateValue 175 = .ok (.iload 4, 2) := by decide +kernel
theorem dX0_gateValue_177 : decode cX0_gateValue 177 = .ok (.goto 4, 3) := by decide +kernel
theorem dX0_gateValue_180 : decode cX0_gateValue 180 = .ok (.iconst 2, 1) := by decide +kernel
theorem dX0_gateValue_181 : decode cX0_gateValue 181 = .ok (.ireturn, 1) := by decide +kernel
theorem dX0_gateValue_182 : decode cX0_gateValue 182 = .ok (.iload_n 3, 1) := by decide +kernel
theorem dX0_gateValue_183 : decode cX0_gateValue 183 = .ok (.ifCond .ne 8, 3) := by decide +kernel
theorem dX0_gateValue_186 : decode cX0_gateValue 186 = .ok (.iload 4, 2) := by decide +kernel
theorem dX0_gateValue_188 : decode cX0_gateValue 188 = .ok (.goto 5, 3) := by decide +kernel
theorem dX0_gateValue_191 : decode cX0_gateValue 191 = .ok (.iload 5, 2) := by decide +kernel
theorem dX0_gateValue_193 : decode cX0_gateValue 193 = .ok (.ireturn, 1) := by decide +kernel
theorem dX1_init_0 : decode cX1_init 0 = .ok (.aload_n 0, 1) := by decide +kernel
theorem dX1_init_1 : decode cX1_init 1 = .ok (.invokespecial 3, 3) := by decide +kernel
theorem dX1_init_4 : decode cX1_init 4 = .ok (.aload_n 0, 1) := by decide +kernel
theorem dX1_init_5 : decode cX1_init 5 = .ok (.iconst 3, 1) := by decide +kernel
theorem dX1_init_6 : decode cX1_init 6 = .ok (.bipush 20, 2) := by decide +kernel
theorem dX1_init_8 : decode cX1_init 8 = .ok (.multianewarray 9 2, 4) := by decide +kernel
theorem dX1_init_12 : decode cX1_init 12 = .ok (.putfield 11, 3) := by decide +kernel
theorem dX1_init_15 : decode cX1_init 15 = .ok (.aload_n 0, 1) := by decide +kernel
theorem dX1_init_16 : decode cX1_init 16 = .ok (.iconst 3, 1) := by decide +kernel
theorem dX1_init_17 : decode cX1_init 17 = .ok (.newarray .int, 2) := by decide +kernel
theorem dX1_init_19 : decode cX1_init 19 = .ok (.putfield 16, 3) := by decide +kernel
theorem dX1_init_22 : decode cX1_init 22 = .ok (.aload_n 0, 1) := by decide +kernel
theorem dX1_init_23 : decode cX1_init 23 = .ok (.bipush 20, 2) := by decide +kernel
theorem dX1_init_25 : decode cX1_init 25 = .ok (.newarray .int, 2) := by decide +kernel
theorem dX1_init_27 : decode cX1_init 27 = .ok (.putfield 20, 3) := by decide +kernel
theorem dX1_init_30 : decode cX1_init 30 = .ok (.aload_n 0, 1) := by decide +kernel
theorem dX1_init_31 : decode cX1_init 31 = .ok (.bipush 20, 2) := by decide +kernel
theorem dX1_init_33 : decode cX1_init 33 = .ok (.newarray .boolean, 2) := by decide +kernel
theorem dX1_init_35 : decode cX1_init 35 = .ok (.putfield 23, 3) := by decide +kernel
theorem dX1_init_38 : decode cX1_init 38 = .ok (.aload_n 0, 1) := by decide +kernel
theorem dX1_init_39 : decode cX1_init 39 = .ok (.getfield 20, 3) := by decide +kernel
theorem dX1_init_42 : decode cX1_init 42 = .ok (.iconst (-1), 1) := by decide +kernel
theorem dX1_init_43 : decode cX1_init 43 = .ok (.invokestatic 27, 3) := by decide +kernel
theorem dX1_init_46 : decode cX1_init 46 = .ok (.return_, 1) := by decide +kernel
theorem dX1_hasChain_0 : decode cX1_hasChain 0 = .ok (.iload_n 0, 1) := by decide +kernel
theorem dX1_hasChain_1 : decode cX1_hasChain 1 = .ok (.ifCond .lt 12, 3) := by decide +kernel
theorem dX1_hasChain_4 : decode cX1_hasChain 4 = .ok (.iload_n 0, 1) := by decide +kernel
theorem dX1_hasChain_5 : decode cX1_hasChain 5 = .ok (.iconst 3, 1) := by decide +kernel
theorem dX1_hasChain_6 : decode cX1_hasChain 6 = .ok (.if_icmp .ge 7, 3) := by decide +kernel
theorem dX1_hasChain_9 : decode cX1_hasChain 9 = .ok (.iconst 1, 1) := by decide +kernel
theorem dX1_hasChain_10 : decode cX1_hasChain 10 = .ok (.goto 4, 3) := by decide +kernel
theorem dX1_hasChain_13 : decode cX1_hasChain 13 = .ok (.iconst 0, 1) := by decide +kernel
theorem dX1_hasChain_14 : decode cX1_hasChain 14 = .ok (.ireturn, 1) := by decide +kernel
theorem dX1_cellsInAll_0 : decode cX1_cellsInAll 0 = .ok (.iconst 0, 1) := by decide +kernel
theorem dX1_cellsInAll_1 : decode cX1_cellsInAll 1 = .ok (.istore_n 1, 1) := by decide +kernel
theorem dX1_cellsInAll_2 : decode cX1_cellsInAll 2 = .ok (.iconst 0, 1) := by decide +kernel
theorem dX1_cellsInAll_3 : decode cX1_cellsInAll 3 = .ok (.istore_n 2, 1) := by decide +kernel
theorem dX1_cellsInAll_4 : decode cX1_cellsInAll 4 = .ok (.iload_n 2, 1) := by decide +kernel
theorem dX1_cellsInAll_5 : decode cX1_cellsInAll 5 = .ok (.iconst 3, 1) := by decide +kernel
theorem dX1_cellsInAll_6 : decode cX1_cellsInAll 6 = .ok (.if_icmp .ge 18, 3) := by decide +kernel
theorem dX1_cellsInAll_9 : decode cX1_cellsInAll 9 = .ok (.iload_n 1, 1) := by decide +kernel
theorem dX1_cellsInAll_10 : decode cX1_cellsInAll 10 = .ok (.aload_n 0, 1) := by decide +kernel
theorem dX1_cellsInAll_11 : decode cX1_cellsInAll 11 = .ok (.getfield 16, 3) := by decide +kernel
theorem dX1_cellsInAll_14 : decode cX1_cellsInAll 14 = .ok (.iload_n 2, 1) := by decide +kernel
theorem dX1_cellsInAll_15 : decode cX1_cellsInAll 15 = .ok (.iaload, 1) := by decide +kernel
theorem dX1_cellsInAll_16 : decode cX1_cellsInAll 16 = .ok (.iadd, 1) := by decide +kernel
theorem dX1_cellsInAll_17 : decode cX1_cellsInAll 17 = .ok (.istore_n 1, 1) := by decide +kernel
theorem dX1_cellsInAll_18 : decode cX1_cellsInAll 18 = .ok (.iinc 2 1, 3) := by decide +kernel
theorem dX1_cellsInAll_21 : decode cX1_cellsInAll 21 = .ok (.goto (-17), 3) := by decide +kernel
theorem dX1_cellsInAll_24 : decode cX1_cellsInAll 24 = .ok (.iload_n 1, 1) := by decide +kernel
theorem dX1_cellsInAll_25 : decode cX1_cellsInAll 25 = .ok (.ireturn, 1) := by decide +kernel
theorem dX1_insert_0 : decode cX1_insert 0 = .ok (.aload_n 0, 1) := by decide +kernel
theorem dX1_insert_1 : decode cX1_insert 1 = .ok (.getfield 11, 3) := by decide +kernel
theorem dX1_insert_4 : decode cX1_insert 4 = .ok (.iload_n 1, 1) := by decide +kernel
theorem dX1_insert_5 : decode cX1_insert 5 = .ok (.aaload, 1) := by decide +kernel
theorem dX1_insert_6 : decode cX1_insert 6 = .ok (.astore 5, 2) := by decide +kernel
theorem dX1_insert_8 : decode cX1_insert 8 = .ok (.aload_n 0, 1) := by decide +kernel
theorem dX1_insert_9 : decode cX1_insert 9 = .ok (.getfield 16, 3) := by decide +kernel
theorem dX1_insert_12 : decode cX1_insert 12 = .ok (.iload_n 1, 1) := by decide +kernel
theorem dX1_insert_13 : decode cX1_insert 13 = .ok (.iaload, 1) := by decide +kernel
theorem dX1_insert_14 : decode cX1_insert 14 = .ok (.istore 6, 2) := by decide +kernel
theorem dX1_insert_16 : decode cX1_insert 16 = .ok (.iload 6, 2) := by decide +kernel
theorem dX1_insert_18 : decode cX1_insert 18 = .ok (.iload_n 3, 1) := by decide +kernel
theorem dX1_insert_19 : decode cX1_insert 19 = .ok (.if_icmp .le 21, 3) := by decide +kernel
theorem dX1_insert_22 : decode cX1_insert 22 = .ok (.aload 5, 2) := by decide +kernel
theorem dX1_insert_24 : decode cX1_insert 24 = .ok (.iload 6, 2) := by decide +kernel
theorem dX1_insert_26 : decode cX1_insert 26 = .ok (.aload 5, 2) := by decide +kernel
theorem dX1_insert_28 : decode cX1_insert 28 = .ok (.iload 6, 2) := by decide +kernel
theorem dX1_insert_30 : decode cX1_insert 30 = .ok (.iconst 1, 1) := by decide +kernel
theorem dX1_insert_31 : decode cX1_insert 31 = .ok (.isub, 1) := by decide +kernel
theorem dX1_insert_32 : decode cX1_insert 32 = .ok (.iaload, 1) := by decide +kernel
theorem dX1_insert_33 : decode cX1_insert 33 = .ok (.iastore, 1) := by decide +kernel
theorem dX1_insert_34 : decode cX1_insert 34 = .ok (.iinc 6 (-1), 3) := by decide +kernel
theorem dX1_insert_37 : decode cX1_insert 37 = .ok (.goto (-21), 3) := by decide +kernel
theorem dX1_insert_40 : decode cX1_insert 40 = .ok (.aload 5, 2) := by decide +kernel
theorem dX1_insert_42 : decode cX1_insert 42 = .ok (.iload_n 3, 1) := by decide +kernel
theorem dX1_insert_43 : decode cX1_insert 43 = .ok (.iload_n 2, 1) := by decide +kernel
theorem dX1_insert_44 : decode cX1_insert 44 = .ok (.iastore, 1) := by decide +kernel
theorem dX1_insert_45 : decode cX1_insert 45 = .ok (.aload_n 0, 1) := by decide +kernel
theorem dX1_insert_46 : decode cX1_insert 46 = .ok (.getfield 20, 3) := by decide +kernel
theorem dX1_insert_49 : decode cX1_insert 49 = .ok (.iload_n 2, 1) := by decide +kernel
theorem dX1_insert_50 : decode cX1_insert 50 = .ok (.iload_n 1, 1) := by decide +kernel
theorem dX1_insert_51 : decode cX1_insert 51 = .ok (.iastore, 1) := by decide +kernel
theorem dX1_insert_52 : decode cX1_insert 52 = .ok (.aload_n 0, 1) := by decide +kernel
theorem dX1_insert_53 : decode cX1_insert 53 = .ok (.getfield 23, 3) := by decide +kernel
theorem dX1_insert_56 : decode cX1_insert 56 = .ok (.iload_n 2, 1) := by decide +kernel
theorem dX1_insert_57 : decode cX1_insert 57 = .ok (.iload 4, 2) := by decide +kernel
theorem dX1_insert_59 : decode cX1_insert 59 = .ok (.bastore, 1) := by decide +kernel
theorem dX1_insert_60 : decode cX1_insert 60 = .ok (.aload_n 0, 1) := by decide +kernel
theorem dX1_insert_61 : decode cX1_insert 61 = .ok (.getfield 16, 3) := by decide +kernel
theorem dX1_insert_64 : decode cX1_insert 64 = .ok (.iload_n 1, 1) := by decide +kernel
theorem dX1_insert_65 : decode cX1_insert 65 = .ok (.dup2, 1) := by decide +kernel
theorem dX1_insert_66 : decode cX1_insert 66 = .ok (.iaload, 1) := by decide +kernel
theorem dX1_insert_67 : decode cX1_insert 67 = .ok (.iconst 1, 1) := by decide +kernel
theorem dX1_insert_68 : decode cX1_insert 68 = .ok (.iadd, 1) := by decide +kernel
theorem dX1_insert_69 : decode cX1_insert 69 = .ok (.iastore, 1) := by decide +kernel
theorem dX1_insert_70 : decode cX1_insert 70 = .ok (.aload_n 0, 1) := by decide +kernel
theorem dX1_insert_71 : decode cX1_insert 71 = .ok (.getfield 16, 3) := by decide +kernel
theorem dX1_insert_74 : decode cX1_insert 74 = .ok (.iload_n 1, 1) := by decide +kernel
theorem dX1_insert_75 : decode cX1_insert 75 = .ok (.iaload, 1) := by decide +kernel
theorem dX1_insert_76 : decode cX1_insert 76 = .ok (.ireturn, 1) := by decide +kernel
theorem dX1_takeOut_0 : decode cX1_takeOut 0 = .ok (.aload_n 0, 1) := by decide +kernel
theorem dX1_takeOut_1 : decode cX1_takeOut 1 = .ok (.getfield 20, 3) := by decide +kernel
theorem dX1_takeOut_4 : decode cX1_takeOut 4 = .ok (.iload_n 1, 1) := by decide +kernel
theorem dX1_takeOut_5 : decode cX1_takeOut 5 = .ok (.iaload, 1) := by decide +kernel
theorem dX1_takeOut_6 : decode cX1_takeOut 6 = .ok (.istore_n 2, 1) := by decide +kernel
theorem dX1_takeOut_7 : decode cX1_takeOut 7 = .ok (.aload_n 0, 1) := by decide +kernel
theorem dX1_takeOut_8 : decode cX1_takeOut 8 = .ok (.getfield 11, 3) := by decide +kernel
theorem dX1_takeOut_11 : decode cX1_takeOut 11 = .ok (.iload_n 2, 1) := by decide +kernel
theorem dX1_takeOut_12 : decode cX1_takeOut 12 = .ok (.aaload, 1) := by decide +kernel
theorem dX1_takeOut_13 : decode cX1_takeOut 13 = .ok (.astore_n 3, 1) := by decide +kernel
theorem dX1_takeOut_14 : decode cX1_takeOut 14 = .ok (.iconst 0, 1) := by decide +kernel
theorem dX1_takeOut_15 : decode cX1_takeOut 15 = .ok (.istore 4, 2) := by decide +kernel
theorem dX1_takeOut_17 : decode cX1_takeOut 17 = .ok (.iconst 0, 1) := by decide +kernel
theorem dX1_takeOut_18 : decode cX1_takeOut 18 = .ok (.istore 5, 2) := by decide +kernel
theorem dX1_takeOut_20 : decode cX1_takeOut 20 = .ok (.iload 5, 2) := by decide +kernel
theorem dX1_takeOut_22 : decode cX1_takeOut 22 = .ok (.aload_n 0, 1) := by decide +kernel
theorem dX1_takeOut_23 : decode cX1_takeOut 23 = .ok (.getfield 16, 3) := by decide +kernel
theorem dX1_takeOut_26 : decode cX1_takeOut 26 = .ok (.iload_n 2, 1) := by decide +kernel
theorem dX1_takeOut_27 : decode cX1_takeOut 27 = .ok (.iaload, 1) := by decide +kernel
theorem dX1_takeOut_28 : decode cX1_takeOut 28 = .ok (.if_icmp .ge 28, 3) := by decide +kernel
theorem dX1_takeOut_31 : decode cX1_takeOut 31 = .ok (.aload_n 3, 1) := by decide +kernel
theorem dX1_takeOut_32 : decode cX1_takeOut 32 = .ok (.iload 5, 2) := by decide +kernel
theorem dX1_takeOut_34 : decode cX1_takeOut 34 = .ok (.iaload, 1) := by decide +kernel
theorem dX1_takeOut_35 : decode cX1_takeOut 35 = .ok (.iload_n 1, 1) := by decide +kernel
theorem dX1_takeOut_36 : decode cX1_takeOut 36 = .ok (.if_icmp .eq 14, 3) := by decide +kernel
theorem dX1_takeOut_39 : decode cX1_takeOut 39 = .ok (.aload_n 3, 1) := by decide +kernel
theorem dX1_takeOut_40 : decode cX1_takeOut 40 = .ok (.iload 4, 2) := by decide +kernel
theorem dX1_takeOut_42 : decode cX1_takeOut 42 = .ok (.aload_n 3, 1) := by decide +kernel
theorem dX1_takeOut_43 : decode cX1_takeOut 43 = .ok (.iload 5, 2) := by decide +kernel
theorem dX1_takeOut_45 : decode cX1_takeOut 45 = .ok (.iaload, 1) := by decide +kernel
theorem dX1_takeOut_46 : decode cX1_takeOut 46 = .ok (.iastore, 1) := by decide +kernel
theorem dX1_takeOut_47 : decode cX1_takeOut 47 = .ok (.iinc 4 1, 3) := by decide +kernel
theorem dX1_takeOut_50 : decode cX1_takeOut 50 = .ok (.iinc 5 1, 3) := by decide +kernel
theorem dX1_takeOut_53 : decode cX1_takeOut 53 = .ok (.goto (-33), 3) := by decide +kernel
theorem dX1_takeOut_56 : decode cX1_takeOut 56 = .ok (.aload_n 0, 1) := by decide +kernel
theorem dX1_takeOut_57 : decode cX1_takeOut 57 = .ok (.getfield 16, 3) := by decide +kernel
theorem dX1_takeOut_60 : decode cX1_takeOut 60 = .ok (.iload_n 2, 1) := by decide +kernel
theorem dX1_takeOut_61 : decode cX1_takeOut 61 = .ok (.iload 4, 2) := by decide +kernel
theorem dX1_takeOut_63 : decode cX1_takeOut 63 = .ok (.iastore, 1) := by decide +kernel
theorem dX1_takeOut_64 : decode cX1_takeOut 64 = .ok (.aload_n 0, 1) := by decide +kernel
theorem dX1_takeOut_65 : decode cX1_takeOut 65 = .ok (.getfield 20, 3) := by decide +kernel
theorem dX1_takeOut_68 : decode cX1_takeOut 68 = .ok (.iload_n 1, 1) := by decide +kernel
theorem dX1_takeOut_69 : decode cX1_takeOut 69 = .ok (.iconst (-1), 1) := by decide +kernel
theorem dX1_takeOut_70 : decode cX1_takeOut 70 = .ok (.iastore, 1) := by decide +kernel
theorem dX1_takeOut_71 : decode cX1_takeOut 71 = .ok (.return_, 1) := by decide +kernel
theorem dX2_init_0 : decode cX2_init 0 = .ok (.aload_n 0, 1) := by decide +kernel
theorem dX2_init_1 : decode cX2_init 1 = .ok (.invokespecial 3, 3) := by decide +kernel
theorem dX2_init_4 : decode cX2_init 4 = .ok (.aload_n 0, 1) := by decide +kernel
theorem dX2_init_5 : decode cX2_init 5 = .ok (.bipush 80, 2) := by decide +kernel
theorem dX2_init_7 : decode cX2_init 7 = .ok (.newarray .int, 2) := by decide +kernel
theorem dX2_init_9 : decode cX2_init 9 = .ok (.putfield 9, 3) := by decide +kernel
theorem dX2_init_12 : decode cX2_init 12 = .ok (.aload_n 0, 1) := by decide +kernel
theorem dX2_init_13 : decode cX2_init 13 = .ok (.bipush 80, 2) := by decide +kernel
theorem dX2_init_15 : decode cX2_init 15 = .ok (.newarray .int, 2) := by decide +kernel
theorem dX2_init_17 : decode cX2_init 17 = .ok (.putfield 15, 3) := by decide +kernel
theorem dX2_init_20 : decode cX2_init 20 = .ok (.aload_n 0, 1) := by decide +kernel
theorem dX2_init_21 : decode cX2_init 21 = .ok (.bipush 80, 2) := by decide +kernel
theorem dX2_init_23 : decode cX2_init 23 = .ok (.newarray .int, 2) := by decide +kernel
theorem dX2_init_25 : decode cX2_init 25 = .ok (.putfield 18, 3) := by decide +kernel
theorem dX2_init_28 : decode cX2_init 28 = .ok (.aload_n 0, 1) := by decide +kernel
theorem dX2_init_29 : decode cX2_init 29 = .ok (.bipush 80, 2) := by decide +kernel
theorem dX2_init_31 : decode cX2_init 31 = .ok (.newarray .int, 2) := by decide +kernel
theorem dX2_init_33 : decode cX2_init 33 = .ok (.putfield 21, 3) := by decide +kernel
theorem dX2_init_36 : decode cX2_init 36 = .ok (.aload_n 0, 1) := by decide +kernel
theorem dX2_init_37 : decode cX2_init 37 = .ok (.bipush 80, 2) := by decide +kernel
theorem dX2_init_39 : decode cX2_init 39 = .ok (.newarray .int, 2) := by decide +kernel
theorem dX2_init_41 : decode cX2_init 41 = .ok (.putfield 24, 3) := by decide +kernel
theorem dX2_init_44 : decode cX2_init 44 = .ok (.aload_n 0, 1) := by decide +kernel
theorem dX2_init_45 : decode cX2_init 45 = .ok (.bipush 80, 2) := by decide +kernel
theorem dX2_init_47 : decode cX2_init 47 = .ok (.newarray .boolean, 2) := by decide +kernel
theorem dX2_init_49 : decode cX2_init 49 = .ok (.putfield 27, 3) := by decide +kernel
theorem dX2_init_52 : decode cX2_init 52 = .ok (.aload_n 0, 1) := by decide +kernel
theorem dX2_init_53 : decode cX2_init 53 = .ok (.bipush 20, 2) := by decide +kernel
theorem dX2_init_55 : decode cX2_init 55 = .ok (.newarray .int, 2) := by decide +kernel
theorem dX2_init_57 : decode cX2_init 57 = .ok (.putfield 31, 3) := by decide +kernel
theorem dX2_init_60 : decode cX2_init 60 = .ok (.aload_n 0, 1) := by decide +kernel
theorem dX2_init_61 : decode cX2_init 61 = .ok (.bipush 20, 2) := by decide +kernel
theorem dX2_init_63 : decode cX2_init 63 = .ok (.newarray .int, 2) := by decide +kernel
theorem dX2_init_65 : decode cX2_init 65 = .ok (.putfield 34, 3) := by decide +kernel
theorem dX2_init_68 : decode cX2_init 68 = .ok (.aload_n 0, 1) := by decide +kernel
theorem dX2_init_69 : decode cX2_init 69 = .ok (.bipush 20, 2) := by decide +kernel
theorem dX2_init_71 : decode cX2_init 71 = .ok (.newarray .int, 2) := by decide +kernel
theorem dX2_init_73 : decode cX2_init 73 = .ok (.putfield 37, 3) := by decide +kernel
theorem dX2_init_76 : decode cX2_init 76 = .ok (.aload_n 0, 1) := by decide +kernel
theorem dX2_init_77 : decode cX2_init 77 = .ok (.bipush 8, 2) := by decide +kernel
theorem dX2_init_79 : decode cX2_init 79 = .ok (.newarray .int, 2) := by decide +kernel
theorem dX2_init_81 : decode cX2_init 81 = .ok (.putfield 40, 3) := by decide +kernel
theorem dX2_init_84 : decode cX2_init 84 = .ok (.return_, 1) := by decide +kernel
theorem dX2_sourcesOf_0 : decode cX2_sourcesOf 0 = .ok (.iload_n 0, 1) := by decide +kernel
theorem dX2_sourcesOf_1 : decode cX2_sourcesOf 1 = .ok (.ifCond .lt 9, 3) := by decide +kernel
theorem dX2_sourcesOf_4 : decode cX2_sourcesOf 4 = .ok (.iload_n 0, 1) := by decide +kernel
theorem dX2_sourcesOf_5 : decode cX2_sourcesOf 5 = .ok (.bipush 6, 2) := by decide +kernel
theorem dX2_sourcesOf_7 : decode cX2_sourcesOf 7 = .ok (.if_icmp .le 5, 3) := by decide +kernel
theorem dX2_sourcesOf_10 : decode cX2_sourcesOf 10 = .ok (.iconst 0, 1) := by decide +kernel
theorem dX2_sourcesOf_11 : decode cX2_sourcesOf 11 = .ok (.ireturn, 1) := by decide +kernel
theorem dX2_sourcesOf_12 : decode cX2_sourcesOf 12 = .ok (.iload_n 0, 1) := by decide +kernel
theorem dX2_sourcesOf_13 : decode cX2_sourcesOf 13 = .ok (.iconst 3, 1) := by decide +kernel
theorem dX2_sourcesOf_14 : decode cX2_sourcesOf 14 = .ok (.if_icmp .ne 5, 3) := by decide +kernel
theorem dX2_sourcesOf_17 : decode cX2_sourcesOf 17 = .ok (.iconst 1, 1) := by decide +kernel
theorem dX2_sourcesOf_18 : decode cX2_sourcesOf 18 = .ok (.ireturn, 1) := by decide +kernel
theorem dX2_sourcesOf_19 : decode cX2_sourcesOf 19 = .ok (.iload_n 0, 1) := by decide +kernel
theorem dX2_sourcesOf_20 : decode cX2_sourcesOf 20 = .ok (.iconst 4, 1) := by decide +kernel
theorem dX2_sourcesOf_21 : decode cX2_sourcesOf 21 = .ok (.if_icmp .ne 7, 3) := by decide +kernel
theorem dX2_sourcesOf_24 : decode cX2_sourcesOf 24 = .ok (.iconst 3, 1) := by decide +kernel
theorem dX2_sourcesOf_25 : decode cX2_sourcesOf 25 = .ok (.goto 4, 3) := by decide +kernel
theorem dX2_sourcesOf_28 : decode cX2_sourcesOf 28 = .ok (.iconst 2, 1) := by decide +kernel
theorem dX2_sourcesOf_29 : decode cX2_sourcesOf 29 = .ok (.ireturn, 1) := by decide +kernel
theorem dX2_hasLine_0 : decode cX2_hasLine 0 = .ok (.iload_n 1, 1) := by decide +kernel
theorem dX2_hasLine_1 : decode cX2_hasLine 1 = .ok (.ifCond .lt 15, 3) := by decide +kernel
theorem dX2_hasLine_4 : decode cX2_hasLine 4 = .ok (.iload_n 1, 1) := by decide +kernel
theorem dX2_hasLine_5 : decode cX2_hasLine 5 = .ok (.aload_n 0, 1) := by decide +kernel
theorem dX2_hasLine_6 : decode cX2_hasLine 6 = .ok (.getfield 43, 3) := by decide +kernel
theorem dX2_hasLine_9 : decode cX2_hasLine 9 = .ok (.if_icmp .ge 7, 3) := by decide +kernel
theorem dX2_hasLine_12 : decode cX2_hasLine 12 = .ok (.iconst 1, 1) := by decide +kernel
theorem dX2_hasLine_13 : decode cX2_hasLine 13 = .ok (.goto 4, 3) := by decide +kernel
theorem dX2_hasLine_16 : decode cX2_hasLine 16 = .ok (.iconst 0, 1) := by decide +kernel
theorem dX2_hasLine_17 : decode cX2_hasLine 17 = .ok (.ireturn, 1) := by decide +kernel
theorem dX2_hasCell_0 : decode cX2_hasCell 0 = .ok (.iload_n 1, 1) := by decide +kernel
theorem dX2_hasCell_1 : decode cX2_hasCell 1 = .ok (.ifCond .lt 15, 3) := by decide +kernel
theorem dX2_hasCell_4 : decode cX2_hasCell 4 = .ok (.iload_n 1, 1) := by decide +kernel
theorem dX2_hasCell_5 : decode cX2_hasCell 5 = .ok (.aload_n 0, 1) := by decide +kernel
theorem dX2_hasCell_6 : decode cX2_hasCell 6 = .ok (.getfield 47, 3) := by decide +kernel
theorem dX2_hasCell_9 : decode cX2_hasCell 9 = .ok (.if_icmp .ge 7, 3) := by decide +kernel
theorem dX2_hasCell_12 : decode cX2_hasCell 12 = .ok (.iconst 1, 1) := by decide +kernel
theorem dX2_hasCell_13 : decode cX2_hasCell 13 = .ok (.goto 4, 3) := by decide +kernel
theorem dX2_hasCell_16 : decode cX2_hasCell 16 = .ok (.iconst 0, 1) := by decide +kernel
theorem dX2_hasCell_17 : decode cX2_hasCell 17 = .ok (.ireturn, 1) := by decide +kernel
theorem dX2_addInput_0 : decode cX2_addInput 0 = .ok (.aload_n 0, 1) := by decide +kernel
theorem dX2_addInput_1 : decode cX2_addInput 1 = .ok (.iconst 0, 1) := by decide +kernel
theorem dX2_addInput_2 : decode cX2_addInput 2 = .ok (.aload_n 0, 1) := by decide +kernel
theorem dX2_addInput_3 : decode cX2_addInput 3 = .ok (.getfield 50, 3) := by decide +kernel
theorem dX2_addInput_6 : decode cX2_addInput 6 = .ok (.invokevirtual 53, 3) := by decide +kernel
theorem dX2_addInput_9 : decode cX2_addInput 9 = .ok (.istore_n 1, 1) := by decide +kernel
theorem dX2_addInput_10 : decode cX2_addInput 10 = .ok (.aload_n 0, 1) := by decide +kernel
theorem dX2_addInput_11 : decode cX2_addInput 11 = .ok (.dup, 1) := by decide +kernel
theorem dX2_addInput_12 : decode cX2_addInput 12 = .ok (.getfield 50, 3) := by decide +kernel
theorem dX2_addInput_15 : decode cX2_addInput 15 = .ok (.iconst 1, 1) := by decide +kernel
theorem dX2_addInput_16 : decode cX2_addInput 16 = .ok (.iadd, 1) := by decide +kernel
theorem dX2_addInput_17 : decode cX2_addInput 17 = .ok (.putfield 50, 3) := by decide +kernel
theorem dX2_addInput_20 : decode cX2_addInput 20 = .ok (.iload_n 1, 1) := by decide +kernel
theorem dX2_addInput_21 : decode cX2_addInput 21 = .ok (.ireturn, 1) := by decide +kernel
theorem dX2_addGate_0 : decode cX2_addGate 0 = .ok (.aload_n 0, 1) := by decide +kernel
theorem dX2_addGate_1 : decode cX2_addGate 1 = .ok (.iconst 1, 1) := by decide +kernel
theorem dX2_addGate_2 : decode cX2_addGate 2 = .ok (.iload_n 1, 1) := by decide +kernel
theorem dX2_addGate_3 : decode cX2_addGate 3 = .ok (.invokevirtual 53, 3) := by decide +kernel
theorem dX2_addGate_6 : decode cX2_addGate 6 = .ok (.istore 5, 2) := by decide +kernel
theorem dX2_addGate_8 : decode cX2_addGate 8 = .ok (.aload_n 0, 1) := by decide +kernel
theorem dX2_addGate_9 : decode cX2_addGate 9 = .ok (.getfield 18, 3) := by decide +kernel
theorem dX2_addGate_12 : decode cX2_addGate 12 = .ok (.iload 5, 2) := by decide +kernel
theorem dX2_addGate_14 : decode cX2_addGate 14 = .ok (.iload_n 2, 1) := by decide +kernel
theorem dX2_addGate_15 : decode cX2_addGate 15 = .ok (.iastore, 1) := by decide +kernel
theorem dX2_addGate_16 : decode cX2_addGate 16 = .ok (.aload_n 0, 1) := by decide +kernel
theorem dX2_addGate_17 : decode cX2_addGate 17 = .ok (.getfield 21, 3) := by decide +kernel
theorem dX2_addGate_20 : decode cX2_addGate 20 = .ok (.iload 5, 2) := by decide +kernel
theorem dX2_addGate_22 : decode cX2_addGate 22 = .ok (.iload_n 3, 1) := by decide +kernel
theorem dX2_addGate_23 : decode cX2_addGate 23 = .ok (.iastore, 1) := by decide +kernel
theorem dX2_addGate_24 : decode cX2_addGate 24 = .ok (.aload_n 0, 1) := by decide +kernel
theorem dX2_addGate_25 : decode cX2_addGate 25 = .ok (.getfield 24, 3) := by decide +kernel
theorem dX2_addGate_28 : decode cX2_addGate 28 = .ok (.iload 5, 2) := by decide +kernel
theorem dX2_addGate_30 : decode cX2_addGate 30 = .ok (.iload 4, 2) := by decide +kernel
theorem dX2_addGate_32 : decode cX2_addGate 32 = .ok (.iastore, 1) := by decide +kernel
theorem dX2_addGate_33 : decode cX2_addGate 33 = .ok (.iload 5, 2) := by decide +kernel
theorem dX2_addGate_35 : decode cX2_addGate 35 = .ok (.ireturn, 1) := by decide +kernel
theorem dX2_addCell_0 : decode cX2_addCell 0 = .ok (.aload_n 0, 1) := by decide +kernel
theorem dX2_addCell_1 : decode cX2_addCell 1 = .ok (.iconst 2, 1) := by decide +kernel
theorem dX2_addCell_2 : decode cX2_addCell 2 = .ok (.aload_n 0, 1) := by decide +kernel
theorem dX2_addCell_3 : decode cX2_addCell 3 = .ok (.getfield 47, 3) := by decide +kernel
theorem dX2_addCell_6 : decode cX2_addCell 6 = .ok (.invokevirtual 53, 3) := by decide +kernel
theorem dX2_addCell_9 : decode cX2_addCell 9 = .ok (.istore_n 2, 1) := by decide +kernel
theorem dX2_addCell_10 : decode cX2_addCell 10 = .ok (.aload_n 0, 1) := by decide +kernel
theorem dX2_addCell_11 : decode cX2_addCell 11 = .ok (.getfield 31, 3) := by decide +kernel
theorem dX2_addCell_14 : decode cX2_addCell 14 = .ok (.aload_n 0, 1) := by decide +kernel
theorem dX2_addCell_15 : decode cX2_addCell 15 = .ok (.getfield 47, 3) := by decide +kernel
theorem dX2_addCell_18 : decode cX2_addCell 18 = .ok (.iload_n 2, 1) := by decide +kernel
theorem dX2_addCell_19 : decode cX2_addCell 19 = .ok (.iastore, 1) := by decide +kernel
theorem dX2_addCell_20 : decode cX2_addCell 20 = .ok (.aload_n 0, 1) := by decide +kernel
theorem dX2_addCell_21 : decode cX2_addCell 21 = .ok (.getfield 34, 3) := by decide +kernel
theorem dX2_addCell_24 : decode cX2_addCell 24 = .ok (.aload_n 0, 1) := by decide +kernel
theorem dX2_addCell_25 : decode cX2_addCell 25 = .ok (.getfield 47, 3) := by decide +kernel
theorem dX2_addCell_28 : decode cX2_addCell 28 = .ok (.iload_n 1, 1) := by decide +kernel
theorem dX2_addCell_29 : decode cX2_addCell 29 = .ok (.iastore, 1) := by decide +kernel
theorem dX2_addCell_30 : decode cX2_addCell 30 = .ok (.aload_n 0, 1) := by decide +kernel
theorem dX2_addCell_31 : decode cX2_addCell 31 = .ok (.getfield 37, 3) := by decide +kernel
theorem dX2_addCell_34 : decode cX2_addCell 34 = .ok (.aload_n 0, 1) := by decide +kernel
theorem dX2_addCell_35 : decode cX2_addCell 35 = .ok (.getfield 47, 3) := by decide +kernel
theorem dX2_addCell_38 : decode cX2_addCell 38 = .ok (.iload_n 2, 1) := by decide +kernel
theorem dX2_addCell_39 : decode cX2_addCell 39 = .ok (.iastore, 1) := by decide +kernel
theorem dX2_addCell_40 : decode cX2_addCell 40 = .ok (.aload_n 0, 1) := by decide +kernel
theorem dX2_addCell_41 : decode cX2_addCell 41 = .ok (.dup, 1) := by decide +kernel
theorem dX2_addCell_42 : decode cX2_addCell 42 = .ok (.getfield 47, 3) := by decide +kernel
theorem dX2_addCell_45 : decode cX2_addCell 45 = .ok (.iconst 1, 1) := by decide +kernel
theorem dX2_addCell_46 : decode cX2_addCell 46 = .ok (.iadd, 1) := by decide +kernel
theorem dX2_addCell_47 : decode cX2_addCell 47 = .ok (.putfield 47, 3) := by decide +kernel
theorem dX2_addCell_50 : decode cX2_addCell 50 = .ok (.iload_n 2, 1) := by decide +kernel
theorem dX2_addCell_51 : decode cX2_addCell 51 = .ok (.ireturn, 1) := by decide +kernel
theorem dX2_addOutput_0 : decode cX2_addOutput 0 = .ok (.aload_n 0, 1) := by decide +kernel
theorem dX2_addOutput_1 : decode cX2_addOutput 1 = .ok (.getfield 27, 3) := by decide +kernel
theorem dX2_addOutput_4 : decode cX2_addOutput 4 = .ok (.iload_n 1, 1) := by decide +kernel
theorem dX2_addOutput_5 : decode cX2_addOutput 5 = .ok (.iconst 1, 1) := by decide +kernel
theorem dX2_addOutput_6 : decode cX2_addOutput 6 = .ok (.bastore, 1) := by decide +kernel
theorem dX2_addOutput_7 : decode cX2_addOutput 7 = .ok (.aload_n 0, 1) := by decide +kernel
theorem dX2_addOutput_8 : decode cX2_addOutput 8 = .ok (.getfield 40, 3) := by decide +kernel
theorem dX2_addOutput_11 : decode cX2_addOutput 11 = .ok (.aload_n 0, 1) := by decide +kernel
theorem dX2_addOutput_12 : decode cX2_addOutput 12 = .ok (.getfield 57, 3) := by decide +kernel
theorem dX2_addOutput_15 : decode cX2_addOutput 15 = .ok (.iload_n 1, 1) := by decide +kernel
theorem dX2_addOutput_16 : decode cX2_addOutput 16 = .ok (.iastore, 1) := by decide +kernel
theorem dX2_addOutput_17 : decode cX2_addOutput 17 = .ok (.aload_n 0, 1) := by decide +kernel
theorem dX2_addOutput_18 : decode cX2_addOutput 18 = .ok (.dup, 1) := by decide +kernel
theorem dX2_addOutput_19 : decode cX2_addOutput 19 = .ok (.getfield 57, 3) := by decide +kernel
theorem dX2_addOutput_22 : decode cX2_addOutput 22 = .ok (.iconst 1, 1) := by decide +kernel
theorem dX2_addOutput_23 : decode cX2_addOutput 23 = .ok (.iadd, 1) := by decide +kernel
theorem dX2_addOutput_24 : decode cX2_addOutput 24 = .ok (.putfield 57, 3) := by decide +kernel
theorem dX2_addOutput_27 : decode cX2_addOutput 27 = .ok (.aload_n 0, 1) := by decide +kernel
theorem dX2_addOutput_28 : decode cX2_addOutput 28 = .ok (.getfield 57, 3) := by decide +kernel
theorem dX2_addOutput_31 : decode cX2_addOutput 31 = .ok (.ireturn, 1) := by decide +kernel
theorem dX2_addLine_0 : decode cX2_addLine 0 = .ok (.aload_n 0, 1) := by decide +kernel
theorem dX2_addLine_1 : decode cX2_addLine 1 = .ok (.getfield 43, 3) := by decide +kernel
theorem dX2_addLine_4 : decode cX2_addLine 4 = .ok (.istore_n 3, 1) := by decide +kernel
theorem dX2_addLine_5 : decode cX2_addLine 5 = .ok (.aload_n 0, 1) := by decide +kernel
theorem dX2_addLine_6 : decode cX2_addLine 6 = .ok (.getfield 9, 3) := by decide +kernel
theorem dX2_addLine_9 : decode cX2_addLine 9 = .ok (.iload_n 3, 1) := by decide +kernel
theorem dX2_addLine_10 : decode cX2_addLine 10 = .ok (.iload_n 1, 1) := by decide +kernel
theorem dX2_addLine_11 : decode cX2_addLine 11 = .ok (.iastore, 1) := by decide +kernel
theorem dX2_addLine_12 : decode cX2_addLine 12 = .ok (.aload_n 0, 1) := by decide +kernel
theorem dX2_addLine_13 : decode cX2_addLine 13 = .ok (.getfield 15, 3) := by decide +kernel
theorem dX2_addLine_16 : decode cX2_addLine 16 = .ok (.iload_n 3, 1) := by decide +kernel
theorem dX2_addLine_17 : decode cX2_addLine 17 = .ok (.iload_n 2, 1) := by decide +kernel
theorem dX2_addLine_18 : decode cX2_addLine 18 = .ok (.iastore, 1) := by decide +kernel
theorem dX2_addLine_19 : decode cX2_addLine 19 = .ok (.aload_n 0, 1) := by decide +kernel
theorem dX2_addLine_20 : decode cX2_addLine 20 = .ok (.dup, 1) := by decide +kernel
theorem dX2_addLine_21 : decode cX2_addLine 21 = .ok (.getfield 43, 3) := by decide +kernel
theorem dX2_addLine_24 : decode cX2_addLine 24 = .ok (.iconst 1, 1) := by decide +kernel
theorem dX2_addLine_25 : decode cX2_addLine 25 = .ok (.iadd, 1) := by decide +kernel
theorem dX2_addLine_26 : decode cX2_addLine 26 = .ok (.putfield 43, 3) := by decide +kernel
theorem dX2_addLine_29 : decode cX2_addLine 29 = .ok (.iload_n 3, 1) := by decide +kernel
theorem dX2_addLine_30 : decode cX2_addLine 30 = .ok (.ireturn, 1) := by decide +kernel
theorem dX3_init_0 : decode cX3_init 0 = .ok (.aload_n 0, 1) := by decide +kernel
theorem dX3_init_1 : decode cX3_init 1 = .ok (.invokespecial 3, 3) := by decide +kernel
theorem dX3_init_4 : decode cX3_init 4 = .ok (.aload_n 0, 1) := by decide +kernel
theorem dX3_init_5 : decode cX3_init 5 = .ok (.aload_n 1, 1) := by decide +kernel
theorem dX3_init_6 : decode cX3_init 6 = .ok (.putfield 9, 3) := by decide +kernel
theorem dX3_init_9 : decode cX3_init 9 = .ok (.aload_n 0, 1) := by decide +kernel
theorem dX3_init_10 : decode cX3_init 10 = .ok (.iconst 4, 1) := by decide +kernel
theorem dX3_init_11 : decode cX3_init 11 = .ok (.putfield 15, 3) := by decide +kernel
theorem dX3_init_14 : decode cX3_init 14 = .ok (.return_, 1) := by decide +kernel
theorem dX3_restart_0 : decode cX3_restart 0 = .ok (.aload_n 0, 1) := by decide +kernel
theorem dX3_restart_1 : decode cX3_restart 1 = .ok (.getfield 9, 3) := by decide +kernel
theorem dX3_restart_4 : decode cX3_restart 4 = .ok (.invokevirtual 19, 3) := by decide +kernel
theorem dX3_restart_7 : decode cX3_restart 7 = .ok (.aload_n 0, 1) := by decide +kernel
theorem dX3_restart_8 : decode cX3_restart 8 = .ok (.iconst 0, 1) := by decide +kernel
theorem dX3_restart_9 : decode cX3_restart 9 = .ok (.putfield 24, 3) := by decide +kernel
theorem dX3_restart_12 : decode cX3_restart 12 = .ok (.aload_n 0, 1) := by decide +kernel
theorem dX3_restart_13 : decode cX3_restart 13 = .ok (.iconst 4, 1) := by decide +kernel
theorem dX3_restart_14 : decode cX3_restart 14 = .ok (.putfield 15, 3) := by decide +kernel
theorem dX3_restart_17 : decode cX3_restart 17 = .ok (.return_, 1) := by decide +kernel
theorem dX3_step_0 : decode cX3_step 0 = .ok (.iconst (-1), 1) := by decide +kernel
theorem dX3_step_1 : decode cX3_step 1 = .ok (.istore_n 3, 1) := by decide +kernel
theorem dX3_step_2 : decode cX3_step 2 = .ok (.aload_n 0, 1) := by decide +kernel
theorem dX3_step_3 : decode cX3_step 3 = .ok (.getfield 24, 3) := by decide +kernel
theorem dX3_step_6 : decode cX3_step 6 = .ok (.tableswitch 146 0 15 #[78, 146, 146, 86, 109, 146, 146, 146, 146, 146, 118, 126, 146, 146, 146, 135], 78) := by decide +kernel
theorem dX3_step_84 : decode cX3_step 84 = .ok (.aload_n 0, 1) := by decide +kernel
theorem dX3_step_85 : decode cX3_step 85 = .ok (.iconst 4, 1) := by decide +kernel
theorem dX3_step_86 : decode cX3_step 86 = .ok (.putfield 15, 3) := by decide +kernel
theorem dX3_step_89 : decode cX3_step 89 = .ok (.goto 63, 3) := by decide +kernel
theorem dX3_step_92 : decode cX3_step 92 = .ok (.aload_n 0, 1) := by decide +kernel
theorem dX3_step_93 : decode cX3_step 93 = .ok (.getfield 9, 3) := by decide +kernel
theorem dX3_step_96 : decode cX3_step 96 = .ok (.getstatic 27, 3) := by decide +kernel
theorem dX3_step_99 : decode cX3_step 99 = .ok (.aload_n 0, 1) := by decide +kernel
theorem dX3_step_100 : decode cX3_step 100 = .ok (.getfield 15, 3) := by decide +kernel
theorem dX3_step_103 : decode cX3_step 103 = .ok (.iaload, 1) := by decide +kernel
theorem dX3_step_104 : decode cX3_step 104 = .ok (.invokevirtual 31, 3) := by decide +kernel
theorem dX3_step_107 : decode cX3_step 107 = .ok (.pop, 1) := by decide +kernel
theorem dX3_step_108 : decode cX3_step 108 = .ok (.aload_n 0, 1) := by decide +kernel
theorem dX3_step_109 : decode cX3_step 109 = .ok (.invokevirtual 35, 3) := by decide +kernel
theorem dX3_step_112 : decode cX3_step 112 = .ok (.goto 40, 3) := by decide +kernel
theorem dX3_step_115 : decode cX3_step 115 = .ok (.aload_n 0, 1) := by decide +kernel
theorem dX3_step_116 : decode cX3_step 116 = .ok (.iload_n 2, 1) := by decide +kernel
theorem dX3_step_117 : decode cX3_step 117 = .ok (.invokevirtual 38, 3) := by decide +kernel
theorem dX3_step_120 : decode cX3_step 120 = .ok (.istore_n 3, 1) := by decide +kernel
theorem dX3_step_121 : decode cX3_step 121 = .ok (.goto 31, 3) := by decide +kernel
theorem dX3_step_124 : decode cX3_step 124 = .ok (.aload_n 0, 1) := by decide +kernel
theorem dX3_step_125 : decode cX3_step 125 = .ok (.iconst 1, 1) := by decide +kernel
theorem dX3_step_126 : decode cX3_step 126 = .ok (.putfield 41, 3) := by decide +kernel
theorem dX3_step_129 : decode cX3_step 129 = .ok (.goto 23, 3) := by decide +kernel
theorem dX3_step_132 : decode cX3_step 132 = .ok (.aload_n 0, 1) := by decide +kernel
theorem dX3_step_133 : decode cX3_step 133 = .ok (.iload_n 2, 1) := by decide +kernel
theorem dX3_step_134 : decode cX3_step 134 = .ok (.invokevirtual 44, 3) := by decide +kernel
theorem dX3_step_137 : decode cX3_step 137 = .ok (.istore_n 3, 1) := by decide +kernel
theorem dX3_step_138 : decode cX3_step 138 = .ok (.goto 14, 3) := by decide +kernel
theorem dX3_step_141 : decode cX3_step 141 = .ok (.aload_n 0, 1) := by decide +kernel
theorem dX3_step_142 : decode cX3_step 142 = .ok (.aload_n 0, 1) := by decide +kernel
theorem dX3_step_143 : decode cX3_step 143 = .ok (.getfield 41, 3) := by decide +kernel
theorem dX3_step_146 : decode cX3_step 146 = .ok (.putfield 15, 3) := by decide +kernel
theorem dX3_step_149 : decode cX3_step 149 = .ok (.goto 3, 3) := by decide +kernel
theorem dX3_step_152 : decode cX3_step 152 = .ok (.aload_n 0, 1) := by decide +kernel
theorem dX3_step_153 : decode cX3_step 153 = .ok (.iload_n 1, 1) := by decide +kernel
theorem dX3_step_154 : decode cX3_step 154 = .ok (.ifCond .ne 14, 3) := by decide +kernel
theorem dX3_step_157 : decode cX3_step 157 = .ok (.getstatic 47, 3) := by decide +kernel
theorem dX3_step_160 : decode cX3_step 160 = .ok (.aload_n 0, 1) := by decide +kernel
theorem dX3_step_161 : decode cX3_step 161 = .ok (.getfield 24, 3) := by decide +kernel
theorem dX3_step_164 : decode cX3_step 164 = .ok (.iaload, 1) := by decide +kernel
theorem dX3_step_165 : decode cX3_step 165 = .ok (.goto 11, 3) := by decide +kernel
theorem dX3_step_168 : decode cX3_step 168 = .ok (.getstatic 50, 3) := by decide +kernel
theorem dX3_step_171 : decode cX3_step 171 = .ok (.aload_n 0, 1) := by decide +kernel
theorem dX3_step_172 : decode cX3_step 172 = .ok (.getfield 24, 3) := by decide +kernel
theorem dX3_step_175 : decode cX3_step 175 = .ok (.iaload, 1) := by decide +kernel
theorem dX3_step_176 : decode cX3_step 176 = .ok (.putfield 24, 3) := by decide +kernel
theorem dX3_step_179 : decode cX3_step 179 = .ok (.aload_n 0, 1) := by decide +kernel
theorem dX3_step_180 : decode cX3_step 180 = .ok (.dup, 1) := by decide +kernel
theorem dX3_step_181 : decode cX3_step 181 = .ok (.getfield 53, 3) := by decide +kernel
theorem dX3_step_184 : decode cX3_step 184 = .ok (.iconst 1, 1) := by decide +kernel
theorem dX3_step_185 : decode cX3_step 185 = .ok (.iadd, 1) := by decide +kernel
theorem dX3_step_186 : decode cX3_step 186 = .ok (.putfield 53, 3) := by decide +kernel
theorem dX3_step_189 : decode cX3_step 189 = .ok (.iload_n 3, 1) := by decide +kernel
theorem dX3_step_190 : decode cX3_step 190 = .ok (.ireturn, 1) := by decide +kernel
theorem dX3_refillRows_0 : decode cX3_refillRows 0 = .ok (.aload_n 0, 1) := by decide +kernel
theorem dX3_refillRows_1 : decode cX3_refillRows 1 = .ok (.getfield 15, 3) := by decide +kernel
theorem dX3_refillRows_4 : decode cX3_refillRows 4 = .ok (.iconst 4, 1) := by decide +kernel
theorem dX3_refillRows_5 : decode cX3_refillRows 5 = .ok (.if_icmp .ne 14, 3) := by decide +kernel
theorem dX3_refillRows_8 : decode cX3_refillRows 8 = .ok (.aload_n 0, 1) := by decide +kernel
theorem dX3_refillRows_9 : decode cX3_refillRows 9 = .ok (.aload_n 0, 1) := by decide +kernel
theorem dX3_refillRows_10 : decode cX3_refillRows 10 = .ok (.getfield 56, 3) := by decide +kernel
theorem dX3_refillRows_13 : decode cX3_refillRows 13 = .ok (.putfield 59, 3) := by decide +kernel
theorem dX3_refillRows_16 : decode cX3_refillRows 16 = .ok (.goto 16, 3) := by decide +kernel
theorem dX3_refillRows_19 : decode cX3_refillRows 19 = .ok (.aload_n 0, 1) := by decide +kernel
theorem dX3_refillRows_20 : decode cX3_refillRows 20 = .ok (.getfield 15, 3) := by decide +kernel
theorem dX3_refillRows_23 : decode cX3_refillRows 23 = .ok (.iconst 5, 1) := by decide +kernel
theorem dX3_refillRows_24 : decode cX3_refillRows 24 = .ok (.if_icmp .le 8, 3) := by decide +kernel
theorem dX3_refillRows_27 : decode cX3_refillRows 27 = .ok (.aload_n 0, 1) := by decide +kernel
theorem dX3_refillRows_28 : decode cX3_refillRows 28 = .ok (.iconst 0, 1) := by decide +kernel
theorem dX3_refillRows_29 : decode cX3_refillRows 29 = .ok (.putfield 62, 3) := by decide +kernel
theorem dX3_refillRows_32 : decode cX3_refillRows 32 = .ok (.return_, 1) := by decide +kernel
theorem dX3_shiftByOrder_0 : decode cX3_shiftByOrder 0 = .ok (.aload_n 0, 1) := by decide +kernel
theorem dX3_shiftByOrder_1 : decode cX3_shiftByOrder 1 = .ok (.getfield 15, 3) := by decide +kernel
theorem dX3_shiftByOrder_4 : decode cX3_shiftByOrder 4 = .ok (.iconst 3, 1) := by decide +kernel
theorem dX3_shiftByOrder_5 : decode cX3_shiftByOrder 5 = .ok (.if_icmp .ge 16, 3) := by decide +kernel
theorem dX3_shiftByOrder_8 : decode cX3_shiftByOrder 8 = .ok (.aload_n 0, 1) := by decide +kernel
theorem dX3_shiftByOrder_9 : decode cX3_shiftByOrder 9 = .ok (.getfield 9, 3) := by decide +kernel
theorem dX3_shiftByOrder_12 : decode cX3_shiftByOrder 12 = .ok (.aload_n 0, 1) := by decide +kernel
theorem dX3_shiftByOrder_13 : decode cX3_shiftByOrder 13 = .ok (.getfield 15, 3) := by decide +kernel
theorem dX3_shiftByOrder_16 : decode cX3_shiftByOrder 16 = .ok (.iload_n 1, 1) := by decide +kernel
theorem dX3_shiftByOrder_17 : decode cX3_shiftByOrder 17 = .ok (.invokevirtual 65, 3) := by decide +kernel
theorem dX3_shiftByOrder_20 : decode cX3_shiftByOrder 20 = .ok (.ireturn, 1) := by decide +kernel
theorem dX3_shiftByOrder_21 : decode cX3_shiftByOrder 21 = .ok (.aload_n 0, 1) := by decide +kernel
theorem dX3_shiftByOrder_22 : decode cX3_shiftByOrder 22 = .ok (.getfield 15, 3) := by decide +kernel
theorem dX3_shiftByOrder_25 : decode cX3_shiftByOrder 25 = .ok (.iconst 3, 1) := by decide +kernel
theorem dX3_shiftByOrder_26 : decode cX3_shiftByOrder 26 = .ok (.if_icmp .ne 29, 3) := by decide +kernel
theorem dX3_shiftByOrder_29 : decode cX3_shiftByOrder 29 = .ok (.aload_n 0, 1) := by decide +kernel
theorem dX3_shiftByOrder_30 : decode cX3_shiftByOrder 30 = .ok (.getfield 9, 3) := by decide +kernel
theorem dX3_shiftByOrder_33 : decode cX3_shiftByOrder 33 = .ok (.iconst 2, 1) := by decide +kernel
theorem dX3_shiftByOrder_34 : decode cX3_shiftByOrder 34 = .ok (.aload_n 0, 1) := by decide +kernel
theorem dX3_shiftByOrder_35 : decode cX3_shiftByOrder 35 = .ok (.getfield 9, 3) := by decide +kernel
theorem dX3_shiftByOrder_38 : decode cX3_shiftByOrder 38 = .ok (.iconst 1, 1) := by decide +kernel
theorem dX3_shiftByOrder_39 : decode cX3_shiftByOrder 39 = .ok (.aload_n 0, 1) := by decide +kernel
theorem dX3_shiftByOrder_40 : decode cX3_shiftByOrder 40 = .ok (.getfield 9, 3) := by decide +kernel
theorem dX3_shiftByOrder_43 : decode cX3_shiftByOrder 43 = .ok (.iconst 0, 1) := by decide +kernel
theorem dX3_shiftByOrder_44 : decode cX3_shiftByOrder 44 = .ok (.iload_n 1, 1) := by decide +kernel
theorem dX3_shiftByOrder_45 : decode cX3_shiftByOrder 45 = .ok (.invokevirtual 65, 3) := by decide +kernel
theorem dX3_shiftByOrder_48 : decode cX3_shiftByOrder 48 = .ok (.invokevirtual 65, 3) := by decide +kernel
theorem dX3_shiftByOrder_51 : decode cX3_shiftByOrder 51 = .ok (.invokevirtual 65, 3) := by decide +kernel
theorem dX3_shiftByOrder_54 : decode cX3_shiftByOrder 54 = .ok (.ireturn, 1) := by decide +kernel
theorem dX3_shiftByOrder_55 : decode cX3_shiftByOrder 55 = .ok (.aload_n 0, 1) := by decide +kernel
theorem dX3_shiftByOrder_56 : decode cX3_shiftByOrder 56 = .ok (.getfield 15, 3) := by decide +kernel
theorem dX3_shiftByOrder_59 : decode cX3_shiftByOrder 59 = .ok (.iconst 4, 1) := by decide +kernel
theorem dX3_shiftByOrder_60 : decode cX3_shiftByOrder 60 = .ok (.if_icmp .ne 11, 3) := by decide +kernel
theorem dX3_shiftByOrder_63 : decode cX3_shiftByOrder 63 = .ok (.aload_n 0, 1) := by decide +kernel
theorem dX3_shiftByOrder_64 : decode cX3_shiftByOrder 64 = .ok (.iload_n 1, 1) := by decide +kernel
theorem dX3_shiftByOrder_65 : decode cX3_shiftByOrder 65 = .ok (.invokevirtual 69, 3) := by decide +kernel
theorem dX3_shiftByOrder_68 : decode cX3_shiftByOrder 68 = .ok (.goto 8, 3) := by decide +kernel
theorem dX3_shiftByOrder_71 : decode cX3_shiftByOrder 71 = .ok (.aload_n 0, 1) := by decide +kernel
theorem dX3_shiftByOrder_72 : decode cX3_shiftByOrder 72 = .ok (.iload_n 1, 1) := by decide +kernel
theorem dX3_shiftByOrder_73 : decode cX3_shiftByOrder 73 = .ok (.invokevirtual 72, 3) := by decide +kernel
theorem dX3_shiftByOrder_76 : decode cX3_shiftByOrder 76 = .ok (.ireturn, 1) := by decide +kernel
theorem dX3_shiftRow_0 : decode cX3_shiftRow 0 = .ok (.aload_n 0, 1) := by decide +kernel
theorem dX3_shiftRow_1 : decode cX3_shiftRow 1 = .ok (.getfield 41, 3) := by decide +kernel
theorem dX3_shiftRow_4 : decode cX3_shiftRow 4 = .ok (.iconst 1, 1) := by decide +kernel
theorem dX3_shiftRow_5 : decode cX3_shiftRow 5 = .ok (.iand, 1) := by decide +kernel
theorem dX3_shiftRow_6 : decode cX3_shiftRow 6 = .ok (.istore_n 2, 1) := by decide +kernel
theorem dX3_shiftRow_7 : decode cX3_shiftRow 7 = .ok (.aload_n 0, 1) := by decide +kernel
theorem dX3_shiftRow_8 : decode cX3_shiftRow 8 = .ok (.aload_n 0, 1) := by decide +kernel
theorem dX3_shiftRow_9 : decode cX3_shiftRow 9 = .ok (.getfield 41, 3) := by decide +kernel
theorem dX3_shiftRow_12 : decode cX3_shiftRow 12 = .ok (.iconst 1, 1) := by decide +kernel
theorem dX3_shiftRow_13 : decode cX3_shiftRow 13 = .ok (.ishr, 1) := by decide +kernel
theorem dX3_shiftRow_14 : decode cX3_shiftRow 14 = .ok (.iload_n 1, 1) := by decide +kernel
theorem dX3_shiftRow_15 : decode cX3_shiftRow 15 = .ok (.iconst 2, 1) := by decide +kernel
theorem dX3_shiftRow_16 : decode cX3_shiftRow 16 = .ok (.ishl, 1) := by decide +kernel
theorem dX3_shiftRow_17 : decode cX3_shiftRow 17 = .ok (.ior, 1) := by decide +kernel
theorem dX3_shiftRow_18 : decode cX3_shiftRow 18 = .ok (.putfield 41, 3) := by decide +kernel
theorem dX3_shiftRow_21 : decode cX3_shiftRow 21 = .ok (.iload_n 2, 1) := by decide +kernel
theorem dX3_shiftRow_22 : decode cX3_shiftRow 22 = .ok (.ireturn, 1) := by decide +kernel
theorem dX3_shiftTagRow_0 : decode cX3_shiftTagRow 0 = .ok (.aload_n 0, 1) := by decide +kernel
theorem dX3_shiftTagRow_1 : decode cX3_shiftTagRow 1 = .ok (.getfield 59, 3) := by decide +kernel
theorem dX3_shiftTagRow_4 : decode cX3_shiftTagRow 4 = .ok (.iconst 1, 1) := by decide +kernel
theorem dX3_shiftTagRow_5 : decode cX3_shiftTagRow 5 = .ok (.iand, 1) := by decide +kernel
theorem dX3_shiftTagRow_6 : decode cX3_shiftTagRow 6 = .ok (.istore_n 2, 1) := by decide +kernel
theorem dX3_shiftTagRow_7 : decode cX3_shiftTagRow 7 = .ok (.aload_n 0, 1) := by decide +kernel
theorem dX3_shiftTagRow_8 : decode cX3_shiftTagRow 8 = .ok (.aload_n 0, 1) := by decide +kernel
theorem dX3_shiftTagRow_9 : decode cX3_shiftTagRow 9 = .ok (.getfield 59, 3) := by decide +kernel
theorem dX3_shiftTagRow_12 : decode cX3_shiftTagRow 12 = .ok (.iconst 1, 1) := by decide +kernel
theorem dX3_shiftTagRow_13 : decode cX3_shiftTagRow 13 = .ok (.ishr, 1) := by decide +kernel
theorem dX3_shiftTagRow_14 : decode cX3_shiftTagRow 14 = .ok (.iload_n 1, 1) := by decide +kernel
theorem dX3_shiftTagRow_15 : decode cX3_shiftTagRow 15 = .ok (.bipush 15, 2) := by decide +kernel
theorem dX3_shiftTagRow_17 : decode cX3_shiftTagRow 17 = .ok (.ishl, 1) := by decide +kernel
theorem dX3_shiftTagRow_18 : decode cX3_shiftTagRow 18 = .ok (.ior, 1) := by decide +kernel
theorem dX3_shiftTagRow_19 : decode cX3_shiftTagRow 19 = .ok (.putfield 59, 3) := by decide +kernel
theorem dX3_shiftTagRow_22 : decode cX3_shiftTagRow 22 = .ok (.iload_n 2, 1) := by decide +kernel
theorem dX3_shiftTagRow_23 : decode cX3_shiftTagRow 23 = .ok (.ireturn, 1) := by decide +kernel
theorem dX3_swapAside_0 : decode cX3_swapAside 0 = .ok (.aload_n 0, 1) := by decide +kernel
theorem dX3_swapAside_1 : decode cX3_swapAside 1 = .ok (.getfield 62, 3) := by decide +kernel
theorem dX3_swapAside_4 : decode cX3_swapAside 4 = .ok (.istore_n 2, 1) := by decide +kernel
theorem dX3_swapAside_5 : decode cX3_swapAside 5 = .ok (.aload_n 0, 1) := by decide +kernel
theorem dX3_swapAside_6 : decode cX3_swapAside 6 = .ok (.iload_n 1, 1) := by decide +kernel
theorem dX3_swapAside_7 : decode cX3_swapAside 7 = .ok (.putfield 62, 3) := by decide +kernel
theorem dX3_swapAside_10 : decode cX3_swapAside 10 = .ok (.iload_n 2, 1) := by decide +kernel
theorem dX3_swapAside_11 : decode cX3_swapAside 11 = .ok (.ireturn, 1) := by decide +kernel
theorem dX4_init_0 : decode cX4_init 0 = .ok (.aload_n 0, 1) := by decide +kernel
theorem dX4_init_1 : decode cX4_init 1 = .ok (.invokespecial 3, 3) := by decide +kernel
theorem dX4_init_4 : decode cX4_init 4 = .ok (.aload_n 0, 1) := by decide +kernel
theorem dX4_init_5 : decode cX4_init 5 = .ok (.bipush 20, 2) := by decide +kernel
theorem dX4_init_7 : decode cX4_init 7 = .ok (.newarray .int, 2) := by decide +kernel
theorem dX4_init_9 : decode cX4_init 9 = .ok (.putfield 9, 3) := by decide +kernel
theorem dX4_init_12 : decode cX4_init 12 = .ok (.aload_n 0, 1) := by decide +kernel
theorem dX4_init_13 : decode cX4_init 13 = .ok (.aload_n 1, 1) := by decide +kernel
theorem dX4_init_14 : decode cX4_init 14 = .ok (.putfield 15, 3) := by decide +kernel
theorem dX4_init_17 : decode cX4_init 17 = .ok (.return_, 1) := by decide +kernel
theorem dX4_run_0 : decode cX4_run 0 = .ok (.aload_n 1, 1) := by decide +kernel
theorem dX4_run_1 : decode cX4_run 1 = .ok (.getfield 19, 3) := by decide +kernel
theorem dX4_run_4 : decode cX4_run 4 = .ok (.istore 5, 2) := by decide +kernel
theorem dX4_run_6 : decode cX4_run 6 = .ok (.iconst 1, 1) := by decide +kernel
theorem dX4_run_7 : decode cX4_run 7 = .ok (.aload_n 0, 1) := by decide +kernel
theorem dX4_run_8 : decode cX4_run 8 = .ok (.getfield 15, 3) := by decide +kernel
theorem dX4_run_11 : decode cX4_run 11 = .ok (.invokevirtual 25, 3) := by decide +kernel
theorem dX4_run_14 : decode cX4_run 14 = .ok (.invokestatic 31, 3) := by decide +kernel
theorem dX4_run_17 : decode cX4_run 17 = .ok (.istore 6, 2) := by decide +kernel
theorem dX4_run_19 : decode cX4_run 19 = .ok (.aload_n 1, 1) := by decide +kernel
theorem dX4_run_20 : decode cX4_run 20 = .ok (.getfield 37, 3) := by decide +kernel
theorem dX4_run_23 : decode cX4_run 23 = .ok (.iload_n 2, 1) := by decide +kernel
theorem dX4_run_24 : decode cX4_run 24 = .ok (.invokevirtual 41, 3) := by decide +kernel
theorem dX4_run_27 : decode cX4_run 27 = .ok (.iconst 0, 1) := by decide +kernel
theorem dX4_run_28 : decode cX4_run 28 = .ok (.istore 7, 2) := by decide +kernel
theorem dX4_run_30 : decode cX4_run 30 = .ok (.iload 7, 2) := by decide +kernel
theorem dX4_run_32 : decode cX4_run 32 = .ok (.getstatic 47, 3) := by decide +kernel
theorem dX4_run_35 : decode cX4_run 35 = .ok (.arraylength, 1) := by decide +kernel
theorem dX4_run_36 : decode cX4_run 36 = .ok (.if_icmp .ge 26, 3) := by decide +kernel
theorem dX4_run_39 : decode cX4_run 39 = .ok (.aload_n 1, 1) := by decide +kernel
theorem dX4_run_40 : decode cX4_run 40 = .ok (.getstatic 47, 3) := by decide +kernel
theorem dX4_run_43 : decode cX4_run 43 = .ok (.iload 7, 2) := by decide +kernel
