theorem dX8_stitch_37 : decode cX8_stitch 37 = .ok (.istore_n 3, 1) := by decide +kernel
theorem dX8_stitch_38 : decode cX8_stitch 38 = .ok (.aload_n 0, 1) := by decide +kernel
theorem dX8_stitch_39 : decode cX8_stitch 39 = .ok (.getfield 19, 3) := by decide +kernel
theorem dX8_stitch_42 : decode cX8_stitch 42 = .ok (.iload_n 3, 1) := by decide +kernel
theorem dX8_stitch_43 : decode cX8_stitch 43 = .ok (.iload_n 2, 1) := by decide +kernel
theorem dX8_stitch_44 : decode cX8_stitch 44 = .ok (.aload_n 0, 1) := by decide +kernel
theorem dX8_stitch_45 : decode cX8_stitch 45 = .ok (.getfield 19, 3) := by decide +kernel
theorem dX8_stitch_48 : decode cX8_stitch 48 = .ok (.getfield 165, 3) := by decide +kernel
theorem dX8_stitch_51 : decode cX8_stitch 51 = .ok (.iload_n 3, 1) := by decide +kernel
theorem dX8_stitch_52 : decode cX8_stitch 52 = .ok (.iaload, 1) := by decide +kernel
theorem dX8_stitch_53 : decode cX8_stitch 53 = .ok (.iconst 0, 1) := by decide +kernel
theorem dX8_stitch_54 : decode cX8_stitch 54 = .ok (.invokevirtual 170, 3) := by decide +kernel
theorem dX8_stitch_57 : decode cX8_stitch 57 = .ok (.pop, 1) := by decide +kernel
theorem dX8_stitch_58 : decode cX8_stitch 58 = .ok (.iinc 1 1, 3) := by decide +kernel
theorem dX8_stitch_61 : decode cX8_stitch 61 = .ok (.iinc 2 1, 3) := by decide +kernel
theorem dX8_stitch_64 : decode cX8_stitch 64 = .ok (.goto (-60), 3) := by decide +kernel
theorem dX8_stitch_67 : decode cX8_stitch 67 = .ok (.iload_n 1, 1) := by decide +kernel
theorem dX8_stitch_68 : decode cX8_stitch 68 = .ok (.ireturn, 1) := by decide +kernel
theorem dX8_shift_0 : decode cX8_shift 0 = .ok (.iload_n 1, 1) := by decide +kernel
theorem dX8_shift_1 : decode cX8_shift 1 = .ok (.invokestatic 162, 3) := by decide +kernel
theorem dX8_shift_4 : decode cX8_shift 4 = .ok (.ifCond .ne 7, 3) := by decide +kernel
theorem dX8_shift_7 : decode cX8_shift 7 = .ok (.sipush (-1001), 3) := by decide +kernel
theorem dX8_shift_10 : decode cX8_shift 10 = .ok (.ireturn, 1) := by decide +kernel
theorem dX8_shift_11 : decode cX8_shift 11 = .ok (.iload_n 2, 1) := by decide +kernel
theorem dX8_shift_12 : decode cX8_shift 12 = .ok (.invokestatic 140, 3) := by decide +kernel
theorem dX8_shift_15 : decode cX8_shift 15 = .ok (.ifCond .ne 7, 3) := by decide +kernel
theorem dX8_shift_18 : decode cX8_shift 18 = .ok (.sipush (-1002), 3) := by decide +kernel
theorem dX8_shift_21 : decode cX8_shift 21 = .ok (.ireturn, 1) := by decide +kernel
theorem dX8_shift_22 : decode cX8_shift 22 = .ok (.aload_n 0, 1) := by decide +kernel
theorem dX8_shift_23 : decode cX8_shift 23 = .ok (.getfield 33, 3) := by decide +kernel
theorem dX8_shift_26 : decode cX8_shift 26 = .ok (.getfield 133, 3) := by decide +kernel
theorem dX8_shift_29 : decode cX8_shift 29 = .ok (.iload_n 1, 1) := by decide +kernel
theorem dX8_shift_30 : decode cX8_shift 30 = .ok (.iload_n 2, 1) := by decide +kernel
theorem dX8_shift_31 : decode cX8_shift 31 = .ok (.invokevirtual 185, 3) := by decide +kernel
theorem dX8_shift_34 : decode cX8_shift 34 = .ok (.ireturn, 1) := by decide +kernel
theorem dX8_tag_0 : decode cX8_tag 0 = .ok (.aload_n 0, 1) := by decide +kernel
theorem dX8_tag_1 : decode cX8_tag 1 = .ok (.getfield 33, 3) := by decide +kernel
theorem dX8_tag_4 : decode cX8_tag 4 = .ok (.getfield 189, 3) := by decide +kernel
theorem dX8_tag_7 : decode cX8_tag 7 = .ok (.istore_n 2, 1) := by decide +kernel
theorem dX8_tag_8 : decode cX8_tag 8 = .ok (.aload_n 0, 1) := by decide +kernel
theorem dX8_tag_9 : decode cX8_tag 9 = .ok (.getfield 33, 3) := by decide +kernel
theorem dX8_tag_12 : decode cX8_tag 12 = .ok (.iload_n 1, 1) := by decide +kernel
theorem dX8_tag_13 : decode cX8_tag 13 = .ok (.ldc 192, 2) := by decide +kernel
theorem dX8_tag_15 : decode cX8_tag 15 = .ok (.iand, 1) := by decide +kernel
theorem dX8_tag_16 : decode cX8_tag 16 = .ok (.putfield 189, 3) := by decide +kernel
theorem dX8_tag_19 : decode cX8_tag 19 = .ok (.iload_n 2, 1) := by decide +kernel
theorem dX8_tag_20 : decode cX8_tag 20 = .ok (.ireturn, 1) := by decide +kernel
theorem dX8_tick_0 : decode cX8_tick 0 = .ok (.iload_n 1, 1) := by decide +kernel
theorem dX8_tick_1 : decode cX8_tick 1 = .ok (.invokestatic 155, 3) := by decide +kernel
theorem dX8_tick_4 : decode cX8_tick 4 = .ok (.ifCond .eq 10, 3) := by decide +kernel
theorem dX8_tick_7 : decode cX8_tick 7 = .ok (.iload_n 2, 1) := by decide +kernel
theorem dX8_tick_8 : decode cX8_tick 8 = .ok (.invokestatic 155, 3) := by decide +kernel
theorem dX8_tick_11 : decode cX8_tick 11 = .ok (.ifCond .ne 7, 3) := by decide +kernel
theorem dX8_tick_14 : decode cX8_tick 14 = .ok (.sipush (-1002), 3) := by decide +kernel
theorem dX8_tick_17 : decode cX8_tick 17 = .ok (.ireturn, 1) := by decide +kernel
theorem dX8_tick_18 : decode cX8_tick 18 = .ok (.aload_n 0, 1) := by decide +kernel
theorem dX8_tick_19 : decode cX8_tick 19 = .ok (.getfield 33, 3) := by decide +kernel
theorem dX8_tick_22 : decode cX8_tick 22 = .ok (.iload_n 1, 1) := by decide +kernel
theorem dX8_tick_23 : decode cX8_tick 23 = .ok (.iload_n 2, 1) := by decide +kernel
theorem dX8_tick_24 : decode cX8_tick 24 = .ok (.invokevirtual 193, 3) := by decide +kernel
theorem dX8_tick_27 : decode cX8_tick 27 = .ok (.ireturn, 1) := by decide +kernel
theorem dX8_state_0 : decode cX8_state 0 = .ok (.iload_n 1, 1) := by decide +kernel
theorem dX8_state_1 : decode cX8_state 1 = .ok (.tableswitch 75 0 4 #[35, 43, 51, 59, 67], 35) := by decide +kernel
theorem dX8_state_36 : decode cX8_state 36 = .ok (.aload_n 0, 1) := by decide +kernel
theorem dX8_state_37 : decode cX8_state 37 = .ok (.getfield 33, 3) := by decide +kernel
theorem dX8_state_40 : decode cX8_state 40 = .ok (.getfield 196, 3) := by decide +kernel
theorem dX8_state_43 : decode cX8_state 43 = .ok (.ireturn, 1) := by decide +kernel
theorem dX8_state_44 : decode cX8_state 44 = .ok (.aload_n 0, 1) := by decide +kernel
theorem dX8_state_45 : decode cX8_state 45 = .ok (.getfield 33, 3) := by decide +kernel
theorem dX8_state_48 : decode cX8_state 48 = .ok (.getfield 199, 3) := by decide +kernel
theorem dX8_state_51 : decode cX8_state 51 = .ok (.ireturn, 1) := by decide +kernel
theorem dX8_state_52 : decode cX8_state 52 = .ok (.aload_n 0, 1) := by decide +kernel
theorem dX8_state_53 : decode cX8_state 53 = .ok (.getfield 33, 3) := by decide +kernel
theorem dX8_state_56 : decode cX8_state 56 = .ok (.getfield 202, 3) := by decide +kernel
theorem dX8_state_59 : decode cX8_state 59 = .ok (.ireturn, 1) := by decide +kernel
theorem dX8_state_60 : decode cX8_state 60 = .ok (.aload_n 0, 1) := by decide +kernel
theorem dX8_state_61 : decode cX8_state 61 = .ok (.getfield 33, 3) := by decide +kernel
theorem dX8_state_64 : decode cX8_state 64 = .ok (.getfield 205, 3) := by decide +kernel
theorem dX8_state_67 : decode cX8_state 67 = .ok (.ireturn, 1) := by decide +kernel
theorem dX8_state_68 : decode cX8_state 68 = .ok (.aload_n 0, 1) := by decide +kernel
theorem dX8_state_69 : decode cX8_state 69 = .ok (.getfield 33, 3) := by decide +kernel
theorem dX8_state_72 : decode cX8_state 72 = .ok (.getfield 208, 3) := by decide +kernel
theorem dX8_state_75 : decode cX8_state 75 = .ok (.ireturn, 1) := by decide +kernel
theorem dX8_state_76 : decode cX8_state 76 = .ok (.sipush (-1002), 3) := by decide +kernel
theorem dX8_state_79 : decode cX8_state 79 = .ok (.ireturn, 1) := by decide +kernel
theorem dX8_test_0 : decode cX8_test 0 = .ok (.iload_n 1, 1) := by decide +kernel
theorem dX8_test_1 : decode cX8_test 1 = .ok (.aload_n 0, 1) := by decide +kernel
theorem dX8_test_2 : decode cX8_test 2 = .ok (.getfield 10, 3) := by decide +kernel
theorem dX8_test_5 : decode cX8_test 5 = .ok (.getfield 77, 3) := by decide +kernel
theorem dX8_test_8 : decode cX8_test 8 = .ok (.iushr, 1) := by decide +kernel
theorem dX8_test_9 : decode cX8_test 9 = .ok (.ifCond .ne 15, 3) := by decide +kernel
theorem dX8_test_12 : decode cX8_test 12 = .ok (.iload_n 2, 1) := by decide +kernel
theorem dX8_test_13 : decode cX8_test 13 = .ok (.aload_n 0, 1) := by decide +kernel
theorem dX8_test_14 : decode cX8_test 14 = .ok (.getfield 10, 3) := by decide +kernel
theorem dX8_test_17 : decode cX8_test 17 = .ok (.getfield 96, 3) := by decide +kernel
theorem dX8_test_20 : decode cX8_test 20 = .ok (.iushr, 1) := by decide +kernel
theorem dX8_test_21 : decode cX8_test 21 = .ok (.ifCond .eq 7, 3) := by decide +kernel
theorem dX8_test_24 : decode cX8_test 24 = .ok (.sipush (-1002), 3) := by decide +kernel
theorem dX8_test_27 : decode cX8_test 27 = .ok (.ireturn, 1) := by decide +kernel
theorem dX8_test_28 : decode cX8_test 28 = .ok (.aload_n 0, 1) := by decide +kernel
theorem dX8_test_29 : decode cX8_test 29 = .ok (.getfield 40, 3) := by decide +kernel
theorem dX8_test_32 : decode cX8_test 32 = .ok (.getfield 118, 3) := by decide +kernel
theorem dX8_test_35 : decode cX8_test 35 = .ok (.bipush 20, 2) := by decide +kernel
theorem dX8_test_37 : decode cX8_test 37 = .ok (.if_icmp .lt 7, 3) := by decide +kernel
theorem dX8_test_40 : decode cX8_test 40 = .ok (.sipush (-1004), 3) := by decide +kernel
theorem dX8_test_43 : decode cX8_test 43 = .ok (.ireturn, 1) := by decide +kernel
theorem dX8_test_44 : decode cX8_test 44 = .ok (.aload_n 0, 1) := by decide +kernel
theorem dX8_test_45 : decode cX8_test 45 = .ok (.getfield 40, 3) := by decide +kernel
theorem dX8_test_48 : decode cX8_test 48 = .ok (.iload_n 1, 1) := by decide +kernel
theorem dX8_test_49 : decode cX8_test 49 = .ok (.iload_n 2, 1) := by decide +kernel
theorem dX8_test_50 : decode cX8_test 50 = .ok (.invokevirtual 211, 3) := by decide +kernel
theorem dX8_test_53 : decode cX8_test 53 = .ok (.ireturn, 1) := by decide +kernel
theorem dX8_drive_0 : decode cX8_drive 0 = .ok (.aload_n 0, 1) := by decide +kernel
theorem dX8_drive_1 : decode cX8_drive 1 = .ok (.getfield 40, 3) := by decide +kernel
theorem dX8_drive_4 : decode cX8_drive 4 = .ok (.iload_n 1, 1) := by decide +kernel
theorem dX8_drive_5 : decode cX8_drive 5 = .ok (.invokevirtual 214, 3) := by decide +kernel
theorem dX8_drive_8 : decode cX8_drive 8 = .ok (.ifCond .ne 7, 3) := by decide +kernel
theorem dX8_drive_11 : decode cX8_drive 11 = .ok (.sipush (-1001), 3) := by decide +kernel
theorem dX8_drive_14 : decode cX8_drive 14 = .ok (.ireturn, 1) := by decide +kernel
theorem dX8_drive_15 : decode cX8_drive 15 = .ok (.aload_n 0, 1) := by decide +kernel
theorem dX8_drive_16 : decode cX8_drive 16 = .ok (.getfield 49, 3) := by decide +kernel
theorem dX8_drive_19 : decode cX8_drive 19 = .ok (.aload_n 0, 1) := by decide +kernel
theorem dX8_drive_20 : decode cX8_drive 20 = .ok (.getfield 33, 3) := by decide +kernel
theorem dX8_drive_23 : decode cX8_drive 23 = .ok (.aload_n 0, 1) := by decide +kernel
theorem dX8_drive_24 : decode cX8_drive 24 = .ok (.getfield 40, 3) := by decide +kernel
theorem dX8_drive_27 : decode cX8_drive 27 = .ok (.getfield 217, 3) := by decide +kernel
theorem dX8_drive_30 : decode cX8_drive 30 = .ok (.iload_n 1, 1) := by decide +kernel
theorem dX8_drive_31 : decode cX8_drive 31 = .ok (.iaload, 1) := by decide +kernel
theorem dX8_drive_32 : decode cX8_drive 32 = .ok (.aload_n 0, 1) := by decide +kernel
theorem dX8_drive_33 : decode cX8_drive 33 = .ok (.getfield 40, 3) := by decide +kernel
theorem dX8_drive_36 : decode cX8_drive 36 = .ok (.getfield 220, 3) := by decide +kernel
theorem dX8_drive_39 : decode cX8_drive 39 = .ok (.iload_n 1, 1) := by decide +kernel
theorem dX8_drive_40 : decode cX8_drive 40 = .ok (.iaload, 1) := by decide +kernel
theorem dX8_drive_41 : decode cX8_drive 41 = .ok (.aload_n 0, 1) := by decide +kernel
theorem dX8_drive_42 : decode cX8_drive 42 = .ok (.getfield 65, 3) := by decide +kernel
theorem dX8_drive_45 : decode cX8_drive 45 = .ok (.invokevirtual 223, 3) := by decide +kernel
theorem dX8_drive_48 : decode cX8_drive 48 = .ok (.ireturn, 1) := by decide +kernel
theorem dX8_seen_0 : decode cX8_seen 0 = .ok (.iload_n 1, 1) := by decide +kernel
theorem dX8_seen_1 : decode cX8_seen 1 = .ok (.ifCond .ne 32, 3) := by decide +kernel
theorem dX8_seen_4 : decode cX8_seen 4 = .ok (.iload_n 2, 1) := by decide +kernel
theorem dX8_seen_5 : decode cX8_seen 5 = .ok (.ifCond .lt 26, 3) := by decide +kernel
theorem dX8_seen_8 : decode cX8_seen 8 = .ok (.iload_n 2, 1) := by decide +kernel
theorem dX8_seen_9 : decode cX8_seen 9 = .ok (.aload_n 0, 1) := by decide +kernel
theorem dX8_seen_10 : decode cX8_seen 10 = .ok (.getfield 65, 3) := by decide +kernel
theorem dX8_seen_13 : decode cX8_seen 13 = .ok (.getfield 227, 3) := by decide +kernel
theorem dX8_seen_16 : decode cX8_seen 16 = .ok (.if_icmp .ge 15, 3) := by decide +kernel
theorem dX8_seen_19 : decode cX8_seen 19 = .ok (.aload_n 0, 1) := by decide +kernel
theorem dX8_seen_20 : decode cX8_seen 20 = .ok (.getfield 65, 3) := by decide +kernel
theorem dX8_seen_23 : decode cX8_seen 23 = .ok (.getfield 228, 3) := by decide +kernel
theorem dX8_seen_26 : decode cX8_seen 26 = .ok (.iload_n 2, 1) := by decide +kernel
theorem dX8_seen_27 : decode cX8_seen 27 = .ok (.iaload, 1) := by decide +kernel
theorem dX8_seen_28 : decode cX8_seen 28 = .ok (.goto 4, 3) := by decide +kernel
theorem dX8_seen_31 : decode cX8_seen 31 = .ok (.iconst (-1), 1) := by decide +kernel
theorem dX8_seen_32 : decode cX8_seen 32 = .ok (.ireturn, 1) := by decide +kernel
theorem dX8_seen_33 : decode cX8_seen 33 = .ok (.iload_n 1, 1) := by decide +kernel
theorem dX8_seen_34 : decode cX8_seen 34 = .ok (.iconst 1, 1) := by decide +kernel
theorem dX8_seen_35 : decode cX8_seen 35 = .ok (.if_icmp .ne 32, 3) := by decide +kernel
theorem dX8_seen_38 : decode cX8_seen 38 = .ok (.iload_n 2, 1) := by decide +kernel
theorem dX8_seen_39 : decode cX8_seen 39 = .ok (.ifCond .lt 26, 3) := by decide +kernel
theorem dX8_seen_42 : decode cX8_seen 42 = .ok (.iload_n 2, 1) := by decide +kernel
theorem dX8_seen_43 : decode cX8_seen 43 = .ok (.aload_n 0, 1) := by decide +kernel
theorem dX8_seen_44 : decode cX8_seen 44 = .ok (.getfield 65, 3) := by decide +kernel
theorem dX8_seen_47 : decode cX8_seen 47 = .ok (.getfield 231, 3) := by decide +kernel
theorem dX8_seen_50 : decode cX8_seen 50 = .ok (.if_icmp .ge 15, 3) := by decide +kernel
theorem dX8_seen_53 : decode cX8_seen 53 = .ok (.aload_n 0, 1) := by decide +kernel
theorem dX8_seen_54 : decode cX8_seen 54 = .ok (.getfield 65, 3) := by decide +kernel
theorem dX8_seen_57 : decode cX8_seen 57 = .ok (.getfield 234, 3) := by decide +kernel
theorem dX8_seen_60 : decode cX8_seen 60 = .ok (.iload_n 2, 1) := by decide +kernel
theorem dX8_seen_61 : decode cX8_seen 61 = .ok (.iaload, 1) := by decide +kernel
theorem dX8_seen_62 : decode cX8_seen 62 = .ok (.goto 4, 3) := by decide +kernel
theorem dX8_seen_65 : decode cX8_seen 65 = .ok (.iconst (-1), 1) := by decide +kernel
theorem dX8_seen_66 : decode cX8_seen 66 = .ok (.ireturn, 1) := by decide +kernel
theorem dX8_seen_67 : decode cX8_seen 67 = .ok (.sipush (-1002), 3) := by decide +kernel
theorem dX8_seen_70 : decode cX8_seen 70 = .ok (.ireturn, 1) := by decide +kernel
theorem dX8_shows_0 : decode cX8_shows 0 = .ok (.aload_n 0, 1) := by decide +kernel
theorem dX8_shows_1 : decode cX8_shows 1 = .ok (.getfield 40, 3) := by decide +kernel
theorem dX8_shows_4 : decode cX8_shows 4 = .ok (.iload_n 1, 1) := by decide +kernel
theorem dX8_shows_5 : decode cX8_shows 5 = .ok (.invokevirtual 214, 3) := by decide +kernel
theorem dX8_shows_8 : decode cX8_shows 8 = .ok (.ifCond .eq 14, 3) := by decide +kernel
theorem dX8_shows_11 : decode cX8_shows 11 = .ok (.aload_n 0, 1) := by decide +kernel
theorem dX8_shows_12 : decode cX8_shows 12 = .ok (.getfield 10, 3) := by decide +kernel
theorem dX8_shows_15 : decode cX8_shows 15 = .ok (.iload_n 2, 1) := by decide +kernel
theorem dX8_shows_16 : decode cX8_shows 16 = .ok (.invokevirtual 88, 3) := by decide +kernel
theorem dX8_shows_19 : decode cX8_shows 19 = .ok (.ifCond .ne 7, 3) := by decide +kernel
theorem dX8_shows_22 : decode cX8_shows 22 = .ok (.sipush (-1001), 3) := by decide +kernel
theorem dX8_shows_25 : decode cX8_shows 25 = .ok (.ireturn, 1) := by decide +kernel
theorem dX8_shows_26 : decode cX8_shows 26 = .ok (.iload_n 3, 1) := by decide +kernel
theorem dX8_shows_27 : decode cX8_shows 27 = .ok (.invokestatic 155, 3) := by decide +kernel
theorem dX8_shows_30 : decode cX8_shows 30 = .ok (.ifCond .ne 7, 3) := by decide +kernel
theorem dX8_shows_33 : decode cX8_shows 33 = .ok (.sipush (-1002), 3) := by decide +kernel
theorem dX8_shows_36 : decode cX8_shows 36 = .ok (.ireturn, 1) := by decide +kernel
theorem dX8_shows_37 : decode cX8_shows 37 = .ok (.aload_n 0, 1) := by decide +kernel
theorem dX8_shows_38 : decode cX8_shows 38 = .ok (.getfield 58, 3) := by decide +kernel
theorem dX8_shows_41 : decode cX8_shows 41 = .ok (.iload_n 1, 1) := by decide +kernel
theorem dX8_shows_42 : decode cX8_shows 42 = .ok (.invokevirtual 237, 3) := by decide +kernel
theorem dX8_shows_45 : decode cX8_shows 45 = .ok (.aload_n 0, 1) := by decide +kernel
theorem dX8_shows_46 : decode cX8_shows 46 = .ok (.getfield 58, 3) := by decide +kernel
theorem dX8_shows_49 : decode cX8_shows 49 = .ok (.iload_n 2, 1) := by decide +kernel
theorem dX8_shows_50 : decode cX8_shows 50 = .ok (.iload_n 3, 1) := by decide +kernel
theorem dX8_shows_51 : decode cX8_shows 51 = .ok (.invokevirtual 240, 3) := by decide +kernel
theorem dX8_shows_54 : decode cX8_shows 54 = .ok (.ifCond .eq 7, 3) := by decide +kernel
theorem dX8_shows_57 : decode cX8_shows 57 = .ok (.iconst 1, 1) := by decide +kernel
theorem dX8_shows_58 : decode cX8_shows 58 = .ok (.goto 4, 3) := by decide +kernel
theorem dX8_shows_61 : decode cX8_shows 61 = .ok (.iconst 0, 1) := by decide +kernel
theorem dX8_shows_62 : decode cX8_shows 62 = .ok (.ireturn, 1) := by decide +kernel
theorem dX8_shownBy_0 : decode cX8_shownBy 0 = .ok (.aload_n 0, 1) := by decide +kernel
theorem dX8_shownBy_1 : decode cX8_shownBy 1 = .ok (.getfield 10, 3) := by decide +kernel
theorem dX8_shownBy_4 : decode cX8_shownBy 4 = .ok (.iload_n 1, 1) := by decide +kernel
theorem dX8_shownBy_5 : decode cX8_shownBy 5 = .ok (.invokevirtual 88, 3) := by decide +kernel
theorem dX8_shownBy_8 : decode cX8_shownBy 8 = .ok (.ifCond .ne 7, 3) := by decide +kernel
theorem dX8_shownBy_11 : decode cX8_shownBy 11 = .ok (.sipush (-1001), 3) := by decide +kernel
theorem dX8_shownBy_14 : decode cX8_shownBy 14 = .ok (.ireturn, 1) := by decide +kernel
theorem dX8_shownBy_15 : decode cX8_shownBy 15 = .ok (.iload_n 2, 1) := by decide +kernel
theorem dX8_shownBy_16 : decode cX8_shownBy 16 = .ok (.invokestatic 155, 3) := by decide +kernel
theorem dX8_shownBy_19 : decode cX8_shownBy 19 = .ok (.ifCond .ne 7, 3) := by decide +kernel
theorem dX8_shownBy_22 : decode cX8_shownBy 22 = .ok (.sipush (-1002), 3) := by decide +kernel
theorem dX8_shownBy_25 : decode cX8_shownBy 25 = .ok (.ireturn, 1) := by decide +kernel
theorem dX8_shownBy_26 : decode cX8_shownBy 26 = .ok (.iconst 0, 1) := by decide +kernel
theorem dX8_shownBy_27 : decode cX8_shownBy 27 = .ok (.istore_n 3, 1) := by decide +kernel
theorem dX8_shownBy_28 : decode cX8_shownBy 28 = .ok (.iload_n 3, 1) := by decide +kernel
theorem dX8_shownBy_29 : decode cX8_shownBy 29 = .ok (.aload_n 0, 1) := by decide +kernel
theorem dX8_shownBy_30 : decode cX8_shownBy 30 = .ok (.getfield 40, 3) := by decide +kernel
theorem dX8_shownBy_33 : decode cX8_shownBy 33 = .ok (.getfield 118, 3) := by decide +kernel
theorem dX8_shownBy_36 : decode cX8_shownBy 36 = .ok (.if_icmp .ge 31, 3) := by decide +kernel
theorem dX8_shownBy_39 : decode cX8_shownBy 39 = .ok (.aload_n 0, 1) := by decide +kernel
theorem dX8_shownBy_40 : decode cX8_shownBy 40 = .ok (.getfield 58, 3) := by decide +kernel
theorem dX8_shownBy_43 : decode cX8_shownBy 43 = .ok (.iload_n 3, 1) := by decide +kernel
theorem dX8_shownBy_44 : decode cX8_shownBy 44 = .ok (.invokevirtual 237, 3) := by decide +kernel
theorem dX8_shownBy_47 : decode cX8_shownBy 47 = .ok (.aload_n 0, 1) := by decide +kernel
theorem dX8_shownBy_48 : decode cX8_shownBy 48 = .ok (.getfield 58, 3) := by decide +kernel
theorem dX8_shownBy_51 : decode cX8_shownBy 51 = .ok (.iload_n 1, 1) := by decide +kernel
theorem dX8_shownBy_52 : decode cX8_shownBy 52 = .ok (.iload_n 2, 1) := by decide +kernel
theorem dX8_shownBy_53 : decode cX8_shownBy 53 = .ok (.invokevirtual 240, 3) := by decide +kernel
theorem dX8_shownBy_56 : decode cX8_shownBy 56 = .ok (.ifCond .eq 5, 3) := by decide +kernel
theorem dX8_shownBy_59 : decode cX8_shownBy 59 = .ok (.iload_n 3, 1) := by decide +kernel
theorem dX8_shownBy_60 : decode cX8_shownBy 60 = .ok (.ireturn, 1) := by decide +kernel
theorem dX8_shownBy_61 : decode cX8_shownBy 61 = .ok (.iinc 3 1, 3) := by decide +kernel
theorem dX8_shownBy_64 : decode cX8_shownBy 64 = .ok (.goto (-36), 3) := by decide +kernel
theorem dX8_shownBy_67 : decode cX8_shownBy 67 = .ok (.iconst (-1), 1) := by decide +kernel
theorem dX8_shownBy_68 : decode cX8_shownBy 68 = .ok (.ireturn, 1) := by decide +kernel
theorem dX8_covers_0 : decode cX8_covers 0 = .ok (.aload_n 0, 1) := by decide +kernel
theorem dX8_covers_1 : decode cX8_covers 1 = .ok (.getfield 69, 3) := by decide +kernel
theorem dX8_covers_4 : decode cX8_covers 4 = .ok (.iconst 0, 1) := by decide +kernel
theorem dX8_covers_5 : decode cX8_covers 5 = .ok (.invokestatic 244, 3) := by decide +kernel
theorem dX8_covers_8 : decode cX8_covers 8 = .ok (.iconst 0, 1) := by decide +kernel
theorem dX8_covers_9 : decode cX8_covers 9 = .ok (.istore_n 1, 1) := by decide +kernel
theorem dX8_covers_10 : decode cX8_covers 10 = .ok (.iconst 0, 1) := by decide +kernel
theorem dX8_covers_11 : decode cX8_covers 11 = .ok (.istore_n 2, 1) := by decide +kernel
theorem dX8_covers_12 : decode cX8_covers 12 = .ok (.iload_n 2, 1) := by decide +kernel
theorem dX8_covers_13 : decode cX8_covers 13 = .ok (.aload_n 0, 1) := by decide +kernel
theorem dX8_covers_14 : decode cX8_covers 14 = .ok (.getfield 40, 3) := by decide +kernel
theorem dX8_covers_17 : decode cX8_covers 17 = .ok (.getfield 118, 3) := by decide +kernel
theorem dX8_covers_20 : decode cX8_covers 20 = .ok (.if_icmp .ge 73, 3) := by decide +kernel
theorem dX8_covers_23 : decode cX8_covers 23 = .ok (.aload_n 0, 1) := by decide +kernel
theorem dX8_covers_24 : decode cX8_covers 24 = .ok (.getfield 58, 3) := by decide +kernel
theorem dX8_covers_27 : decode cX8_covers 27 = .ok (.iload_n 2, 1) := by decide +kernel
theorem dX8_covers_28 : decode cX8_covers 28 = .ok (.invokevirtual 237, 3) := by decide +kernel
theorem dX8_covers_31 : decode cX8_covers 31 = .ok (.iconst 0, 1) := by decide +kernel
theorem dX8_covers_32 : decode cX8_covers 32 = .ok (.istore_n 3, 1) := by decide +kernel
theorem dX8_covers_33 : decode cX8_covers 33 = .ok (.iload_n 3, 1) := by decide +kernel
theorem dX8_covers_34 : decode cX8_covers 34 = .ok (.iconst 2, 1) := by decide +kernel
theorem dX8_covers_35 : decode cX8_covers 35 = .ok (.aload_n 0, 1) := by decide +kernel
theorem dX8_covers_36 : decode cX8_covers 36 = .ok (.getfield 10, 3) := by decide +kernel
theorem dX8_covers_39 : decode cX8_covers 39 = .ok (.getfield 73, 3) := by decide +kernel
theorem dX8_covers_42 : decode cX8_covers 42 = .ok (.imul, 1) := by decide +kernel
theorem dX8_covers_43 : decode cX8_covers 43 = .ok (.if_icmp .ge 44, 3) := by decide +kernel
theorem dX8_covers_46 : decode cX8_covers 46 = .ok (.aload_n 0, 1) := by decide +kernel
theorem dX8_covers_47 : decode cX8_covers 47 = .ok (.getfield 69, 3) := by decide +kernel
theorem dX8_covers_50 : decode cX8_covers 50 = .ok (.iload_n 3, 1) := by decide +kernel
theorem dX8_covers_51 : decode cX8_covers 51 = .ok (.iaload, 1) := by decide +kernel
theorem dX8_covers_52 : decode cX8_covers 52 = .ok (.ifCond .ne 29, 3) := by decide +kernel
theorem dX8_covers_55 : decode cX8_covers 55 = .ok (.aload_n 0, 1) := by decide +kernel
theorem dX8_covers_56 : decode cX8_covers 56 = .ok (.getfield 58, 3) := by decide +kernel
theorem dX8_covers_59 : decode cX8_covers 59 = .ok (.iload_n 3, 1) := by decide +kernel
theorem dX8_covers_60 : decode cX8_covers 60 = .ok (.iconst 1, 1) := by decide +kernel
theorem dX8_covers_61 : decode cX8_covers 61 = .ok (.ishr, 1) := by decide +kernel
theorem dX8_covers_62 : decode cX8_covers 62 = .ok (.iload_n 3, 1) := by decide +kernel
theorem dX8_covers_63 : decode cX8_covers 63 = .ok (.iconst 1, 1) := by decide +kernel
theorem dX8_covers_64 : decode cX8_covers 64 = .ok (.iand, 1) := by decide +kernel
theorem dX8_covers_65 : decode cX8_covers 65 = .ok (.invokevirtual 240, 3) := by decide +kernel
theorem dX8_covers_68 : decode cX8_covers 68 = .ok (.ifCond .eq 13, 3) := by decide +kernel
theorem dX8_covers_71 : decode cX8_covers 71 = .ok (.aload_n 0, 1) := by decide +kernel
theorem dX8_covers_72 : decode cX8_covers 72 = .ok (.getfield 69, 3) := by decide +kernel
theorem dX8_covers_75 : decode cX8_covers 75 = .ok (.iload_n 3, 1) := by decide +kernel
theorem dX8_covers_76 : decode cX8_covers 76 = .ok (.iconst 1, 1) := by decide +kernel
theorem dX8_covers_77 : decode cX8_covers 77 = .ok (.iastore, 1) := by decide +kernel
theorem dX8_covers_78 : decode cX8_covers 78 = .ok (.iinc 1 1, 3) := by decide +kernel
theorem dX8_covers_81 : decode cX8_covers 81 = .ok (.iinc 3 1, 3) := by decide +kernel
theorem dX8_covers_84 : decode cX8_covers 84 = .ok (.goto (-51), 3) := by decide +kernel
theorem dX8_covers_87 : decode cX8_covers 87 = .ok (.iinc 2 1, 3) := by decide +kernel
theorem dX8_covers_90 : decode cX8_covers 90 = .ok (.goto (-78), 3) := by decide +kernel
theorem dX8_covers_93 : decode cX8_covers 93 = .ok (.iload_n 1, 1) := by decide +kernel
theorem dX8_covers_94 : decode cX8_covers 94 = .ok (.ireturn, 1) := by decide +kernel
theorem dX8_same_0 : decode cX8_same 0 = .ok (.aload_n 0, 1) := by decide +kernel
theorem dX8_same_1 : decode cX8_same 1 = .ok (.getfield 10, 3) := by decide +kernel
theorem dX8_same_4 : decode cX8_same 4 = .ok (.iload_n 1, 1) := by decide +kernel
theorem dX8_same_5 : decode cX8_same 5 = .ok (.invokevirtual 88, 3) := by decide +kernel
theorem dX8_same_8 : decode cX8_same 8 = .ok (.ifCond .eq 14, 3) := by decide +kernel
theorem dX8_same_11 : decode cX8_same 11 = .ok (.aload_n 0, 1) := by decide +kernel
theorem dX8_same_12 : decode cX8_same 12 = .ok (.getfield 10, 3) := by decide +kernel
theorem dX8_same_15 : decode cX8_same 15 = .ok (.iload_n 2, 1) := by decide +kernel
theorem dX8_same_16 : decode cX8_same 16 = .ok (.invokevirtual 88, 3) := by decide +kernel
theorem dX8_same_19 : decode cX8_same 19 = .ok (.ifCond .ne 7, 3) := by decide +kernel
theorem dX8_same_22 : decode cX8_same 22 = .ok (.sipush (-1001), 3) := by decide +kernel
theorem dX8_same_25 : decode cX8_same 25 = .ok (.ireturn, 1) := by decide +kernel
theorem dX8_same_26 : decode cX8_same 26 = .ok (.aload_n 0, 1) := by decide +kernel
theorem dX8_same_27 : decode cX8_same 27 = .ok (.getfield 10, 3) := by decide +kernel
theorem dX8_same_30 : decode cX8_same 30 = .ok (.getfield 77, 3) := by decide +kernel
theorem dX8_same_33 : decode cX8_same 33 = .ok (.aload_n 0, 1) := by decide +kernel
theorem dX8_same_34 : decode cX8_same 34 = .ok (.getfield 10, 3) := by decide +kernel
theorem dX8_same_37 : decode cX8_same 37 = .ok (.getfield 96, 3) := by decide +kernel
theorem dX8_same_40 : decode cX8_same 40 = .ok (.iadd, 1) := by decide +kernel
theorem dX8_same_41 : decode cX8_same 41 = .ok (.bipush 10, 2) := by decide +kernel
theorem dX8_same_43 : decode cX8_same 43 = .ok (.if_icmp .le 7, 3) := by decide +kernel
theorem dX8_same_46 : decode cX8_same 46 = .ok (.sipush (-1003), 3) := by decide +kernel
theorem dX8_same_49 : decode cX8_same 49 = .ok (.ireturn, 1) := by decide +kernel
theorem dX8_same_50 : decode cX8_same 50 = .ok (.aload_n 0, 1) := by decide +kernel
theorem dX8_same_51 : decode cX8_same 51 = .ok (.getfield 58, 3) := by decide +kernel
theorem dX8_same_54 : decode cX8_same 54 = .ok (.iload_n 1, 1) := by decide +kernel
theorem dX8_same_55 : decode cX8_same 55 = .ok (.iload_n 2, 1) := by decide +kernel
theorem dX8_same_56 : decode cX8_same 56 = .ok (.invokevirtual 250, 3) := by decide +kernel
theorem dX8_same_59 : decode cX8_same 59 = .ok (.ireturn, 1) := by decide +kernel
theorem dX8_isBit_0 : decode cX8_isBit 0 = .ok (.iload_n 0, 1) := by decide +kernel
theorem dX8_isBit_1 : decode cX8_isBit 1 = .ok (.ifCond .eq 8, 3) := by decide +kernel
theorem dX8_isBit_4 : decode cX8_isBit 4 = .ok (.iload_n 0, 1) := by decide +kernel
theorem dX8_isBit_5 : decode cX8_isBit 5 = .ok (.iconst 1, 1) := by decide +kernel
theorem dX8_isBit_6 : decode cX8_isBit 6 = .ok (.if_icmp .ne 7, 3) := by decide +kernel
theorem dX8_isBit_9 : decode cX8_isBit 9 = .ok (.iconst 1, 1) := by decide +kernel
theorem dX8_isBit_10 : decode cX8_isBit 10 = .ok (.goto 4, 3) := by decide +kernel
theorem dX8_isBit_13 : decode cX8_isBit 13 = .ok (.iconst 0, 1) := by decide +kernel
theorem dX8_isBit_14 : decode cX8_isBit 14 = .ok (.ireturn, 1) := by decide +kernel
theorem dX8_isValue_0 : decode cX8_isValue 0 = .ok (.iload_n 0, 1) := by decide +kernel
theorem dX8_isValue_1 : decode cX8_isValue 1 = .ok (.ifCond .lt 12, 3) := by decide +kernel
theorem dX8_isValue_4 : decode cX8_isValue 4 = .ok (.iload_n 0, 1) := by decide +kernel
theorem dX8_isValue_5 : decode cX8_isValue 5 = .ok (.iconst 2, 1) := by decide +kernel
theorem dX8_isValue_6 : decode cX8_isValue 6 = .ok (.if_icmp .gt 7, 3) := by decide +kernel
theorem dX8_isValue_9 : decode cX8_isValue 9 = .ok (.iconst 1, 1) := by decide +kernel
theorem dX8_isValue_10 : decode cX8_isValue 10 = .ok (.goto 4, 3) := by decide +kernel
theorem dX8_isValue_13 : decode cX8_isValue 13 = .ok (.iconst 0, 1) := by decide +kernel
theorem dX8_isValue_14 : decode cX8_isValue 14 = .ok (.ireturn, 1) := by decide +kernel
theorem dX9_init_0 : decode cX9_init 0 = .ok (.aload_n 0, 1) := by decide +kernel
theorem dX9_init_1 : decode cX9_init 1 = .ok (.invokespecial 1, 3) := by decide +kernel
theorem dX9_init_4 : decode cX9_init 4 = .ok (.aload_n 0, 1) := by decide +kernel
theorem dX9_init_5 : decode cX9_init 5 = .ok (.bipush 80, 2) := by decide +kernel
theorem dX9_init_7 : decode cX9_init 7 = .ok (.newarray .int, 2) := by decide +kernel
theorem dX9_init_9 : decode cX9_init 9 = .ok (.putfield 7, 3) := by decide +kernel
theorem dX9_init_12 : decode cX9_init 12 = .ok (.aload_n 0, 1) := by decide +kernel
theorem dX9_init_13 : decode cX9_init 13 = .ok (.bipush 80, 2) := by decide +kernel
theorem dX9_init_15 : decode cX9_init 15 = .ok (.newarray .int, 2) := by decide +kernel
theorem dX9_init_17 : decode cX9_init 17 = .ok (.putfield 13, 3) := by decide +kernel
theorem dX9_init_20 : decode cX9_init 20 = .ok (.aload_n 0, 1) := by decide +kernel
theorem dX9_init_21 : decode cX9_init 21 = .ok (.sipush 240, 3) := by decide +kernel
theorem dX9_init_24 : decode cX9_init 24 = .ok (.newarray .int, 2) := by decide +kernel
theorem dX9_init_26 : decode cX9_init 26 = .ok (.putfield 16, 3) := by decide +kernel
theorem dX9_init_29 : decode cX9_init 29 = .ok (.aload_n 0, 1) := by decide +kernel
theorem dX9_init_30 : decode cX9_init 30 = .ok (.bipush 8, 2) := by decide +kernel
theorem dX9_init_32 : decode cX9_init 32 = .ok (.newarray .int, 2) := by decide +kernel
theorem dX9_init_34 : decode cX9_init 34 = .ok (.putfield 19, 3) := by decide +kernel
theorem dX9_init_37 : decode cX9_init 37 = .ok (.aload_n 0, 1) := by decide +kernel
theorem dX9_init_38 : decode cX9_init 38 = .ok (.bipush 20, 2) := by decide +kernel
theorem dX9_init_40 : decode cX9_init 40 = .ok (.newarray .int, 2) := by decide +kernel
theorem dX9_init_42 : decode cX9_init 42 = .ok (.putfield 22, 3) := by decide +kernel
theorem dX9_init_45 : decode cX9_init 45 = .ok (.aload_n 0, 1) := by decide +kernel
theorem dX9_init_46 : decode cX9_init 46 = .ok (.bipush 20, 2) := by decide +kernel
theorem dX9_init_48 : decode cX9_init 48 = .ok (.newarray .int, 2) := by decide +kernel
theorem dX9_init_50 : decode cX9_init 50 = .ok (.putfield 25, 3) := by decide +kernel
theorem dX9_init_53 : decode cX9_init 53 = .ok (.aload_n 0, 1) := by decide +kernel
theorem dX9_init_54 : decode cX9_init 54 = .ok (.bipush 20, 2) := by decide +kernel
theorem dX9_init_56 : decode cX9_init 56 = .ok (.newarray .int, 2) := by decide +kernel
theorem dX9_init_58 : decode cX9_init 58 = .ok (.putfield 28, 3) := by decide +kernel
theorem dX9_init_61 : decode cX9_init 61 = .ok (.aload_n 0, 1) := by decide +kernel
theorem dX9_init_62 : decode cX9_init 62 = .ok (.bipush 20, 2) := by decide +kernel
theorem dX9_init_64 : decode cX9_init 64 = .ok (.newarray .int, 2) := by decide +kernel
theorem dX9_init_66 : decode cX9_init 66 = .ok (.putfield 31, 3) := by decide +kernel
theorem dX9_init_69 : decode cX9_init 69 = .ok (.aload_n 0, 1) := by decide +kernel
theorem dX9_init_70 : decode cX9_init 70 = .ok (.bipush 20, 2) := by decide +kernel
theorem dX9_init_72 : decode cX9_init 72 = .ok (.newarray .boolean, 2) := by decide +kernel
theorem dX9_init_74 : decode cX9_init 74 = .ok (.putfield 34, 3) := by decide +kernel
theorem dX9_init_77 : decode cX9_init 77 = .ok (.aload_n 0, 1) := by decide +kernel
theorem dX9_init_78 : decode cX9_init 78 = .ok (.bipush 8, 2) := by decide +kernel
theorem dX9_init_80 : decode cX9_init 80 = .ok (.newarray .int, 2) := by decide +kernel
theorem dX9_init_82 : decode cX9_init 82 = .ok (.putfield 38, 3) := by decide +kernel
theorem dX9_init_85 : decode cX9_init 85 = .ok (.aload_n 0, 1) := by decide +kernel
theorem dX9_init_86 : decode cX9_init 86 = .ok (.bipush 60, 2) := by decide +kernel
theorem dX9_init_88 : decode cX9_init 88 = .ok (.newarray .int, 2) := by decide +kernel
theorem dX9_init_90 : decode cX9_init 90 = .ok (.putfield 41, 3) := by decide +kernel
theorem dX9_init_93 : decode cX9_init 93 = .ok (.aload_n 0, 1) := by decide +kernel
theorem dX9_init_94 : decode cX9_init 94 = .ok (.iconst 3, 1) := by decide +kernel
theorem dX9_init_95 : decode cX9_init 95 = .ok (.newarray .int, 2) := by decide +kernel
theorem dX9_init_97 : decode cX9_init 97 = .ok (.putfield 44, 3) := by decide +kernel
theorem dX9_init_100 : decode cX9_init 100 = .ok (.aload_n 0, 1) := by decide +kernel
theorem dX9_init_101 : decode cX9_init 101 = .ok (.bipush 20, 2) := by decide +kernel
theorem dX9_init_103 : decode cX9_init 103 = .ok (.newarray .int, 2) := by decide +kernel
theorem dX9_init_105 : decode cX9_init 105 = .ok (.putfield 47, 3) := by decide +kernel
theorem dX9_init_108 : decode cX9_init 108 = .ok (.aload_n 0, 1) := by decide +kernel
theorem dX9_init_109 : decode cX9_init 109 = .ok (.bipush 20, 2) := by decide +kernel
theorem dX9_init_111 : decode cX9_init 111 = .ok (.newarray .int, 2) := by decide +kernel
theorem dX9_init_113 : decode cX9_init 113 = .ok (.putfield 50, 3) := by decide +kernel
theorem dX9_init_116 : decode cX9_init 116 = .ok (.aload_n 0, 1) := by decide +kernel
theorem dX9_init_117 : decode cX9_init 117 = .ok (.bipush 8, 2) := by decide +kernel
theorem dX9_init_119 : decode cX9_init 119 = .ok (.newarray .int, 2) := by decide +kernel
theorem dX9_init_121 : decode cX9_init 121 = .ok (.putfield 53, 3) := by decide +kernel
theorem dX9_init_124 : decode cX9_init 124 = .ok (.aload_n 0, 1) := by decide +kernel
theorem dX9_init_125 : decode cX9_init 125 = .ok (.bipush 20, 2) := by decide +kernel
theorem dX9_init_127 : decode cX9_init 127 = .ok (.newarray .int, 2) := by decide +kernel
theorem dX9_init_129 : decode cX9_init 129 = .ok (.putfield 56, 3) := by decide +kernel
theorem dX9_init_132 : decode cX9_init 132 = .ok (.aload_n 0, 1) := by decide +kernel
theorem dX9_init_133 : decode cX9_init 133 = .ok (.iconst (-1), 1) := by decide +kernel
theorem dX9_init_134 : decode cX9_init 134 = .ok (.putfield 59, 3) := by decide +kernel
theorem dX9_init_137 : decode cX9_init 137 = .ok (.aload_n 0, 1) := by decide +kernel
theorem dX9_init_138 : decode cX9_init 138 = .ok (.iconst 4, 1) := by decide +kernel
theorem dX9_init_139 : decode cX9_init 139 = .ok (.putfield 63, 3) := by decide +kernel
theorem dX9_init_142 : decode cX9_init 142 = .ok (.aload_n 0, 1) := by decide +kernel
theorem dX9_init_143 : decode cX9_init 143 = .ok (.bipush 80, 2) := by decide +kernel
theorem dX9_init_145 : decode cX9_init 145 = .ok (.newarray .int, 2) := by decide +kernel
theorem dX9_init_147 : decode cX9_init 147 = .ok (.putfield 66, 3) := by decide +kernel
theorem dX9_init_150 : decode cX9_init 150 = .ok (.aload_n 0, 1) := by decide +kernel
theorem dX9_init_151 : decode cX9_init 151 = .ok (.bipush 20, 2) := by decide +kernel
theorem dX9_init_153 : decode cX9_init 153 = .ok (.newarray .int, 2) := by decide +kernel
theorem dX9_init_155 : decode cX9_init 155 = .ok (.putfield 69, 3) := by decide +kernel
theorem dX9_init_158 : decode cX9_init 158 = .ok (.aload_n 0, 1) := by decide +kernel
theorem dX9_init_159 : decode cX9_init 159 = .ok (.bipush 8, 2) := by decide +kernel
theorem dX9_init_161 : decode cX9_init 161 = .ok (.newarray .int, 2) := by decide +kernel
theorem dX9_init_163 : decode cX9_init 163 = .ok (.putfield 72, 3) := by decide +kernel
theorem dX9_init_166 : decode cX9_init 166 = .ok (.aload_n 0, 1) := by decide +kernel
theorem dX9_init_167 : decode cX9_init 167 = .ok (.bipush 20, 2) := by decide +kernel
theorem dX9_init_169 : decode cX9_init 169 = .ok (.newarray .int, 2) := by decide +kernel
theorem dX9_init_171 : decode cX9_init 171 = .ok (.putfield 75, 3) := by decide +kernel
theorem dX9_init_174 : decode cX9_init 174 = .ok (.aload_n 0, 1) := by decide +kernel
theorem dX9_init_175 : decode cX9_init 175 = .ok (.bipush 8, 2) := by decide +kernel
theorem dX9_init_177 : decode cX9_init 177 = .ok (.newarray .int, 2) := by decide +kernel
theorem dX9_init_179 : decode cX9_init 179 = .ok (.putfield 78, 3) := by decide +kernel
theorem dX9_init_182 : decode cX9_init 182 = .ok (.aload_n 0, 1) := by decide +kernel
theorem dX9_init_183 : decode cX9_init 183 = .ok (.bipush 20, 2) := by decide +kernel
theorem dX9_init_185 : decode cX9_init 185 = .ok (.newarray .int, 2) := by decide +kernel
theorem dX9_init_187 : decode cX9_init 187 = .ok (.putfield 81, 3) := by decide +kernel
theorem dX9_init_190 : decode cX9_init 190 = .ok (.aload_n 0, 1) := by decide +kernel
theorem dX9_init_191 : decode cX9_init 191 = .ok (.bipush 8, 2) := by decide +kernel
theorem dX9_init_193 : decode cX9_init 193 = .ok (.newarray .int, 2) := by decide +kernel
theorem dX9_init_195 : decode cX9_init 195 = .ok (.putfield 84, 3) := by decide +kernel
theorem dX9_init_198 : decode cX9_init 198 = .ok (.aload_n 0, 1) := by decide +kernel
theorem dX9_init_199 : decode cX9_init 199 = .ok (.bipush 20, 2) := by decide +kernel
theorem dX9_init_201 : decode cX9_init 201 = .ok (.newarray .int, 2) := by decide +kernel
theorem dX9_init_203 : decode cX9_init 203 = .ok (.putfield 87, 3) := by decide +kernel
theorem dX9_init_206 : decode cX9_init 206 = .ok (.aload_n 0, 1) := by decide +kernel
theorem dX9_init_207 : decode cX9_init 207 = .ok (.bipush 7, 2) := by decide +kernel
theorem dX9_init_209 : decode cX9_init 209 = .ok (.newarray .int, 2) := by decide +kernel
theorem dX9_init_211 : decode cX9_init 211 = .ok (.putfield 90, 3) := by decide +kernel
theorem dX9_init_214 : decode cX9_init 214 = .ok (.aload_n 0, 1) := by decide +kernel
theorem dX9_init_215 : decode cX9_init 215 = .ok (.sipush 160, 3) := by decide +kernel
theorem dX9_init_218 : decode cX9_init 218 = .ok (.newarray .int, 2) := by decide +kernel
theorem dX9_init_220 : decode cX9_init 220 = .ok (.putfield 93, 3) := by decide +kernel
theorem dX9_init_223 : decode cX9_init 223 = .ok (.aload_n 0, 1) := by decide +kernel
theorem dX9_init_224 : decode cX9_init 224 = .ok (.sipush 400, 3) := by decide +kernel
theorem dX9_init_227 : decode cX9_init 227 = .ok (.newarray .int, 2) := by decide +kernel
theorem dX9_init_229 : decode cX9_init 229 = .ok (.putfield 96, 3) := by decide +kernel
theorem dX9_init_232 : decode cX9_init 232 = .ok (.return_, 1) := by decide +kernel
theorem dX9_in_0 : decode cX9_in 0 = .ok (.lload_n 0, 1) := by decide +kernel
theorem dX9_in_1 : decode cX9_in 1 = .ok (.lload_n 2, 1) := by decide +kernel
theorem dX9_in_2 : decode cX9_in 2 = .ok (.lcmp, 1) := by decide +kernel
theorem dX9_in_3 : decode cX9_in 3 = .ok (.ifCond .lt 14, 3) := by decide +kernel
theorem dX9_in_6 : decode cX9_in 6 = .ok (.lload_n 0, 1) := by decide +kernel
theorem dX9_in_7 : decode cX9_in 7 = .ok (.lload 4, 2) := by decide +kernel
theorem dX9_in_9 : decode cX9_in 9 = .ok (.lcmp, 1) := by decide +kernel
theorem dX9_in_10 : decode cX9_in 10 = .ok (.ifCond .gt 7, 3) := by decide +kernel
theorem dX9_in_13 : decode cX9_in 13 = .ok (.iconst 1, 1) := by decide +kernel
theorem dX9_in_14 : decode cX9_in 14 = .ok (.goto 4, 3) := by decide +kernel
theorem dX9_in_17 : decode cX9_in 17 = .ok (.iconst 0, 1) := by decide +kernel
theorem dX9_in_18 : decode cX9_in 18 = .ok (.ireturn, 1) := by decide +kernel
theorem dX9_isLine_0 : decode cX9_isLine 0 = .ok (.iload_n 1, 1) := by decide +kernel
theorem dX9_isLine_1 : decode cX9_isLine 1 = .ok (.i2l, 1) := by decide +kernel
theorem dX9_isLine_2 : decode cX9_isLine 2 = .ok (.lconst 0, 1) := by decide +kernel
theorem dX9_isLine_3 : decode cX9_isLine 3 = .ok (.aload_n 0, 1) := by decide +kernel
theorem dX9_isLine_4 : decode cX9_isLine 4 = .ok (.getfield 99, 3) := by decide +kernel
theorem dX9_isLine_7 : decode cX9_isLine 7 = .ok (.iconst 1, 1) := by decide +kernel
theorem dX9_isLine_8 : decode cX9_isLine 8 = .ok (.isub, 1) := by decide +kernel
theorem dX9_isLine_9 : decode cX9_isLine 9 = .ok (.i2l, 1) := by decide +kernel
theorem dX9_isLine_10 : decode cX9_isLine 10 = .ok (.invokestatic 102, 3) := by decide +kernel
theorem dX9_isLine_13 : decode cX9_isLine 13 = .ok (.ireturn, 1) := by decide +kernel
theorem dX9_isCell_0 : decode cX9_isCell 0 = .ok (.iload_n 1, 1) := by decide +kernel
theorem dX9_isCell_1 : decode cX9_isCell 1 = .ok (.i2l, 1) := by decide +kernel
theorem dX9_isCell_2 : decode cX9_isCell 2 = .ok (.lconst 0, 1) := by decide +kernel
theorem dX9_isCell_3 : decode cX9_isCell 3 = .ok (.aload_n 0, 1) := by decide +kernel
theorem dX9_isCell_4 : decode cX9_isCell 4 = .ok (.getfield 106, 3) := by decide +kernel
theorem dX9_isCell_7 : decode cX9_isCell 7 = .ok (.iconst 1, 1) := by decide +kernel
theorem dX9_isCell_8 : decode cX9_isCell 8 = .ok (.isub, 1) := by decide +kernel
theorem dX9_isCell_9 : decode cX9_isCell 9 = .ok (.i2l, 1) := by decide +kernel
theorem dX9_isCell_10 : decode cX9_isCell 10 = .ok (.invokestatic 102, 3) := by decide +kernel
theorem dX9_isCell_13 : decode cX9_isCell 13 = .ok (.ireturn, 1) := by decide +kernel
theorem dX9_fresh_0 : decode cX9_fresh 0 = .ok (.aload_n 0, 1) := by decide +kernel
theorem dX9_fresh_1 : decode cX9_fresh 1 = .ok (.getfield 7, 3) := by decide +kernel
theorem dX9_fresh_4 : decode cX9_fresh 4 = .ok (.aload_n 0, 1) := by decide +kernel
theorem dX9_fresh_5 : decode cX9_fresh 5 = .ok (.getfield 99, 3) := by decide +kernel
theorem dX9_fresh_8 : decode cX9_fresh 8 = .ok (.iload_n 1, 1) := by decide +kernel
theorem dX9_fresh_9 : decode cX9_fresh 9 = .ok (.iastore, 1) := by decide +kernel
theorem dX9_fresh_10 : decode cX9_fresh 10 = .ok (.aload_n 0, 1) := by decide +kernel
theorem dX9_fresh_11 : decode cX9_fresh 11 = .ok (.getfield 13, 3) := by decide +kernel
theorem dX9_fresh_14 : decode cX9_fresh 14 = .ok (.aload_n 0, 1) := by decide +kernel
theorem dX9_fresh_15 : decode cX9_fresh 15 = .ok (.getfield 99, 3) := by decide +kernel
theorem dX9_fresh_18 : decode cX9_fresh 18 = .ok (.iload_n 2, 1) := by decide +kernel
theorem dX9_fresh_19 : decode cX9_fresh 19 = .ok (.iastore, 1) := by decide +kernel
theorem dX9_fresh_20 : decode cX9_fresh 20 = .ok (.aload_n 0, 1) := by decide +kernel
theorem dX9_fresh_21 : decode cX9_fresh 21 = .ok (.dup, 1) := by decide +kernel
theorem dX9_fresh_22 : decode cX9_fresh 22 = .ok (.getfield 99, 3) := by decide +kernel
theorem dX9_fresh_25 : decode cX9_fresh 25 = .ok (.iconst 1, 1) := by decide +kernel
theorem dX9_fresh_26 : decode cX9_fresh 26 = .ok (.iadd, 1) := by decide +kernel
theorem dX9_fresh_27 : decode cX9_fresh 27 = .ok (.putfield 99, 3) := by decide +kernel
theorem dX9_fresh_30 : decode cX9_fresh 30 = .ok (.aload_n 0, 1) := by decide +kernel
theorem dX9_fresh_31 : decode cX9_fresh 31 = .ok (.getfield 99, 3) := by decide +kernel
theorem dX9_fresh_34 : decode cX9_fresh 34 = .ok (.iconst 1, 1) := by decide +kernel
theorem dX9_fresh_35 : decode cX9_fresh 35 = .ok (.isub, 1) := by decide +kernel
theorem dX9_fresh_36 : decode cX9_fresh 36 = .ok (.ireturn, 1) := by decide +kernel
theorem dX9_input_0 : decode cX9_input 0 = .ok (.aload_n 0, 1) := by decide +kernel
theorem dX9_input_1 : decode cX9_input 1 = .ok (.getfield 109, 3) := by decide +kernel
theorem dX9_input_4 : decode cX9_input 4 = .ok (.bipush 8, 2) := by decide +kernel
theorem dX9_input_6 : decode cX9_input 6 = .ok (.if_icmp .eq 12, 3) := by decide +kernel
theorem dX9_input_9 : decode cX9_input 9 = .ok (.aload_n 0, 1) := by decide +kernel
theorem dX9_input_10 : decode cX9_input 10 = .ok (.getfield 99, 3) := by decide +kernel
theorem dX9_input_13 : decode cX9_input 13 = .ok (.bipush 80, 2) := by decide +kernel
theorem dX9_input_15 : decode cX9_input 15 = .ok (.if_icmp .ne 7, 3) := by decide +kernel
theorem dX9_input_18 : decode cX9_input 18 = .ok (.sipush (-1004), 3) := by decide +kernel
theorem dX9_input_21 : decode cX9_input 21 = .ok (.ireturn, 1) := by decide +kernel
theorem dX9_input_22 : decode cX9_input 22 = .ok (.aload_n 0, 1) := by decide +kernel
theorem dX9_input_23 : decode cX9_input 23 = .ok (.getfield 19, 3) := by decide +kernel
theorem dX9_input_26 : decode cX9_input 26 = .ok (.aload_n 0, 1) := by decide +kernel
theorem dX9_input_27 : decode cX9_input 27 = .ok (.getfield 109, 3) := by decide +kernel
theorem dX9_input_30 : decode cX9_input 30 = .ok (.aload_n 0, 1) := by decide +kernel
theorem dX9_input_31 : decode cX9_input 31 = .ok (.getfield 99, 3) := by decide +kernel
theorem dX9_input_34 : decode cX9_input 34 = .ok (.iastore, 1) := by decide +kernel
theorem dX9_input_35 : decode cX9_input 35 = .ok (.aload_n 0, 1) := by decide +kernel
theorem dX9_input_36 : decode cX9_input 36 = .ok (.getfield 53, 3) := by decide +kernel
theorem dX9_input_39 : decode cX9_input 39 = .ok (.aload_n 0, 1) := by decide +kernel
theorem dX9_input_40 : decode cX9_input 40 = .ok (.getfield 109, 3) := by decide +kernel
theorem dX9_input_43 : decode cX9_input 43 = .ok (.iconst 0, 1) := by decide +kernel
theorem dX9_input_44 : decode cX9_input 44 = .ok (.iastore, 1) := by decide +kernel
theorem dX9_input_45 : decode cX9_input 45 = .ok (.aload_n 0, 1) := by decide +kernel
theorem dX9_input_46 : decode cX9_input 46 = .ok (.dup, 1) := by decide +kernel
theorem dX9_input_47 : decode cX9_input 47 = .ok (.getfield 109, 3) := by decide +kernel
theorem dX9_input_50 : decode cX9_input 50 = .ok (.iconst 1, 1) := by decide +kernel
theorem dX9_input_51 : decode cX9_input 51 = .ok (.iadd, 1) := by decide +kernel
theorem dX9_input_52 : decode cX9_input 52 = .ok (.putfield 109, 3) := by decide +kernel
theorem dX9_input_55 : decode cX9_input 55 = .ok (.aload_n 0, 1) := by decide +kernel
theorem dX9_input_56 : decode cX9_input 56 = .ok (.iconst 0, 1) := by decide +kernel
theorem dX9_input_57 : decode cX9_input 57 = .ok (.aload_n 0, 1) := by decide +kernel
theorem dX9_input_58 : decode cX9_input 58 = .ok (.getfield 109, 3) := by decide +kernel
theorem dX9_input_61 : decode cX9_input 61 = .ok (.iconst 1, 1) := by decide +kernel
theorem dX9_input_62 : decode cX9_input 62 = .ok (.isub, 1) := by decide +kernel
theorem dX9_input_63 : decode cX9_input 63 = .ok (.invokevirtual 112, 3) := by decide +kernel
theorem dX9_input_66 : decode cX9_input 66 = .ok (.ireturn, 1) := by decide +kernel
theorem dX9_sourcesOf_0 : decode cX9_sourcesOf 0 = .ok (.iload_n 0, 1) := by decide +kernel
theorem dX9_sourcesOf_1 : decode cX9_sourcesOf 1 = .ok (.iconst 3, 1) := by decide +kernel
theorem dX9_sourcesOf_2 : decode cX9_sourcesOf 2 = .ok (.if_icmp .ne 7, 3) := by decide +kernel
theorem dX9_sourcesOf_5 : decode cX9_sourcesOf 5 = .ok (.iconst 1, 1) := by decide +kernel
theorem dX9_sourcesOf_6 : decode cX9_sourcesOf 6 = .ok (.goto 13, 3) := by decide +kernel
theorem dX9_sourcesOf_9 : decode cX9_sourcesOf 9 = .ok (.iload_n 0, 1) := by decide +kernel
theorem dX9_sourcesOf_10 : decode cX9_sourcesOf 10 = .ok (.iconst 4, 1) := by decide +kernel
theorem dX9_sourcesOf_11 : decode cX9_sourcesOf 11 = .ok (.if_icmp .ne 7, 3) := by decide +kernel
theorem dX9_sourcesOf_14 : decode cX9_sourcesOf 14 = .ok (.iconst 3, 1) := by decide +kernel
theorem dX9_sourcesOf_15 : decode cX9_sourcesOf 15 = .ok (.goto 4, 3) := by decide +kernel
theorem dX9_sourcesOf_18 : decode cX9_sourcesOf 18 = .ok (.iconst 2, 1) := by decide +kernel
theorem dX9_sourcesOf_19 : decode cX9_sourcesOf 19 = .ok (.ireturn, 1) := by decide +kernel
theorem dX9_gate_0 : decode cX9_gate 0 = .ok (.iload_n 1, 1) := by decide +kernel
theorem dX9_gate_1 : decode cX9_gate 1 = .ok (.i2l, 1) := by decide +kernel
theorem dX9_gate_2 : decode cX9_gate 2 = .ok (.lconst 0, 1) := by decide +kernel
theorem dX9_gate_3 : decode cX9_gate 3 = .ok (.ldc2_w 116, 3) := by decide +kernel
theorem dX9_gate_6 : decode cX9_gate 6 = .ok (.invokestatic 102, 3) := by decide +kernel
theorem dX9_gate_9 : decode cX9_gate 9 = .ok (.ifCond .ne 7, 3) := by decide +kernel
theorem dX9_gate_12 : decode cX9_gate 12 = .ok (.sipush (-1002), 3) := by decide +kernel
theorem dX9_gate_15 : decode cX9_gate 15 = .ok (.ireturn, 1) := by decide +kernel
theorem dX9_gate_16 : decode cX9_gate 16 = .ok (.iload_n 1, 1) := by decide +kernel
theorem dX9_gate_17 : decode cX9_gate 17 = .ok (.invokestatic 118, 3) := by decide +kernel
theorem dX9_gate_20 : decode cX9_gate 20 = .ok (.istore 5, 2) := by decide +kernel
theorem dX9_gate_22 : decode cX9_gate 22 = .ok (.aload_n 0, 1) := by decide +kernel
theorem dX9_gate_23 : decode cX9_gate 23 = .ok (.iload_n 2, 1) := by decide +kernel
theorem dX9_gate_24 : decode cX9_gate 24 = .ok (.invokevirtual 122, 3) := by decide +kernel
theorem dX9_gate_27 : decode cX9_gate 27 = .ok (.ifCond .eq 32, 3) := by decide +kernel
theorem dX9_gate_30 : decode cX9_gate 30 = .ok (.iload 5, 2) := by decide +kernel
theorem dX9_gate_32 : decode cX9_gate 32 = .ok (.iconst 1, 1) := by decide +kernel
theorem dX9_gate_33 : decode cX9_gate 33 = .ok (.if_icmp .le 11, 3) := by decide +kernel
theorem dX9_gate_36 : decode cX9_gate 36 = .ok (.aload_n 0, 1) := by decide +kernel
theorem dX9_gate_37 : decode cX9_gate 37 = .ok (.iload_n 3, 1) := by decide +kernel
theorem dX9_gate_38 : decode cX9_gate 38 = .ok (.invokevirtual 122, 3) := by decide +kernel
theorem dX9_gate_41 : decode cX9_gate 41 = .ok (.ifCond .eq 18, 3) := by decide +kernel
theorem dX9_gate_44 : decode cX9_gate 44 = .ok (.iload 5, 2) := by decide +kernel
theorem dX9_gate_46 : decode cX9_gate 46 = .ok (.iconst 2, 1) := by decide +kernel
theorem dX9_gate_47 : decode cX9_gate 47 = .ok (.if_icmp .le 16, 3) := by decide +kernel
theorem dX9_gate_50 : decode cX9_gate 50 = .ok (.aload_n 0, 1) := by decide +kernel
theorem dX9_gate_51 : decode cX9_gate 51 = .ok (.iload 4, 2) := by decide +kernel
theorem dX9_gate_53 : decode cX9_gate 53 = .ok (.invokevirtual 122, 3) := by decide +kernel
theorem dX9_gate_56 : decode cX9_gate 56 = .ok (.ifCond .ne 7, 3) := by decide +kernel
theorem dX9_gate_59 : decode cX9_gate 59 = .ok (.sipush (-1001), 3) := by decide +kernel
theorem dX9_gate_62 : decode cX9_gate 62 = .ok (.ireturn, 1) := by decide +kernel
theorem dX9_gate_63 : decode cX9_gate 63 = .ok (.aload_n 0, 1) := by decide +kernel
theorem dX9_gate_64 : decode cX9_gate 64 = .ok (.getfield 99, 3) := by decide +kernel
theorem dX9_gate_67 : decode cX9_gate 67 = .ok (.bipush 80, 2) := by decide +kernel
theorem dX9_gate_69 : decode cX9_gate 69 = .ok (.if_icmp .ne 7, 3) := by decide +kernel
theorem dX9_gate_72 : decode cX9_gate 72 = .ok (.sipush (-1004), 3) := by decide +kernel
theorem dX9_gate_75 : decode cX9_gate 75 = .ok (.ireturn, 1) := by decide +kernel
theorem dX9_gate_76 : decode cX9_gate 76 = .ok (.aload_n 0, 1) := by decide +kernel
theorem dX9_gate_77 : decode cX9_gate 77 = .ok (.getfield 16, 3) := by decide +kernel
theorem dX9_gate_80 : decode cX9_gate 80 = .ok (.iconst 3, 1) := by decide +kernel
theorem dX9_gate_81 : decode cX9_gate 81 = .ok (.aload_n 0, 1) := by decide +kernel
theorem dX9_gate_82 : decode cX9_gate 82 = .ok (.getfield 99, 3) := by decide +kernel
theorem dX9_gate_85 : decode cX9_gate 85 = .ok (.imul, 1) := by decide +kernel
theorem dX9_gate_86 : decode cX9_gate 86 = .ok (.iload_n 2, 1) := by decide +kernel
theorem dX9_gate_87 : decode cX9_gate 87 = .ok (.iastore, 1) := by decide +kernel
theorem dX9_gate_88 : decode cX9_gate 88 = .ok (.aload_n 0, 1) := by decide +kernel
theorem dX9_gate_89 : decode cX9_gate 89 = .ok (.getfield 16, 3) := by decide +kernel
theorem dX9_gate_92 : decode cX9_gate 92 = .ok (.iconst 3, 1) := by decide +kernel
theorem dX9_gate_93 : decode cX9_gate 93 = .ok (.aload_n 0, 1) := by decide +kernel
theorem dX9_gate_94 : decode cX9_gate 94 = .ok (.getfield 99, 3) := by decide +kernel
theorem dX9_gate_97 : decode cX9_gate 97 = .ok (.imul, 1) := by decide +kernel
theorem dX9_gate_98 : decode cX9_gate 98 = .ok (.iconst 1, 1) := by decide +kernel
theorem dX9_gate_99 : decode cX9_gate 99 = .ok (.iadd, 1) := by decide +kernel
theorem dX9_gate_100 : decode cX9_gate 100 = .ok (.iload 5, 2) := by decide +kernel
theorem dX9_gate_102 : decode cX9_gate 102 = .ok (.iconst 1, 1) := by decide +kernel
theorem dX9_gate_103 : decode cX9_gate 103 = .ok (.if_icmp .le 7, 3) := by decide +kernel
theorem dX9_gate_106 : decode cX9_gate 106 = .ok (.iload_n 3, 1) := by decide +kernel
theorem dX9_gate_107 : decode cX9_gate 107 = .ok (.goto 4, 3) := by decide +kernel
theorem dX9_gate_110 : decode cX9_gate 110 = .ok (.iload_n 2, 1) := by decide +kernel
theorem dX9_gate_111 : decode cX9_gate 111 = .ok (.iastore, 1) := by decide +kernel
theorem dX9_gate_112 : decode cX9_gate 112 = .ok (.aload_n 0, 1) := by decide +kernel
theorem dX9_gate_113 : decode cX9_gate 113 = .ok (.getfield 16, 3) := by decide +kernel
theorem dX9_gate_116 : decode cX9_gate 116 = .ok (.iconst 3, 1) := by decide +kernel
theorem dX9_gate_117 : decode cX9_gate 117 = .ok (.aload_n 0, 1) := by decide +kernel
theorem dX9_gate_118 : decode cX9_gate 118 = .ok (.getfield 99, 3) := by decide +kernel
theorem dX9_gate_121 : decode cX9_gate 121 = .ok (.imul, 1) := by decide +kernel
theorem dX9_gate_122 : decode cX9_gate 122 = .ok (.iconst 2, 1) := by decide +kernel
theorem dX9_gate_123 : decode cX9_gate 123 = .ok (.iadd, 1) := by decide +kernel
theorem dX9_gate_124 : decode cX9_gate 124 = .ok (.iload 5, 2) := by decide +kernel
theorem dX9_gate_126 : decode cX9_gate 126 = .ok (.iconst 2, 1) := by decide +kernel
theorem dX9_gate_127 : decode cX9_gate 127 = .ok (.if_icmp .le 8, 3) := by decide +kernel
theorem dX9_gate_130 : decode cX9_gate 130 = .ok (.iload 4, 2) := by decide +kernel
theorem dX9_gate_132 : decode cX9_gate 132 = .ok (.goto 4, 3) := by decide +kernel
theorem dX9_gate_135 : decode cX9_gate 135 = .ok (.iload_n 2, 1) := by decide +kernel
theorem dX9_gate_136 : decode cX9_gate 136 = .ok (.iastore, 1) := by decide +kernel
theorem dX9_gate_137 : decode cX9_gate 137 = .ok (.aload_n 0, 1) := by decide +kernel
theorem dX9_gate_138 : decode cX9_gate 138 = .ok (.iconst 1, 1) := by decide +kernel
theorem dX9_gate_139 : decode cX9_gate 139 = .ok (.iload_n 1, 1) := by decide +kernel
theorem dX9_gate_140 : decode cX9_gate 140 = .ok (.invokevirtual 112, 3) := by decide +kernel
theorem dX9_gate_143 : decode cX9_gate 143 = .ok (.ireturn, 1) := by decide +kernel
theorem dX9_cell_0 : decode cX9_cell 0 = .ok (.iload_n 1, 1) := by decide +kernel
theorem dX9_cell_1 : decode cX9_cell 1 = .ok (.i2l, 1) := by decide +kernel
theorem dX9_cell_2 : decode cX9_cell 2 = .ok (.lconst 0, 1) := by decide +kernel
theorem dX9_cell_3 : decode cX9_cell 3 = .ok (.ldc2_w 126, 3) := by decide +kernel
theorem dX9_cell_6 : decode cX9_cell 6 = .ok (.invokestatic 102, 3) := by decide +kernel
theorem dX9_cell_9 : decode cX9_cell 9 = .ok (.ifCond .ne 7, 3) := by decide +kernel
theorem dX9_cell_12 : decode cX9_cell 12 = .ok (.sipush (-1002), 3) := by decide +kernel
theorem dX9_cell_15 : decode cX9_cell 15 = .ok (.ireturn, 1) := by decide +kernel
theorem dX9_cell_16 : decode cX9_cell 16 = .ok (.aload_n 0, 1) := by decide +kernel
theorem dX9_cell_17 : decode cX9_cell 17 = .ok (.getfield 106, 3) := by decide +kernel
theorem dX9_cell_20 : decode cX9_cell 20 = .ok (.bipush 20, 2) := by decide +kernel
theorem dX9_cell_22 : decode cX9_cell 22 = .ok (.if_icmp .eq 12, 3) := by decide +kernel
theorem dX9_cell_25 : decode cX9_cell 25 = .ok (.aload_n 0, 1) := by decide +kernel
theorem dX9_cell_26 : decode cX9_cell 26 = .ok (.getfield 99, 3) := by decide +kernel
theorem dX9_cell_29 : decode cX9_cell 29 = .ok (.bipush 80, 2) := by decide +kernel
theorem dX9_cell_31 : decode cX9_cell 31 = .ok (.if_icmp .ne 7, 3) := by decide +kernel
theorem dX9_cell_34 : decode cX9_cell 34 = .ok (.sipush (-1004), 3) := by decide +kernel
theorem dX9_cell_37 : decode cX9_cell 37 = .ok (.ireturn, 1) := by decide +kernel
theorem dX9_cell_38 : decode cX9_cell 38 = .ok (.aload_n 0, 1) := by decide +kernel
theorem dX9_cell_39 : decode cX9_cell 39 = .ok (.getfield 22, 3) := by decide +kernel
theorem dX9_cell_42 : decode cX9_cell 42 = .ok (.aload_n 0, 1) := by decide +kernel
theorem dX9_cell_43 : decode cX9_cell 43 = .ok (.getfield 106, 3) := by decide +kernel
theorem dX9_cell_46 : decode cX9_cell 46 = .ok (.aload_n 0, 1) := by decide +kernel
theorem dX9_cell_47 : decode cX9_cell 47 = .ok (.getfield 99, 3) := by decide +kernel
theorem dX9_cell_50 : decode cX9_cell 50 = .ok (.iastore, 1) := by decide +kernel
theorem dX9_cell_51 : decode cX9_cell 51 = .ok (.aload_n 0, 1) := by decide +kernel
theorem dX9_cell_52 : decode cX9_cell 52 = .ok (.getfield 28, 3) := by decide +kernel
theorem dX9_cell_55 : decode cX9_cell 55 = .ok (.aload_n 0, 1) := by decide +kernel
theorem dX9_cell_56 : decode cX9_cell 56 = .ok (.getfield 106, 3) := by decide +kernel
theorem dX9_cell_59 : decode cX9_cell 59 = .ok (.aload_n 0, 1) := by decide +kernel
theorem dX9_cell_60 : decode cX9_cell 60 = .ok (.getfield 99, 3) := by decide +kernel
theorem dX9_cell_63 : decode cX9_cell 63 = .ok (.iastore, 1) := by decide +kernel
theorem dX9_cell_64 : decode cX9_cell 64 = .ok (.aload_n 0, 1) := by decide +kernel
theorem dX9_cell_65 : decode cX9_cell 65 = .ok (.getfield 25, 3) := by decide +kernel
theorem dX9_cell_68 : decode cX9_cell 68 = .ok (.aload_n 0, 1) := by decide +kernel
theorem dX9_cell_69 : decode cX9_cell 69 = .ok (.getfield 106, 3) := by decide +kernel
theorem dX9_cell_72 : decode cX9_cell 72 = .ok (.iload_n 1, 1) := by decide +kernel
theorem dX9_cell_73 : decode cX9_cell 73 = .ok (.iastore, 1) := by decide +kernel
theorem dX9_cell_74 : decode cX9_cell 74 = .ok (.aload_n 0, 1) := by decide +kernel
theorem dX9_cell_75 : decode cX9_cell 75 = .ok (.getfield 56, 3) := by decide +kernel
theorem dX9_cell_78 : decode cX9_cell 78 = .ok (.aload_n 0, 1) := by decide +kernel
theorem dX9_cell_79 : decode cX9_cell 79 = .ok (.getfield 106, 3) := by decide +kernel
theorem dX9_cell_82 : decode cX9_cell 82 = .ok (.iconst 2, 1) := by decide +kernel
theorem dX9_cell_83 : decode cX9_cell 83 = .ok (.iastore, 1) := by decide +kernel
theorem dX9_cell_84 : decode cX9_cell 84 = .ok (.aload_n 0, 1) := by decide +kernel
theorem dX9_cell_85 : decode cX9_cell 85 = .ok (.getfield 31, 3) := by decide +kernel
theorem dX9_cell_88 : decode cX9_cell 88 = .ok (.aload_n 0, 1) := by decide +kernel
theorem dX9_cell_89 : decode cX9_cell 89 = .ok (.getfield 106, 3) := by decide +kernel
theorem dX9_cell_92 : decode cX9_cell 92 = .ok (.iconst (-1), 1) := by decide +kernel
theorem dX9_cell_93 : decode cX9_cell 93 = .ok (.iastore, 1) := by decide +kernel
theorem dX9_cell_94 : decode cX9_cell 94 = .ok (.aload_n 0, 1) := by decide +kernel
theorem dX9_cell_95 : decode cX9_cell 95 = .ok (.getfield 34, 3) := by decide +kernel
theorem dX9_cell_98 : decode cX9_cell 98 = .ok (.aload_n 0, 1) := by decide +kernel
theorem dX9_cell_99 : decode cX9_cell 99 = .ok (.getfield 106, 3) := by decide +kernel
theorem dX9_cell_102 : decode cX9_cell 102 = .ok (.iconst 0, 1) := by decide +kernel
theorem dX9_cell_103 : decode cX9_cell 103 = .ok (.bastore, 1) := by decide +kernel
theorem dX9_cell_104 : decode cX9_cell 104 = .ok (.aload_n 0, 1) := by decide +kernel
theorem dX9_cell_105 : decode cX9_cell 105 = .ok (.dup, 1) := by decide +kernel
theorem dX9_cell_106 : decode cX9_cell 106 = .ok (.getfield 106, 3) := by decide +kernel
theorem dX9_cell_109 : decode cX9_cell 109 = .ok (.iconst 1, 1) := by decide +kernel
theorem dX9_cell_110 : decode cX9_cell 110 = .ok (.iadd, 1) := by decide +kernel
theorem dX9_cell_111 : decode cX9_cell 111 = .ok (.putfield 106, 3) := by decide +kernel
theorem dX9_cell_114 : decode cX9_cell 114 = .ok (.aload_n 0, 1) := by decide +kernel
theorem dX9_cell_115 : decode cX9_cell 115 = .ok (.iconst 2, 1) := by decide +kernel
theorem dX9_cell_116 : decode cX9_cell 116 = .ok (.aload_n 0, 1) := by decide +kernel
theorem dX9_cell_117 : decode cX9_cell 117 = .ok (.getfield 106, 3) := by decide +kernel
theorem dX9_cell_120 : decode cX9_cell 120 = .ok (.iconst 1, 1) := by decide +kernel
theorem dX9_cell_121 : decode cX9_cell 121 = .ok (.isub, 1) := by decide +kernel
theorem dX9_cell_122 : decode cX9_cell 122 = .ok (.invokevirtual 112, 3) := by decide +kernel
theorem dX9_cell_125 : decode cX9_cell 125 = .ok (.ireturn, 1) := by decide +kernel
theorem dX9_source_0 : decode cX9_source 0 = .ok (.aload_n 0, 1) := by decide +kernel
theorem dX9_source_1 : decode cX9_source 1 = .ok (.iload_n 1, 1) := by decide +kernel
theorem dX9_source_2 : decode cX9_source 2 = .ok (.invokevirtual 128, 3) := by decide +kernel
theorem dX9_source_5 : decode cX9_source 5 = .ok (.ifCond .eq 11, 3) := by decide +kernel
theorem dX9_source_8 : decode cX9_source 8 = .ok (.aload_n 0, 1) := by decide +kernel
theorem dX9_source_9 : decode cX9_source 9 = .ok (.iload_n 2, 1) := by decide +kernel
theorem dX9_source_10 : decode cX9_source 10 = .ok (.invokevirtual 122, 3) := by decide +kernel
theorem dX9_source_13 : decode cX9_source 13 = .ok (.ifCond .ne 7, 3) := by decide +kernel
theorem dX9_source_16 : decode cX9_source 16 = .ok (.sipush (-1001), 3) := by decide +kernel
theorem dX9_source_19 : decode cX9_source 19 = .ok (.ireturn, 1) := by decide +kernel
theorem dX9_source_20 : decode cX9_source 20 = .ok (.aload_n 0, 1) := by decide +kernel
theorem dX9_source_21 : decode cX9_source 21 = .ok (.getfield 28, 3) := by decide +kernel
theorem dX9_source_24 : decode cX9_source 24 = .ok (.iload_n 1, 1) := by decide +kernel
theorem dX9_source_25 : decode cX9_source 25 = .ok (.iaload, 1) := by decide +kernel
theorem dX9_source_26 : decode cX9_source 26 = .ok (.istore_n 3, 1) := by decide +kernel
theorem dX9_source_27 : decode cX9_source 27 = .ok (.aload_n 0, 1) := by decide +kernel
theorem dX9_source_28 : decode cX9_source 28 = .ok (.getfield 28, 3) := by decide +kernel
theorem dX9_source_31 : decode cX9_source 31 = .ok (.iload_n 1, 1) := by decide +kernel
theorem dX9_source_32 : decode cX9_source 32 = .ok (.iload_n 2, 1) := by decide +kernel
theorem dX9_source_33 : decode cX9_source 33 = .ok (.iastore, 1) := by decide +kernel
theorem dX9_source_34 : decode cX9_source 34 = .ok (.iload_n 3, 1) := by decide +kernel
theorem dX9_source_35 : decode cX9_source 35 = .ok (.ireturn, 1) := by decide +kernel
theorem dX9_output_0 : decode cX9_output 0 = .ok (.aload_n 0, 1) := by decide +kernel
theorem dX9_output_1 : decode cX9_output 1 = .ok (.iload_n 1, 1) := by decide +kernel
theorem dX9_output_2 : decode cX9_output 2 = .ok (.invokevirtual 122, 3) := by decide +kernel
theorem dX9_output_5 : decode cX9_output 5 = .ok (.ifCond .ne 7, 3) := by decide +kernel
theorem dX9_output_8 : decode cX9_output 8 = .ok (.sipush (-1001), 3) := by decide +kernel
theorem dX9_output_11 : decode cX9_output 11 = .ok (.ireturn, 1) := by decide +kernel
theorem dX9_output_12 : decode cX9_output 12 = .ok (.iconst 0, 1) := by decide +kernel
theorem dX9_output_13 : decode cX9_output 13 = .ok (.istore_n 2, 1) := by decide +kernel
theorem dX9_output_14 : decode cX9_output 14 = .ok (.iload_n 2, 1) := by decide +kernel
theorem dX9_output_15 : decode cX9_output 15 = .ok (.aload_n 0, 1) := by decide +kernel
theorem dX9_output_16 : decode cX9_output 16 = .ok (.getfield 131, 3) := by decide +kernel
theorem dX9_output_19 : decode cX9_output 19 = .ok (.if_icmp .ge 23, 3) := by decide +kernel
theorem dX9_output_22 : decode cX9_output 22 = .ok (.aload_n 0, 1) := by decide +kernel
theorem dX9_output_23 : decode cX9_output 23 = .ok (.getfield 38, 3) := by decide +kernel
theorem dX9_output_26 : decode cX9_output 26 = .ok (.iload_n 2, 1) := by decide +kernel
theorem dX9_output_27 : decode cX9_output 27 = .ok (.iaload, 1) := by decide +kernel
theorem dX9_output_28 : decode cX9_output 28 = .ok (.iload_n 1, 1) := by decide +kernel
theorem dX9_output_29 : decode cX9_output 29 = .ok (.if_icmp .ne 7, 3) := by decide +kernel
theorem dX9_output_32 : decode cX9_output 32 = .ok (.sipush (-1003), 3) := by decide +kernel
theorem dX9_output_35 : decode cX9_output 35 = .ok (.ireturn, 1) := by decide +kernel
theorem dX9_output_36 : decode cX9_output 36 = .ok (.iinc 2 1, 3) := by decide +kernel
theorem dX9_output_39 : decode cX9_output 39 = .ok (.goto (-25), 3) := by decide +kernel
theorem dX9_output_42 : decode cX9_output 42 = .ok (.aload_n 0, 1) := by decide +kernel
theorem dX9_output_43 : decode cX9_output 43 = .ok (.getfield 131, 3) := by decide +kernel
theorem dX9_output_46 : decode cX9_output 46 = .ok (.bipush 8, 2) := by decide +kernel
theorem dX9_output_48 : decode cX9_output 48 = .ok (.if_icmp .ne 7, 3) := by decide +kernel
theorem dX9_output_51 : decode cX9_output 51 = .ok (.sipush (-1004), 3) := by decide +kernel
theorem dX9_output_54 : decode cX9_output 54 = .ok (.ireturn, 1) := by decide +kernel
theorem dX9_output_55 : decode cX9_output 55 = .ok (.aload_n 0, 1) := by decide +kernel
theorem dX9_output_56 : decode cX9_output 56 = .ok (.getfield 38, 3) := by decide +kernel
theorem dX9_output_59 : decode cX9_output 59 = .ok (.aload_n 0, 1) := by decide +kernel
theorem dX9_output_60 : decode cX9_output 60 = .ok (.getfield 131, 3) := by decide +kernel
theorem dX9_output_63 : decode cX9_output 63 = .ok (.iload_n 1, 1) := by decide +kernel
theorem dX9_output_64 : decode cX9_output 64 = .ok (.iastore, 1) := by decide +kernel
theorem dX9_output_65 : decode cX9_output 65 = .ok (.aload_n 0, 1) := by decide +kernel
theorem dX9_output_66 : decode cX9_output 66 = .ok (.dup, 1) := by decide +kernel
theorem dX9_output_67 : decode cX9_output 67 = .ok (.getfield 131, 3) := by decide +kernel
theorem dX9_output_70 : decode cX9_output 70 = .ok (.iconst 1, 1) := by decide +kernel
theorem dX9_output_71 : decode cX9_output 71 = .ok (.iadd, 1) := by decide +kernel
theorem dX9_output_72 : decode cX9_output 72 = .ok (.putfield 131, 3) := by decide +kernel
theorem dX9_output_75 : decode cX9_output 75 = .ok (.aload_n 0, 1) := by decide +kernel
theorem dX9_output_76 : decode cX9_output 76 = .ok (.getfield 131, 3) := by decide +kernel
theorem dX9_output_79 : decode cX9_output 79 = .ok (.ireturn, 1) := by decide +kernel
theorem dX9_chained_0 : decode cX9_chained 0 = .ok (.aload_n 0, 1) := by decide +kernel
theorem dX9_chained_1 : decode cX9_chained 1 = .ok (.getfield 44, 3) := by decide +kernel
theorem dX9_chained_4 : decode cX9_chained 4 = .ok (.iconst 0, 1) := by decide +kernel
theorem dX9_chained_5 : decode cX9_chained 5 = .ok (.iaload, 1) := by decide +kernel
theorem dX9_chained_6 : decode cX9_chained 6 = .ok (.aload_n 0, 1) := by decide +kernel
theorem dX9_chained_7 : decode cX9_chained 7 = .ok (.getfield 44, 3) := by decide +kernel
theorem dX9_chained_10 : decode cX9_chained 10 = .ok (.iconst 1, 1) := by decide +kernel
theorem dX9_chained_11 : decode cX9_chained 11 = .ok (.iaload, 1) := by decide +kernel
theorem dX9_chained_12 : decode cX9_chained 12 = .ok (.iadd, 1) := by decide +kernel
theorem dX9_chained_13 : decode cX9_chained 13 = .ok (.aload_n 0, 1) := by decide +kernel
theorem dX9_chained_14 : decode cX9_chained 14 = .ok (.getfield 44, 3) := by decide +kernel
theorem dX9_chained_17 : decode cX9_chained 17 = .ok (.iconst 2, 1) := by decide +kernel
theorem dX9_chained_18 : decode cX9_chained 18 = .ok (.iaload, 1) := by decide +kernel
theorem dX9_chained_19 : decode cX9_chained 19 = .ok (.iadd, 1) := by decide +kernel
theorem dX9_chained_20 : decode cX9_chained 20 = .ok (.ireturn, 1) := by decide +kernel
theorem dX9_count_0 : decode cX9_count 0 = .ok (.iload_n 1, 1) := by decide +kernel
theorem dX9_count_1 : decode cX9_count 1 = .ok (.tableswitch 78 0 6 #[43, 48, 53, 58, 63, 68, 73], 43) := by decide +kernel
theorem dX9_count_44 : decode cX9_count 44 = .ok (.aload_n 0, 1) := by decide +kernel
theorem dX9_count_45 : decode cX9_count 45 = .ok (.getfield 99, 3) := by decide +kernel
theorem dX9_count_48 : decode cX9_count 48 = .ok (.ireturn, 1) := by decide +kernel
theorem dX9_count_49 : decode cX9_count 49 = .ok (.aload_n 0, 1) := by decide +kernel
theorem dX9_count_50 : decode cX9_count 50 = .ok (.getfield 109, 3) := by decide +kernel
theorem dX9_count_53 : decode cX9_count 53 = .ok (.ireturn, 1) := by decide +kernel
theorem dX9_count_54 : decode cX9_count 54 = .ok (.aload_n 0, 1) := by decide +kernel
theorem dX9_count_55 : decode cX9_count 55 = .ok (.getfield 106, 3) := by decide +kernel
theorem dX9_count_58 : decode cX9_count 58 = .ok (.ireturn, 1) := by decide +kernel
theorem dX9_count_59 : decode cX9_count 59 = .ok (.aload_n 0, 1) := by decide +kernel
theorem dX9_count_60 : decode cX9_count 60 = .ok (.getfield 131, 3) := by decide +kernel
theorem dX9_count_63 : decode cX9_count 63 = .ok (.ireturn, 1) := by decide +kernel
theorem dX9_count_64 : decode cX9_count 64 = .ok (.aload_n 0, 1) := by decide +kernel
theorem dX9_count_65 : decode cX9_count 65 = .ok (.getfield 134, 3) := by decide +kernel
theorem dX9_count_68 : decode cX9_count 68 = .ok (.ireturn, 1) := by decide +kernel
theorem dX9_count_69 : decode cX9_count 69 = .ok (.aload_n 0, 1) := by decide +kernel
theorem dX9_count_70 : decode cX9_count 70 = .ok (.invokevirtual 137, 3) := by decide +kernel
theorem dX9_count_73 : decode cX9_count 73 = .ok (.ireturn, 1) := by decide +kernel
theorem dX9_count_74 : decode cX9_count 74 = .ok (.aload_n 0, 1) := by decide +kernel
theorem dX9_count_75 : decode cX9_count 75 = .ok (.getfield 141, 3) := by decide +kernel
theorem dX9_count_78 : decode cX9_count 78 = .ok (.ireturn, 1) := by decide +kernel
theorem dX9_count_79 : decode cX9_count 79 = .ok (.sipush (-1002), 3) := by decide +kernel
theorem dX9_count_82 : decode cX9_count 82 = .ok (.ireturn, 1) := by decide +kernel
theorem dX9_not_0 : decode cX9_not 0 = .ok (.iload_n 0, 1) := by decide +kernel
theorem dX9_not_1 : decode cX9_not 1 = .ok (.iconst 2, 1) := by decide +kernel
theorem dX9_not_2 : decode cX9_not 2 = .ok (.if_icmp .ne 7, 3) := by decide +kernel
theorem dX9_not_5 : decode cX9_not 5 = .ok (.iconst 2, 1) := by decide +kernel
theorem dX9_not_6 : decode cX9_not 6 = .ok (.goto 6, 3) := by decide +kernel
theorem dX9_not_9 : decode cX9_not 9 = .ok (.iconst 1, 1) := by decide +kernel
theorem dX9_not_10 : decode cX9_not 10 = .ok (.iload_n 0, 1) := by decide +kernel
theorem dX9_not_11 : decode cX9_not 11 = .ok (.isub, 1) := by decide +kernel
theorem dX9_not_12 : decode cX9_not 12 = .ok (.ireturn, 1) := by decide +kernel
theorem dX9_and_0 : decode cX9_and 0 = .ok (.iload_n 0, 1) := by decide +kernel
theorem dX9_and_1 : decode cX9_and 1 = .ok (.ifCond .eq 7, 3) := by decide +kernel
theorem dX9_and_4 : decode cX9_and 4 = .ok (.iload_n 1, 1) := by decide +kernel
theorem dX9_and_5 : decode cX9_and 5 = .ok (.ifCond .ne 7, 3) := by decide +kernel
theorem dX9_and_8 : decode cX9_and 8 = .ok (.iconst 0, 1) := by decide +kernel
theorem dX9_and_9 : decode cX9_and 9 = .ok (.goto 18, 3) := by decide +kernel
theorem dX9_and_12 : decode cX9_and 12 = .ok (.iload_n 0, 1) := by decide +kernel
theorem dX9_and_13 : decode cX9_and 13 = .ok (.iconst 1, 1) := by decide +kernel
theorem dX9_and_14 : decode cX9_and 14 = .ok (.if_icmp .ne 12, 3) := by decide +kernel
theorem dX9_and_17 : decode cX9_and 17 = .ok (.iload_n 1, 1) := by decide +kernel
theorem dX9_and_18 : decode cX9_and 18 = .ok (.iconst 1, 1) := by decide +kernel
theorem dX9_and_19 : decode cX9_and 19 = .ok (.if_icmp .ne 7, 3) := by decide +kernel
theorem dX9_and_22 : decode cX9_and 22 = .ok (.iconst 1, 1) := by decide +kernel
theorem dX9_and_23 : decode cX9_and 23 = .ok (.goto 4, 3) := by decide +kernel
theorem dX9_and_26 : decode cX9_and 26 = .ok (.iconst 2, 1) := by decide +kernel
theorem dX9_and_27 : decode cX9_and 27 = .ok (.ireturn, 1) := by decide +kernel
theorem dX9_pick_0 : decode cX9_pick 0 = .ok (.iload_n 0, 1) := by decide +kernel
theorem dX9_pick_1 : decode cX9_pick 1 = .ok (.ifCond .ne 7, 3) := by decide +kernel
theorem dX9_pick_4 : decode cX9_pick 4 = .ok (.iload_n 1, 1) := by decide +kernel
theorem dX9_pick_5 : decode cX9_pick 5 = .ok (.goto 22, 3) := by decide +kernel
theorem dX9_pick_8 : decode cX9_pick 8 = .ok (.iload_n 0, 1) := by decide +kernel
theorem dX9_pick_9 : decode cX9_pick 9 = .ok (.iconst 1, 1) := by decide +kernel
theorem dX9_pick_10 : decode cX9_pick 10 = .ok (.if_icmp .ne 7, 3) := by decide +kernel
theorem dX9_pick_13 : decode cX9_pick 13 = .ok (.iload_n 2, 1) := by decide +kernel
theorem dX9_pick_14 : decode cX9_pick 14 = .ok (.goto 13, 3) := by decide +kernel
theorem dX9_pick_17 : decode cX9_pick 17 = .ok (.iload_n 1, 1) := by decide +kernel
theorem dX9_pick_18 : decode cX9_pick 18 = .ok (.iload_n 2, 1) := by decide +kernel
theorem dX9_pick_19 : decode cX9_pick 19 = .ok (.if_icmp .ne 7, 3) := by decide +kernel
theorem dX9_pick_22 : decode cX9_pick 22 = .ok (.iload_n 1, 1) := by decide +kernel
theorem dX9_pick_23 : decode cX9_pick 23 = .ok (.goto 4, 3) := by decide +kernel
theorem dX9_pick_26 : decode cX9_pick 26 = .ok (.iconst 2, 1) := by decide +kernel
theorem dX9_pick_27 : decode cX9_pick 27 = .ok (.ireturn, 1) := by decide +kernel
theorem dX9_gateValue_0 : decode cX9_gateValue 0 = .ok (.aload_n 0, 1) := by decide +kernel
theorem dX9_gateValue_1 : decode cX9_gateValue 1 = .ok (.getfield 66, 3) := by decide +kernel
theorem dX9_gateValue_4 : decode cX9_gateValue 4 = .ok (.aload_n 0, 1) := by decide +kernel
theorem dX9_gateValue_5 : decode cX9_gateValue 5 = .ok (.getfield 16, 3) := by decide +kernel
theorem dX9_gateValue_8 : decode cX9_gateValue 8 = .ok (.iconst 3, 1) := by decide +kernel
theorem dX9_gateValue_9 : decode cX9_gateValue 9 = .ok (.iload_n 1, 1) := by decide +kernel
theorem dX9_gateValue_10 : decode cX9_gateValue 10 = .ok (.imul, 1) := by decide +kernel
theorem dX9_gateValue_11 : decode cX9_gateValue 11 = .ok (.iaload, 1) := by decide +kernel
theorem dX9_gateValue_12 : decode cX9_gateValue 12 = .ok (.iaload, 1) := by decide +kernel
theorem dX9_gateValue_13 : decode cX9_gateValue 13 = .ok (.istore_n 2, 1) := by decide +kernel
theorem dX9_gateValue_14 : decode cX9_gateValue 14 = .ok (.aload_n 0, 1) := by decide +kernel
theorem dX9_gateValue_15 : decode cX9_gateValue 15 = .ok (.getfield 66, 3) := by decide +kernel
theorem dX9_gateValue_18 : decode cX9_gateValue 18 = .ok (.aload_n 0, 1) := by decide +kernel
theorem dX9_gateValue_19 : decode cX9_gateValue 19 = .ok (.getfield 16, 3) := by decide +kernel
theorem dX9_gateValue_22 : decode cX9_gateValue 22 = .ok (.iconst 3, 1) := by decide +kernel
theorem dX9_gateValue_23 : decode cX9_gateValue 23 = .ok (.iload_n 1, 1) := by decide +kernel
theorem dX9_gateValue_24 : decode cX9_gateValue 24 = .ok (.imul, 1) := by decide +kernel
theorem dX9_gateValue_25 : decode cX9_gateValue 25 = .ok (.iconst 1, 1) := by decide +kernel
theorem dX9_gateValue_26 : decode cX9_gateValue 26 = .ok (.iadd, 1) := by decide +kernel
theorem dX9_gateValue_27 : decode cX9_gateValue 27 = .ok (.iaload, 1) := by decide +kernel
theorem dX9_gateValue_28 : decode cX9_gateValue 28 = .ok (.iaload, 1) := by decide +kernel
theorem dX9_gateValue_29 : decode cX9_gateValue 29 = .ok (.istore_n 3, 1) := by decide +kernel
theorem dX9_gateValue_30 : decode cX9_gateValue 30 = .ok (.aload_n 0, 1) := by decide +kernel
theorem dX9_gateValue_31 : decode cX9_gateValue 31 = .ok (.getfield 66, 3) := by decide +kernel
theorem dX9_gateValue_34 : decode cX9_gateValue 34 = .ok (.aload_n 0, 1) := by decide +kernel
theorem dX9_gateValue_35 : decode cX9_gateValue 35 = .ok (.getfield 16, 3) := by decide +kernel
theorem dX9_gateValue_38 : decode cX9_gateValue 38 = .ok (.iconst 3, 1) := by decide +kernel
theorem dX9_gateValue_39 : decode cX9_gateValue 39 = .ok (.iload_n 1, 1) := by decide +kernel
theorem dX9_gateValue_40 : decode cX9_gateValue 40 = .ok (.imul, 1) := by decide +kernel
theorem dX9_gateValue_41 : decode cX9_gateValue 41 = .ok (.iconst 2, 1) := by decide +kernel
theorem dX9_gateValue_42 : decode cX9_gateValue 42 = .ok (.iadd, 1) := by decide +kernel
theorem dX9_gateValue_43 : decode cX9_gateValue 43 = .ok (.iaload, 1) := by decide +kernel
theorem dX9_gateValue_44 : decode cX9_gateValue 44 = .ok (.iaload, 1) := by decide +kernel
theorem dX9_gateValue_45 : decode cX9_gateValue 45 = .ok (.istore 4, 2) := by decide +kernel
theorem dX9_gateValue_47 : decode cX9_gateValue 47 = .ok (.aload_n 0, 1) := by decide +kernel
theorem dX9_gateValue_48 : decode cX9_gateValue 48 = .ok (.getfield 13, 3) := by decide +kernel
theorem dX9_gateValue_51 : decode cX9_gateValue 51 = .ok (.iload_n 1, 1) := by decide +kernel
theorem dX9_gateValue_52 : decode cX9_gateValue 52 = .ok (.iaload, 1) := by decide +kernel
theorem dX9_gateValue_53 : decode cX9_gateValue 53 = .ok (.tableswitch 107 0 5 #[39, 45, 60, 85, 90, 98], 39) := by decide +kernel
theorem dX9_gateValue_92 : decode cX9_gateValue 92 = .ok (.iload_n 2, 1) := by decide +kernel
theorem dX9_gateValue_93 : decode cX9_gateValue 93 = .ok (.iload_n 3, 1) := by decide +kernel
theorem dX9_gateValue_94 : decode cX9_gateValue 94 = .ok (.invokestatic 144, 3) := by decide +kernel
theorem dX9_gateValue_97 : decode cX9_gateValue 97 = .ok (.ireturn, 1) := by decide +kernel
