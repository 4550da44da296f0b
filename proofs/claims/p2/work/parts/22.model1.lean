theorem dMD_state_0 : decode cMD_state 0 = .ok (.aload_n 0, 1) := by decide +kernel
theorem dMD_state_1 : decode cMD_state 1 = .ok (.iconst 0, 1) := by decide +kernel
theorem dMD_state_2 : decode cMD_state 2 = .ok (.putfield 63, 3) := by decide +kernel
theorem dMD_state_5 : decode cMD_state 5 = .ok (.aload_n 0, 1) := by decide +kernel
theorem dMD_state_6 : decode cMD_state 6 = .ok (.getfield 71, 3) := by decide +kernel
theorem dMD_state_9 : decode cMD_state 9 = .ok (.ifCond .eq 42, 3) := by decide +kernel
theorem dMD_state_12 : decode cMD_state 12 = .ok (.iload_n 1, 1) := by decide +kernel
theorem dMD_state_13 : decode cMD_state 13 = .ok (.iconst 5, 1) := by decide +kernel
theorem dMD_state_14 : decode cMD_state 14 = .ok (.invokestatic 67, 3) := by decide +kernel
theorem dMD_state_17 : decode cMD_state 17 = .ok (.ifCond .eq 34, 3) := by decide +kernel
theorem dMD_state_20 : decode cMD_state 20 = .ok (.aload_n 0, 1) := by decide +kernel
theorem dMD_state_21 : decode cMD_state 21 = .ok (.getfield 22, 3) := by decide +kernel
theorem dMD_state_24 : decode cMD_state 24 = .ok (.iload_n 1, 1) := by decide +kernel
theorem dMD_state_25 : decode cMD_state 25 = .ok (.iaload, 1) := by decide +kernel
theorem dMD_state_26 : decode cMD_state 26 = .ok (.iconst 4, 1) := by decide +kernel
theorem dMD_state_27 : decode cMD_state 27 = .ok (.aload_n 0, 1) := by decide +kernel
theorem dMD_state_28 : decode cMD_state 28 = .ok (.getfield 25, 3) := by decide +kernel
theorem dMD_state_31 : decode cMD_state 31 = .ok (.iload_n 1, 1) := by decide +kernel
theorem dMD_state_32 : decode cMD_state 32 = .ok (.iaload, 1) := by decide +kernel
theorem dMD_state_33 : decode cMD_state 33 = .ok (.imul, 1) := by decide +kernel
theorem dMD_state_34 : decode cMD_state 34 = .ok (.iadd, 1) := by decide +kernel
theorem dMD_state_35 : decode cMD_state 35 = .ok (.i2l, 1) := by decide +kernel
theorem dMD_state_36 : decode cMD_state 36 = .ok (.ldc2_w 134, 3) := by decide +kernel
theorem dMD_state_39 : decode cMD_state 39 = .ok (.aload_n 0, 1) := by decide +kernel
theorem dMD_state_40 : decode cMD_state 40 = .ok (.getfield 28, 3) := by decide +kernel
theorem dMD_state_43 : decode cMD_state 43 = .ok (.iload_n 1, 1) := by decide +kernel
theorem dMD_state_44 : decode cMD_state 44 = .ok (.iaload, 1) := by decide +kernel
theorem dMD_state_45 : decode cMD_state 45 = .ok (.i2l, 1) := by decide +kernel
theorem dMD_state_46 : decode cMD_state 46 = .ok (.lmul, 1) := by decide +kernel
theorem dMD_state_47 : decode cMD_state 47 = .ok (.ladd, 1) := by decide +kernel
theorem dMD_state_48 : decode cMD_state 48 = .ok (.goto 6, 3) := by decide +kernel
theorem dMD_state_51 : decode cMD_state 51 = .ok (.ldc2_w 136, 3) := by decide +kernel
theorem dMD_state_54 : decode cMD_state 54 = .ok (.lreturn, 1) := by decide +kernel
theorem dMD_events_0 : decode cMD_events 0 = .ok (.aload_n 0, 1) := by decide +kernel
theorem dMD_events_1 : decode cMD_events 1 = .ok (.iconst 0, 1) := by decide +kernel
theorem dMD_events_2 : decode cMD_events 2 = .ok (.putfield 63, 3) := by decide +kernel
theorem dMD_events_5 : decode cMD_events 5 = .ok (.aload_n 0, 1) := by decide +kernel
theorem dMD_events_6 : decode cMD_events 6 = .ok (.getfield 78, 3) := by decide +kernel
theorem dMD_events_9 : decode cMD_events 9 = .ok (.ireturn, 1) := by decide +kernel
theorem dMD_event_0 : decode cMD_event 0 = .ok (.aload_n 0, 1) := by decide +kernel
theorem dMD_event_1 : decode cMD_event 1 = .ok (.iconst 0, 1) := by decide +kernel
theorem dMD_event_2 : decode cMD_event 2 = .ok (.putfield 63, 3) := by decide +kernel
theorem dMD_event_5 : decode cMD_event 5 = .ok (.iload_n 1, 1) := by decide +kernel
theorem dMD_event_6 : decode cMD_event 6 = .ok (.aload_n 0, 1) := by decide +kernel
theorem dMD_event_7 : decode cMD_event 7 = .ok (.getfield 78, 3) := by decide +kernel
theorem dMD_event_10 : decode cMD_event 10 = .ok (.invokestatic 67, 3) := by decide +kernel
theorem dMD_event_13 : decode cMD_event 13 = .ok (.ifCond .eq 33, 3) := by decide +kernel
theorem dMD_event_16 : decode cMD_event 16 = .ok (.aload_n 0, 1) := by decide +kernel
theorem dMD_event_17 : decode cMD_event 17 = .ok (.getfield 37, 3) := by decide +kernel
theorem dMD_event_20 : decode cMD_event 20 = .ok (.iload_n 1, 1) := by decide +kernel
theorem dMD_event_21 : decode cMD_event 21 = .ok (.iaload, 1) := by decide +kernel
theorem dMD_event_22 : decode cMD_event 22 = .ok (.bipush 8, 2) := by decide +kernel
theorem dMD_event_24 : decode cMD_event 24 = .ok (.aload_n 0, 1) := by decide +kernel
theorem dMD_event_25 : decode cMD_event 25 = .ok (.getfield 40, 3) := by decide +kernel
theorem dMD_event_28 : decode cMD_event 28 = .ok (.iload_n 1, 1) := by decide +kernel
theorem dMD_event_29 : decode cMD_event 29 = .ok (.iaload, 1) := by decide +kernel
theorem dMD_event_30 : decode cMD_event 30 = .ok (.imul, 1) := by decide +kernel
theorem dMD_event_31 : decode cMD_event 31 = .ok (.iadd, 1) := by decide +kernel
theorem dMD_event_32 : decode cMD_event 32 = .ok (.sipush 128, 3) := by decide +kernel
theorem dMD_event_35 : decode cMD_event 35 = .ok (.aload_n 0, 1) := by decide +kernel
theorem dMD_event_36 : decode cMD_event 36 = .ok (.getfield 43, 3) := by decide +kernel
theorem dMD_event_39 : decode cMD_event 39 = .ok (.iload_n 1, 1) := by decide +kernel
theorem dMD_event_40 : decode cMD_event 40 = .ok (.iaload, 1) := by decide +kernel
theorem dMD_event_41 : decode cMD_event 41 = .ok (.imul, 1) := by decide +kernel
theorem dMD_event_42 : decode cMD_event 42 = .ok (.iadd, 1) := by decide +kernel
theorem dMD_event_43 : decode cMD_event 43 = .ok (.goto 4, 3) := by decide +kernel
theorem dMD_event_46 : decode cMD_event 46 = .ok (.iconst (-1), 1) := by decide +kernel
theorem dMD_event_47 : decode cMD_event 47 = .ok (.ireturn, 1) := by decide +kernel
theorem dMD_before_0 : decode cMD_before 0 = .ok (.aload_n 0, 1) := by decide +kernel
theorem dMD_before_1 : decode cMD_before 1 = .ok (.iconst 0, 1) := by decide +kernel
theorem dMD_before_2 : decode cMD_before 2 = .ok (.putfield 63, 3) := by decide +kernel
theorem dMD_before_5 : decode cMD_before 5 = .ok (.iload_n 1, 1) := by decide +kernel
theorem dMD_before_6 : decode cMD_before 6 = .ok (.aload_n 0, 1) := by decide +kernel
theorem dMD_before_7 : decode cMD_before 7 = .ok (.getfield 78, 3) := by decide +kernel
theorem dMD_before_10 : decode cMD_before 10 = .ok (.invokestatic 67, 3) := by decide +kernel
theorem dMD_before_13 : decode cMD_before 13 = .ok (.ifCond .eq 27, 3) := by decide +kernel
theorem dMD_before_16 : decode cMD_before 16 = .ok (.iload_n 2, 1) := by decide +kernel
theorem dMD_before_17 : decode cMD_before 17 = .ok (.aload_n 0, 1) := by decide +kernel
theorem dMD_before_18 : decode cMD_before 18 = .ok (.getfield 78, 3) := by decide +kernel
theorem dMD_before_21 : decode cMD_before 21 = .ok (.invokestatic 67, 3) := by decide +kernel
theorem dMD_before_24 : decode cMD_before 24 = .ok (.ifCond .eq 16, 3) := by decide +kernel
theorem dMD_before_27 : decode cMD_before 27 = .ok (.aload_n 0, 1) := by decide +kernel
theorem dMD_before_28 : decode cMD_before 28 = .ok (.iload_n 1, 1) := by decide +kernel
theorem dMD_before_29 : decode cMD_before 29 = .ok (.iload_n 2, 1) := by decide +kernel
theorem dMD_before_30 : decode cMD_before 30 = .ok (.invokevirtual 127, 3) := by decide +kernel
theorem dMD_before_33 : decode cMD_before 33 = .ok (.ifCond .eq 7, 3) := by decide +kernel
theorem dMD_before_36 : decode cMD_before 36 = .ok (.iconst 1, 1) := by decide +kernel
theorem dMD_before_37 : decode cMD_before 37 = .ok (.goto 4, 3) := by decide +kernel
theorem dMD_before_40 : decode cMD_before 40 = .ok (.iconst 0, 1) := by decide +kernel
theorem dMD_before_41 : decode cMD_before 41 = .ok (.ireturn, 1) := by decide +kernel
theorem dMD_holder_0 : decode cMD_holder 0 = .ok (.aload_n 0, 1) := by decide +kernel
theorem dMD_holder_1 : decode cMD_holder 1 = .ok (.iconst 0, 1) := by decide +kernel
theorem dMD_holder_2 : decode cMD_holder 2 = .ok (.putfield 63, 3) := by decide +kernel
theorem dMD_holder_5 : decode cMD_holder 5 = .ok (.iload_n 1, 1) := by decide +kernel
theorem dMD_holder_6 : decode cMD_holder 6 = .ok (.iconst 3, 1) := by decide +kernel
theorem dMD_holder_7 : decode cMD_holder 7 = .ok (.invokestatic 67, 3) := by decide +kernel
theorem dMD_holder_10 : decode cMD_holder 10 = .ok (.ifCond .eq 31, 3) := by decide +kernel
theorem dMD_holder_13 : decode cMD_holder 13 = .ok (.aload_n 0, 1) := by decide +kernel
theorem dMD_holder_14 : decode cMD_holder 14 = .ok (.getfield 31, 3) := by decide +kernel
theorem dMD_holder_17 : decode cMD_holder 17 = .ok (.iload_n 1, 1) := by decide +kernel
theorem dMD_holder_18 : decode cMD_holder 18 = .ok (.iaload, 1) := by decide +kernel
theorem dMD_holder_19 : decode cMD_holder 19 = .ok (.ifCond .lt 22, 3) := by decide +kernel
theorem dMD_holder_22 : decode cMD_holder 22 = .ok (.aload_n 0, 1) := by decide +kernel
theorem dMD_holder_23 : decode cMD_holder 23 = .ok (.getfield 31, 3) := by decide +kernel
theorem dMD_holder_26 : decode cMD_holder 26 = .ok (.iload_n 1, 1) := by decide +kernel
theorem dMD_holder_27 : decode cMD_holder 27 = .ok (.iaload, 1) := by decide +kernel
theorem dMD_holder_28 : decode cMD_holder 28 = .ok (.bipush 8, 2) := by decide +kernel
theorem dMD_holder_30 : decode cMD_holder 30 = .ok (.aload_n 0, 1) := by decide +kernel
theorem dMD_holder_31 : decode cMD_holder 31 = .ok (.getfield 34, 3) := by decide +kernel
theorem dMD_holder_34 : decode cMD_holder 34 = .ok (.iload_n 1, 1) := by decide +kernel
theorem dMD_holder_35 : decode cMD_holder 35 = .ok (.iaload, 1) := by decide +kernel
theorem dMD_holder_36 : decode cMD_holder 36 = .ok (.imul, 1) := by decide +kernel
theorem dMD_holder_37 : decode cMD_holder 37 = .ok (.iadd, 1) := by decide +kernel
theorem dMD_holder_38 : decode cMD_holder 38 = .ok (.goto 4, 3) := by decide +kernel
theorem dMD_holder_41 : decode cMD_holder 41 = .ok (.iconst (-1), 1) := by decide +kernel
theorem dMD_holder_42 : decode cMD_holder 42 = .ok (.ireturn, 1) := by decide +kernel
theorem dMD_race_0 : decode cMD_race 0 = .ok (.aload_n 0, 1) := by decide +kernel
theorem dMD_race_1 : decode cMD_race 1 = .ok (.iconst 0, 1) := by decide +kernel
theorem dMD_race_2 : decode cMD_race 2 = .ok (.putfield 63, 3) := by decide +kernel
theorem dMD_race_5 : decode cMD_race 5 = .ok (.iload_n 1, 1) := by decide +kernel
theorem dMD_race_6 : decode cMD_race 6 = .ok (.bipush 8, 2) := by decide +kernel
theorem dMD_race_8 : decode cMD_race 8 = .ok (.invokestatic 67, 3) := by decide +kernel
theorem dMD_race_11 : decode cMD_race 11 = .ok (.ifCond .eq 12, 3) := by decide +kernel
theorem dMD_race_14 : decode cMD_race 14 = .ok (.aload_n 0, 1) := by decide +kernel
theorem dMD_race_15 : decode cMD_race 15 = .ok (.getfield 54, 3) := by decide +kernel
theorem dMD_race_18 : decode cMD_race 18 = .ok (.iload_n 1, 1) := by decide +kernel
theorem dMD_race_19 : decode cMD_race 19 = .ok (.iaload, 1) := by decide +kernel
theorem dMD_race_20 : decode cMD_race 20 = .ok (.goto 4, 3) := by decide +kernel
theorem dMD_race_23 : decode cMD_race 23 = .ok (.iconst (-1), 1) := by decide +kernel
theorem dMD_race_24 : decode cMD_race 24 = .ok (.ireturn, 1) := by decide +kernel
theorem dMD_partner_0 : decode cMD_partner 0 = .ok (.aload_n 0, 1) := by decide +kernel
theorem dMD_partner_1 : decode cMD_partner 1 = .ok (.iconst 0, 1) := by decide +kernel
theorem dMD_partner_2 : decode cMD_partner 2 = .ok (.putfield 63, 3) := by decide +kernel
theorem dMD_partner_5 : decode cMD_partner 5 = .ok (.iload_n 1, 1) := by decide +kernel
theorem dMD_partner_6 : decode cMD_partner 6 = .ok (.bipush 8, 2) := by decide +kernel
theorem dMD_partner_8 : decode cMD_partner 8 = .ok (.invokestatic 67, 3) := by decide +kernel
theorem dMD_partner_11 : decode cMD_partner 11 = .ok (.ifCond .eq 12, 3) := by decide +kernel
theorem dMD_partner_14 : decode cMD_partner 14 = .ok (.aload_n 0, 1) := by decide +kernel
theorem dMD_partner_15 : decode cMD_partner 15 = .ok (.getfield 57, 3) := by decide +kernel
theorem dMD_partner_18 : decode cMD_partner 18 = .ok (.iload_n 1, 1) := by decide +kernel
theorem dMD_partner_19 : decode cMD_partner 19 = .ok (.iaload, 1) := by decide +kernel
theorem dMD_partner_20 : decode cMD_partner 20 = .ok (.goto 4, 3) := by decide +kernel
theorem dMD_partner_23 : decode cMD_partner 23 = .ok (.iconst (-1), 1) := by decide +kernel
theorem dMD_partner_24 : decode cMD_partner 24 = .ok (.ireturn, 1) := by decide +kernel
theorem dMD_races_0 : decode cMD_races 0 = .ok (.aload_n 0, 1) := by decide +kernel
theorem dMD_races_1 : decode cMD_races 1 = .ok (.iconst 0, 1) := by decide +kernel
theorem dMD_races_2 : decode cMD_races 2 = .ok (.putfield 63, 3) := by decide +kernel
theorem dMD_races_5 : decode cMD_races 5 = .ok (.iconst 0, 1) := by decide +kernel
theorem dMD_races_6 : decode cMD_races 6 = .ok (.istore_n 1, 1) := by decide +kernel
theorem dMD_races_7 : decode cMD_races 7 = .ok (.iconst 0, 1) := by decide +kernel
theorem dMD_races_8 : decode cMD_races 8 = .ok (.istore_n 2, 1) := by decide +kernel
theorem dMD_races_9 : decode cMD_races 9 = .ok (.iload_n 2, 1) := by decide +kernel
theorem dMD_races_10 : decode cMD_races 10 = .ok (.bipush 8, 2) := by decide +kernel
theorem dMD_races_12 : decode cMD_races 12 = .ok (.if_icmp .ge 26, 3) := by decide +kernel
theorem dMD_races_15 : decode cMD_races 15 = .ok (.aload_n 0, 1) := by decide +kernel
theorem dMD_races_16 : decode cMD_races 16 = .ok (.getfield 54, 3) := by decide +kernel
theorem dMD_races_19 : decode cMD_races 19 = .ok (.iload_n 2, 1) := by decide +kernel
theorem dMD_races_20 : decode cMD_races 20 = .ok (.iaload, 1) := by decide +kernel
theorem dMD_races_21 : decode cMD_races 21 = .ok (.ifCond .lt 9, 3) := by decide +kernel
theorem dMD_races_24 : decode cMD_races 24 = .ok (.iload_n 1, 1) := by decide +kernel
theorem dMD_races_25 : decode cMD_races 25 = .ok (.iconst 1, 1) := by decide +kernel
theorem dMD_races_26 : decode cMD_races 26 = .ok (.iadd, 1) := by decide +kernel
theorem dMD_races_27 : decode cMD_races 27 = .ok (.goto 4, 3) := by decide +kernel
theorem dMD_races_30 : decode cMD_races 30 = .ok (.iload_n 1, 1) := by decide +kernel
theorem dMD_races_31 : decode cMD_races 31 = .ok (.istore_n 1, 1) := by decide +kernel
theorem dMD_races_32 : decode cMD_races 32 = .ok (.iinc 2 1, 3) := by decide +kernel
theorem dMD_races_35 : decode cMD_races 35 = .ok (.goto (-26), 3) := by decide +kernel
theorem dMD_races_38 : decode cMD_races 38 = .ok (.iload_n 1, 1) := by decide +kernel
theorem dMD_races_39 : decode cMD_races 39 = .ok (.ireturn, 1) := by decide +kernel
theorem dMD_again_0 : decode cMD_again 0 = .ok (.aload_n 0, 1) := by decide +kernel
theorem dMD_again_1 : decode cMD_again 1 = .ok (.iconst 0, 1) := by decide +kernel
theorem dMD_again_2 : decode cMD_again 2 = .ok (.putfield 63, 3) := by decide +kernel
theorem dMD_again_5 : decode cMD_again 5 = .ok (.iload_n 1, 1) := by decide +kernel
theorem dMD_again_6 : decode cMD_again 6 = .ok (.ifCond .lt 11, 3) := by decide +kernel
theorem dMD_again_9 : decode cMD_again 9 = .ok (.iload_n 1, 1) := by decide +kernel
theorem dMD_again_10 : decode cMD_again 10 = .ok (.aload_n 0, 1) := by decide +kernel
theorem dMD_again_11 : decode cMD_again 11 = .ok (.getfield 78, 3) := by decide +kernel
theorem dMD_again_14 : decode cMD_again 14 = .ok (.if_icmp .le 5, 3) := by decide +kernel
theorem dMD_again_17 : decode cMD_again 17 = .ok (.iconst (-1), 1) := by decide +kernel
theorem dMD_again_18 : decode cMD_again 18 = .ok (.ireturn, 1) := by decide +kernel
theorem dMD_again_19 : decode cMD_again 19 = .ok (.iconst 0, 1) := by decide +kernel
theorem dMD_again_20 : decode cMD_again 20 = .ok (.istore_n 3, 1) := by decide +kernel
theorem dMD_again_21 : decode cMD_again 21 = .ok (.iconst 0, 1) := by decide +kernel
theorem dMD_again_22 : decode cMD_again 22 = .ok (.istore 4, 2) := by decide +kernel
theorem dMD_again_24 : decode cMD_again 24 = .ok (.iload 4, 2) := by decide +kernel
theorem dMD_again_26 : decode cMD_again 26 = .ok (.iload_n 1, 1) := by decide +kernel
theorem dMD_again_27 : decode cMD_again 27 = .ok (.if_icmp .ge 54, 3) := by decide +kernel
theorem dMD_again_30 : decode cMD_again 30 = .ok (.aload_n 0, 1) := by decide +kernel
theorem dMD_again_31 : decode cMD_again 31 = .ok (.iload 4, 2) := by decide +kernel
theorem dMD_again_33 : decode cMD_again 33 = .ok (.invokevirtual 120, 3) := by decide +kernel
theorem dMD_again_36 : decode cMD_again 36 = .ok (.ifCond .eq 39, 3) := by decide +kernel
theorem dMD_again_39 : decode cMD_again 39 = .ok (.iload_n 3, 1) := by decide +kernel
theorem dMD_again_40 : decode cMD_again 40 = .ok (.aload_n 0, 1) := by decide +kernel
theorem dMD_again_41 : decode cMD_again 41 = .ok (.iload 4, 2) := by decide +kernel
theorem dMD_again_43 : decode cMD_again 43 = .ok (.iload_n 2, 1) := by decide +kernel
theorem dMD_again_44 : decode cMD_again 44 = .ok (.invokevirtual 109, 3) := by decide +kernel
theorem dMD_again_47 : decode cMD_again 47 = .ok (.ishr, 1) := by decide +kernel
theorem dMD_again_48 : decode cMD_again 48 = .ok (.iconst 1, 1) := by decide +kernel
theorem dMD_again_49 : decode cMD_again 49 = .ok (.iand, 1) := by decide +kernel
theorem dMD_again_50 : decode cMD_again 50 = .ok (.ifCond .ne 25, 3) := by decide +kernel
theorem dMD_again_53 : decode cMD_again 53 = .ok (.aload_n 0, 1) := by decide +kernel
theorem dMD_again_54 : decode cMD_again 54 = .ok (.iload 4, 2) := by decide +kernel
theorem dMD_again_56 : decode cMD_again 56 = .ok (.iload_n 2, 1) := by decide +kernel
theorem dMD_again_57 : decode cMD_again 57 = .ok (.invokevirtual 113, 3) := by decide +kernel
theorem dMD_again_60 : decode cMD_again 60 = .ok (.ifCond .eq 15, 3) := by decide +kernel
theorem dMD_again_63 : decode cMD_again 63 = .ok (.iload_n 3, 1) := by decide +kernel
theorem dMD_again_64 : decode cMD_again 64 = .ok (.iconst 1, 1) := by decide +kernel
theorem dMD_again_65 : decode cMD_again 65 = .ok (.aload_n 0, 1) := by decide +kernel
theorem dMD_again_66 : decode cMD_again 66 = .ok (.iload 4, 2) := by decide +kernel
theorem dMD_again_68 : decode cMD_again 68 = .ok (.iload_n 2, 1) := by decide +kernel
theorem dMD_again_69 : decode cMD_again 69 = .ok (.invokevirtual 109, 3) := by decide +kernel
theorem dMD_again_72 : decode cMD_again 72 = .ok (.ishl, 1) := by decide +kernel
theorem dMD_again_73 : decode cMD_again 73 = .ok (.ior, 1) := by decide +kernel
theorem dMD_again_74 : decode cMD_again 74 = .ok (.istore_n 3, 1) := by decide +kernel
theorem dMD_again_75 : decode cMD_again 75 = .ok (.iinc 4 1, 3) := by decide +kernel
theorem dMD_again_78 : decode cMD_again 78 = .ok (.goto (-54), 3) := by decide +kernel
theorem dMD_again_81 : decode cMD_again 81 = .ok (.iload_n 3, 1) := by decide +kernel
theorem dMD_again_82 : decode cMD_again 82 = .ok (.ireturn, 1) := by decide +kernel
theorem dMD_isBad_0 : decode cMD_isBad 0 = .ok (.aload_n 0, 1) := by decide +kernel
theorem dMD_isBad_1 : decode cMD_isBad 1 = .ok (.getfield 7, 3) := by decide +kernel
theorem dMD_isBad_4 : decode cMD_isBad 4 = .ok (.iconst 0, 1) := by decide +kernel
theorem dMD_isBad_5 : decode cMD_isBad 5 = .ok (.iaload, 1) := by decide +kernel
theorem dMD_isBad_6 : decode cMD_isBad 6 = .ok (.ifCond .ne 7, 3) := by decide +kernel
theorem dMD_isBad_9 : decode cMD_isBad 9 = .ok (.iconst 1, 1) := by decide +kernel
theorem dMD_isBad_10 : decode cMD_isBad 10 = .ok (.goto 4, 3) := by decide +kernel
theorem dMD_isBad_13 : decode cMD_isBad 13 = .ok (.iconst 0, 1) := by decide +kernel
theorem dMD_isBad_14 : decode cMD_isBad 14 = .ok (.istore_n 1, 1) := by decide +kernel
theorem dMD_isBad_15 : decode cMD_isBad 15 = .ok (.iconst 0, 1) := by decide +kernel
theorem dMD_isBad_16 : decode cMD_isBad 16 = .ok (.istore_n 2, 1) := by decide +kernel
theorem dMD_isBad_17 : decode cMD_isBad 17 = .ok (.iload_n 2, 1) := by decide +kernel
theorem dMD_isBad_18 : decode cMD_isBad 18 = .ok (.iconst 5, 1) := by decide +kernel
theorem dMD_isBad_19 : decode cMD_isBad 19 = .ok (.if_icmp .ge 140, 3) := by decide +kernel
theorem dMD_isBad_22 : decode cMD_isBad 22 = .ok (.iconst 0, 1) := by decide +kernel
theorem dMD_isBad_23 : decode cMD_isBad 23 = .ok (.istore_n 3, 1) := by decide +kernel
theorem dMD_isBad_24 : decode cMD_isBad 24 = .ok (.iload_n 3, 1) := by decide +kernel
theorem dMD_isBad_25 : decode cMD_isBad 25 = .ok (.aload_n 0, 1) := by decide +kernel
theorem dMD_isBad_26 : decode cMD_isBad 26 = .ok (.getfield 7, 3) := by decide +kernel
theorem dMD_isBad_29 : decode cMD_isBad 29 = .ok (.iload_n 2, 1) := by decide +kernel
theorem dMD_isBad_30 : decode cMD_isBad 30 = .ok (.iaload, 1) := by decide +kernel
theorem dMD_isBad_31 : decode cMD_isBad 31 = .ok (.if_icmp .ge 122, 3) := by decide +kernel
theorem dMD_isBad_34 : decode cMD_isBad 34 = .ok (.bipush 12, 2) := by decide +kernel
theorem dMD_isBad_36 : decode cMD_isBad 36 = .ok (.iload_n 2, 1) := by decide +kernel
theorem dMD_isBad_37 : decode cMD_isBad 37 = .ok (.imul, 1) := by decide +kernel
theorem dMD_isBad_38 : decode cMD_isBad 38 = .ok (.iload_n 3, 1) := by decide +kernel
theorem dMD_isBad_39 : decode cMD_isBad 39 = .ok (.iadd, 1) := by decide +kernel
theorem dMD_isBad_40 : decode cMD_isBad 40 = .ok (.istore 4, 2) := by decide +kernel
theorem dMD_isBad_42 : decode cMD_isBad 42 = .ok (.aload_n 0, 1) := by decide +kernel
theorem dMD_isBad_43 : decode cMD_isBad 43 = .ok (.getfield 13, 3) := by decide +kernel
theorem dMD_isBad_46 : decode cMD_isBad 46 = .ok (.iload 4, 2) := by decide +kernel
theorem dMD_isBad_48 : decode cMD_isBad 48 = .ok (.iaload, 1) := by decide +kernel
theorem dMD_isBad_49 : decode cMD_isBad 49 = .ok (.bipush 12, 2) := by decide +kernel
theorem dMD_isBad_51 : decode cMD_isBad 51 = .ok (.if_icmp .ne 21, 3) := by decide +kernel
theorem dMD_isBad_54 : decode cMD_isBad 54 = .ok (.aload_n 0, 1) := by decide +kernel
theorem dMD_isBad_55 : decode cMD_isBad 55 = .ok (.getfield 19, 3) := by decide +kernel
theorem dMD_isBad_58 : decode cMD_isBad 58 = .ok (.iload 4, 2) := by decide +kernel
theorem dMD_isBad_60 : decode cMD_isBad 60 = .ok (.iaload, 1) := by decide +kernel
theorem dMD_isBad_61 : decode cMD_isBad 61 = .ok (.iload_n 3, 1) := by decide +kernel
theorem dMD_isBad_62 : decode cMD_isBad 62 = .ok (.invokestatic 67, 3) := by decide +kernel
theorem dMD_isBad_65 : decode cMD_isBad 65 = .ok (.ifCond .ne 7, 3) := by decide +kernel
theorem dMD_isBad_68 : decode cMD_isBad 68 = .ok (.iconst 1, 1) := by decide +kernel
theorem dMD_isBad_69 : decode cMD_isBad 69 = .ok (.goto 4, 3) := by decide +kernel
theorem dMD_isBad_72 : decode cMD_isBad 72 = .ok (.iconst 0, 1) := by decide +kernel
theorem dMD_isBad_73 : decode cMD_isBad 73 = .ok (.istore 5, 2) := by decide +kernel
theorem dMD_isBad_75 : decode cMD_isBad 75 = .ok (.aload_n 0, 1) := by decide +kernel
theorem dMD_isBad_76 : decode cMD_isBad 76 = .ok (.getfield 13, 3) := by decide +kernel
theorem dMD_isBad_79 : decode cMD_isBad 79 = .ok (.iload 4, 2) := by decide +kernel
theorem dMD_isBad_81 : decode cMD_isBad 81 = .ok (.iaload, 1) := by decide +kernel
theorem dMD_isBad_82 : decode cMD_isBad 82 = .ok (.bipush 6, 2) := by decide +kernel
theorem dMD_isBad_84 : decode cMD_isBad 84 = .ok (.if_icmp .eq 15, 3) := by decide +kernel
theorem dMD_isBad_87 : decode cMD_isBad 87 = .ok (.aload_n 0, 1) := by decide +kernel
theorem dMD_isBad_88 : decode cMD_isBad 88 = .ok (.getfield 13, 3) := by decide +kernel
theorem dMD_isBad_91 : decode cMD_isBad 91 = .ok (.iload 4, 2) := by decide +kernel
theorem dMD_isBad_93 : decode cMD_isBad 93 = .ok (.iaload, 1) := by decide +kernel
theorem dMD_isBad_94 : decode cMD_isBad 94 = .ok (.bipush 7, 2) := by decide +kernel
theorem dMD_isBad_96 : decode cMD_isBad 96 = .ok (.if_icmp .ne 28, 3) := by decide +kernel
theorem dMD_isBad_99 : decode cMD_isBad 99 = .ok (.aload_n 0, 1) := by decide +kernel
theorem dMD_isBad_100 : decode cMD_isBad 100 = .ok (.getfield 16, 3) := by decide +kernel
theorem dMD_isBad_103 : decode cMD_isBad 103 = .ok (.iload 4, 2) := by decide +kernel
theorem dMD_isBad_105 : decode cMD_isBad 105 = .ok (.iaload, 1) := by decide +kernel
theorem dMD_isBad_106 : decode cMD_isBad 106 = .ok (.iload_n 2, 1) := by decide +kernel
theorem dMD_isBad_107 : decode cMD_isBad 107 = .ok (.if_icmp .eq 13, 3) := by decide +kernel
theorem dMD_isBad_110 : decode cMD_isBad 110 = .ok (.aload_n 0, 1) := by decide +kernel
theorem dMD_isBad_111 : decode cMD_isBad 111 = .ok (.getfield 16, 3) := by decide +kernel
theorem dMD_isBad_114 : decode cMD_isBad 114 = .ok (.iload 4, 2) := by decide +kernel
theorem dMD_isBad_116 : decode cMD_isBad 116 = .ok (.iaload, 1) := by decide +kernel
theorem dMD_isBad_117 : decode cMD_isBad 117 = .ok (.ifCond .ne 7, 3) := by decide +kernel
theorem dMD_isBad_120 : decode cMD_isBad 120 = .ok (.iconst 1, 1) := by decide +kernel
theorem dMD_isBad_121 : decode cMD_isBad 121 = .ok (.goto 4, 3) := by decide +kernel
theorem dMD_isBad_124 : decode cMD_isBad 124 = .ok (.iconst 0, 1) := by decide +kernel
theorem dMD_isBad_125 : decode cMD_isBad 125 = .ok (.istore 6, 2) := by decide +kernel
theorem dMD_isBad_127 : decode cMD_isBad 127 = .ok (.iload_n 1, 1) := by decide +kernel
theorem dMD_isBad_128 : decode cMD_isBad 128 = .ok (.ifCond .ne 13, 3) := by decide +kernel
theorem dMD_isBad_131 : decode cMD_isBad 131 = .ok (.iload 5, 2) := by decide +kernel
theorem dMD_isBad_133 : decode cMD_isBad 133 = .ok (.ifCond .ne 8, 3) := by decide +kernel
theorem dMD_isBad_136 : decode cMD_isBad 136 = .ok (.iload 6, 2) := by decide +kernel
theorem dMD_isBad_138 : decode cMD_isBad 138 = .ok (.ifCond .eq 7, 3) := by decide +kernel
theorem dMD_isBad_141 : decode cMD_isBad 141 = .ok (.iconst 1, 1) := by decide +kernel
theorem dMD_isBad_142 : decode cMD_isBad 142 = .ok (.goto 4, 3) := by decide +kernel
theorem dMD_isBad_145 : decode cMD_isBad 145 = .ok (.iconst 0, 1) := by decide +kernel
theorem dMD_isBad_146 : decode cMD_isBad 146 = .ok (.istore_n 1, 1) := by decide +kernel
theorem dMD_isBad_147 : decode cMD_isBad 147 = .ok (.iinc 3 1, 3) := by decide +kernel
theorem dMD_isBad_150 : decode cMD_isBad 150 = .ok (.goto (-126), 3) := by decide +kernel
theorem dMD_isBad_153 : decode cMD_isBad 153 = .ok (.iinc 2 1, 3) := by decide +kernel
theorem dMD_isBad_156 : decode cMD_isBad 156 = .ok (.goto (-139), 3) := by decide +kernel
theorem dMD_isBad_159 : decode cMD_isBad 159 = .ok (.iload_n 1, 1) := by decide +kernel
theorem dMD_isBad_160 : decode cMD_isBad 160 = .ok (.ireturn, 1) := by decide +kernel
theorem dMD_start_0 : decode cMD_start 0 = .ok (.aload_n 0, 1) := by decide +kernel
theorem dMD_start_1 : decode cMD_start 1 = .ok (.getfield 71, 3) := by decide +kernel
theorem dMD_start_4 : decode cMD_start 4 = .ok (.ifCond .eq 9, 3) := by decide +kernel
theorem dMD_start_7 : decode cMD_start 7 = .ok (.aload_n 0, 1) := by decide +kernel
theorem dMD_start_8 : decode cMD_start 8 = .ok (.iconst 1, 1) := by decide +kernel
theorem dMD_start_9 : decode cMD_start 9 = .ok (.invokevirtual 81, 3) := by decide +kernel
theorem dMD_start_12 : decode cMD_start 12 = .ok (.ireturn, 1) := by decide +kernel
theorem dMD_start_13 : decode cMD_start 13 = .ok (.aload_n 0, 1) := by decide +kernel
theorem dMD_start_14 : decode cMD_start 14 = .ok (.invokevirtual 85, 3) := by decide +kernel
theorem dMD_start_17 : decode cMD_start 17 = .ok (.ifCond .eq 9, 3) := by decide +kernel
theorem dMD_start_20 : decode cMD_start 20 = .ok (.aload_n 0, 1) := by decide +kernel
theorem dMD_start_21 : decode cMD_start 21 = .ok (.iconst 2, 1) := by decide +kernel
theorem dMD_start_22 : decode cMD_start 22 = .ok (.invokevirtual 81, 3) := by decide +kernel
theorem dMD_start_25 : decode cMD_start 25 = .ok (.ireturn, 1) := by decide +kernel
theorem dMD_start_26 : decode cMD_start 26 = .ok (.aload_n 0, 1) := by decide +kernel
theorem dMD_start_27 : decode cMD_start 27 = .ok (.iconst 0, 1) := by decide +kernel
theorem dMD_start_28 : decode cMD_start 28 = .ok (.putfield 63, 3) := by decide +kernel
theorem dMD_start_31 : decode cMD_start 31 = .ok (.aload_n 0, 1) := by decide +kernel
theorem dMD_start_32 : decode cMD_start 32 = .ok (.iconst 1, 1) := by decide +kernel
theorem dMD_start_33 : decode cMD_start 33 = .ok (.putfield 71, 3) := by decide +kernel
theorem dMD_start_36 : decode cMD_start 36 = .ok (.aload_n 0, 1) := by decide +kernel
theorem dMD_start_37 : decode cMD_start 37 = .ok (.iload_n 1, 1) := by decide +kernel
theorem dMD_start_38 : decode cMD_start 38 = .ok (.putfield 89, 3) := by decide +kernel
theorem dMD_start_41 : decode cMD_start 41 = .ok (.iconst 0, 1) := by decide +kernel
theorem dMD_start_42 : decode cMD_start 42 = .ok (.istore_n 2, 1) := by decide +kernel
theorem dMD_start_43 : decode cMD_start 43 = .ok (.iconst 0, 1) := by decide +kernel
theorem dMD_start_44 : decode cMD_start 44 = .ok (.istore_n 3, 1) := by decide +kernel
theorem dMD_start_45 : decode cMD_start 45 = .ok (.iload_n 3, 1) := by decide +kernel
theorem dMD_start_46 : decode cMD_start 46 = .ok (.iconst 5, 1) := by decide +kernel
theorem dMD_start_47 : decode cMD_start 47 = .ok (.if_icmp .ge 47, 3) := by decide +kernel
theorem dMD_start_50 : decode cMD_start 50 = .ok (.aload_n 0, 1) := by decide +kernel
theorem dMD_start_51 : decode cMD_start 51 = .ok (.getfield 22, 3) := by decide +kernel
theorem dMD_start_54 : decode cMD_start 54 = .ok (.iload_n 3, 1) := by decide +kernel
theorem dMD_start_55 : decode cMD_start 55 = .ok (.iload_n 3, 1) := by decide +kernel
theorem dMD_start_56 : decode cMD_start 56 = .ok (.ifCond .ne 7, 3) := by decide +kernel
theorem dMD_start_59 : decode cMD_start 59 = .ok (.iconst 1, 1) := by decide +kernel
theorem dMD_start_60 : decode cMD_start 60 = .ok (.goto 4, 3) := by decide +kernel
theorem dMD_start_63 : decode cMD_start 63 = .ok (.iconst 0, 1) := by decide +kernel
theorem dMD_start_64 : decode cMD_start 64 = .ok (.iastore, 1) := by decide +kernel
theorem dMD_start_65 : decode cMD_start 65 = .ok (.aload_n 0, 1) := by decide +kernel
theorem dMD_start_66 : decode cMD_start 66 = .ok (.getfield 25, 3) := by decide +kernel
theorem dMD_start_69 : decode cMD_start 69 = .ok (.iload_n 3, 1) := by decide +kernel
theorem dMD_start_70 : decode cMD_start 70 = .ok (.iconst 0, 1) := by decide +kernel
theorem dMD_start_71 : decode cMD_start 71 = .ok (.iastore, 1) := by decide +kernel
theorem dMD_start_72 : decode cMD_start 72 = .ok (.aload_n 0, 1) := by decide +kernel
theorem dMD_start_73 : decode cMD_start 73 = .ok (.getfield 28, 3) := by decide +kernel
theorem dMD_start_76 : decode cMD_start 76 = .ok (.iload_n 3, 1) := by decide +kernel
theorem dMD_start_77 : decode cMD_start 77 = .ok (.iconst 0, 1) := by decide +kernel
theorem dMD_start_78 : decode cMD_start 78 = .ok (.iastore, 1) := by decide +kernel
theorem dMD_start_79 : decode cMD_start 79 = .ok (.iload_n 2, 1) := by decide +kernel
theorem dMD_start_80 : decode cMD_start 80 = .ok (.aload_n 0, 1) := by decide +kernel
theorem dMD_start_81 : decode cMD_start 81 = .ok (.getfield 7, 3) := by decide +kernel
theorem dMD_start_84 : decode cMD_start 84 = .ok (.iload_n 3, 1) := by decide +kernel
theorem dMD_start_85 : decode cMD_start 85 = .ok (.iaload, 1) := by decide +kernel
theorem dMD_start_86 : decode cMD_start 86 = .ok (.iadd, 1) := by decide +kernel
theorem dMD_start_87 : decode cMD_start 87 = .ok (.istore_n 2, 1) := by decide +kernel
theorem dMD_start_88 : decode cMD_start 88 = .ok (.iinc 3 1, 3) := by decide +kernel
theorem dMD_start_91 : decode cMD_start 91 = .ok (.goto (-46), 3) := by decide +kernel
theorem dMD_start_94 : decode cMD_start 94 = .ok (.iload_n 2, 1) := by decide +kernel
theorem dMD_start_95 : decode cMD_start 95 = .ok (.ireturn, 1) := by decide +kernel
theorem dMD_step_0 : decode cMD_step 0 = .ok (.iload_n 1, 1) := by decide +kernel
theorem dMD_step_1 : decode cMD_step 1 = .ok (.iconst 5, 1) := by decide +kernel
theorem dMD_step_2 : decode cMD_step 2 = .ok (.invokestatic 67, 3) := by decide +kernel
theorem dMD_step_5 : decode cMD_step 5 = .ok (.ifCond .ne 9, 3) := by decide +kernel
theorem dMD_step_8 : decode cMD_step 8 = .ok (.aload_n 0, 1) := by decide +kernel
theorem dMD_step_9 : decode cMD_step 9 = .ok (.iconst 1, 1) := by decide +kernel
theorem dMD_step_10 : decode cMD_step 10 = .ok (.invokevirtual 81, 3) := by decide +kernel
theorem dMD_step_13 : decode cMD_step 13 = .ok (.ireturn, 1) := by decide +kernel
theorem dMD_step_14 : decode cMD_step 14 = .ok (.aload_n 0, 1) := by decide +kernel
theorem dMD_step_15 : decode cMD_step 15 = .ok (.getfield 71, 3) := by decide +kernel
theorem dMD_step_18 : decode cMD_step 18 = .ok (.ifCond .eq 13, 3) := by decide +kernel
theorem dMD_step_21 : decode cMD_step 21 = .ok (.aload_n 0, 1) := by decide +kernel
theorem dMD_step_22 : decode cMD_step 22 = .ok (.getfield 22, 3) := by decide +kernel
theorem dMD_step_25 : decode cMD_step 25 = .ok (.iload_n 1, 1) := by decide +kernel
theorem dMD_step_26 : decode cMD_step 26 = .ok (.iaload, 1) := by decide +kernel
theorem dMD_step_27 : decode cMD_step 27 = .ok (.iconst 1, 1) := by decide +kernel
theorem dMD_step_28 : decode cMD_step 28 = .ok (.if_icmp .eq 9, 3) := by decide +kernel
theorem dMD_step_31 : decode cMD_step 31 = .ok (.aload_n 0, 1) := by decide +kernel
theorem dMD_step_32 : decode cMD_step 32 = .ok (.iconst 2, 1) := by decide +kernel
theorem dMD_step_33 : decode cMD_step 33 = .ok (.invokevirtual 81, 3) := by decide +kernel
theorem dMD_step_36 : decode cMD_step 36 = .ok (.ireturn, 1) := by decide +kernel
theorem dMD_step_37 : decode cMD_step 37 = .ok (.bipush 12, 2) := by decide +kernel
theorem dMD_step_39 : decode cMD_step 39 = .ok (.iload_n 1, 1) := by decide +kernel
theorem dMD_step_40 : decode cMD_step 40 = .ok (.imul, 1) := by decide +kernel
theorem dMD_step_41 : decode cMD_step 41 = .ok (.aload_n 0, 1) := by decide +kernel
theorem dMD_step_42 : decode cMD_step 42 = .ok (.getfield 25, 3) := by decide +kernel
theorem dMD_step_45 : decode cMD_step 45 = .ok (.iload_n 1, 1) := by decide +kernel
theorem dMD_step_46 : decode cMD_step 46 = .ok (.iaload, 1) := by decide +kernel
theorem dMD_step_47 : decode cMD_step 47 = .ok (.iadd, 1) := by decide +kernel
theorem dMD_step_48 : decode cMD_step 48 = .ok (.istore_n 2, 1) := by decide +kernel
theorem dMD_step_49 : decode cMD_step 49 = .ok (.aload_n 0, 1) := by decide +kernel
theorem dMD_step_50 : decode cMD_step 50 = .ok (.getfield 13, 3) := by decide +kernel
theorem dMD_step_53 : decode cMD_step 53 = .ok (.iload_n 2, 1) := by decide +kernel
theorem dMD_step_54 : decode cMD_step 54 = .ok (.iaload, 1) := by decide +kernel
theorem dMD_step_55 : decode cMD_step 55 = .ok (.istore_n 3, 1) := by decide +kernel
theorem dMD_step_56 : decode cMD_step 56 = .ok (.aload_n 0, 1) := by decide +kernel
theorem dMD_step_57 : decode cMD_step 57 = .ok (.getfield 16, 3) := by decide +kernel
theorem dMD_step_60 : decode cMD_step 60 = .ok (.iload_n 2, 1) := by decide +kernel
theorem dMD_step_61 : decode cMD_step 61 = .ok (.iaload, 1) := by decide +kernel
theorem dMD_step_62 : decode cMD_step 62 = .ok (.istore 4, 2) := by decide +kernel
theorem dMD_step_64 : decode cMD_step 64 = .ok (.iload_n 3, 1) := by decide +kernel
theorem dMD_step_65 : decode cMD_step 65 = .ok (.iconst 3, 1) := by decide +kernel
theorem dMD_step_66 : decode cMD_step 66 = .ok (.if_icmp .ne 14, 3) := by decide +kernel
theorem dMD_step_69 : decode cMD_step 69 = .ok (.aload_n 0, 1) := by decide +kernel
theorem dMD_step_70 : decode cMD_step 70 = .ok (.getfield 31, 3) := by decide +kernel
theorem dMD_step_73 : decode cMD_step 73 = .ok (.iload 4, 2) := by decide +kernel
theorem dMD_step_75 : decode cMD_step 75 = .ok (.iaload, 1) := by decide +kernel
theorem dMD_step_76 : decode cMD_step 76 = .ok (.iload_n 1, 1) := by decide +kernel
theorem dMD_step_77 : decode cMD_step 77 = .ok (.if_icmp .ne 35, 3) := by decide +kernel
theorem dMD_step_80 : decode cMD_step 80 = .ok (.iload_n 3, 1) := by decide +kernel
theorem dMD_step_81 : decode cMD_step 81 = .ok (.bipush 6, 2) := by decide +kernel
theorem dMD_step_83 : decode cMD_step 83 = .ok (.if_icmp .ne 13, 3) := by decide +kernel
theorem dMD_step_86 : decode cMD_step 86 = .ok (.aload_n 0, 1) := by decide +kernel
theorem dMD_step_87 : decode cMD_step 87 = .ok (.getfield 22, 3) := by decide +kernel
theorem dMD_step_90 : decode cMD_step 90 = .ok (.iload 4, 2) := by decide +kernel
theorem dMD_step_92 : decode cMD_step 92 = .ok (.iaload, 1) := by decide +kernel
theorem dMD_step_93 : decode cMD_step 93 = .ok (.ifCond .ne 19, 3) := by decide +kernel
theorem dMD_step_96 : decode cMD_step 96 = .ok (.iload_n 3, 1) := by decide +kernel
theorem dMD_step_97 : decode cMD_step 97 = .ok (.bipush 7, 2) := by decide +kernel
theorem dMD_step_99 : decode cMD_step 99 = .ok (.if_icmp .ne 19, 3) := by decide +kernel
theorem dMD_step_102 : decode cMD_step 102 = .ok (.aload_n 0, 1) := by decide +kernel
theorem dMD_step_103 : decode cMD_step 103 = .ok (.getfield 22, 3) := by decide +kernel
theorem dMD_step_106 : decode cMD_step 106 = .ok (.iload 4, 2) := by decide +kernel
theorem dMD_step_108 : decode cMD_step 108 = .ok (.iaload, 1) := by decide +kernel
theorem dMD_step_109 : decode cMD_step 109 = .ok (.ifCond .ne 9, 3) := by decide +kernel
theorem dMD_step_112 : decode cMD_step 112 = .ok (.aload_n 0, 1) := by decide +kernel
theorem dMD_step_113 : decode cMD_step 113 = .ok (.iconst 3, 1) := by decide +kernel
theorem dMD_step_114 : decode cMD_step 114 = .ok (.invokevirtual 81, 3) := by decide +kernel
theorem dMD_step_117 : decode cMD_step 117 = .ok (.ireturn, 1) := by decide +kernel
theorem dMD_step_118 : decode cMD_step 118 = .ok (.aload_n 0, 1) := by decide +kernel
theorem dMD_step_119 : decode cMD_step 119 = .ok (.iconst 0, 1) := by decide +kernel
theorem dMD_step_120 : decode cMD_step 120 = .ok (.putfield 63, 3) := by decide +kernel
theorem dMD_step_123 : decode cMD_step 123 = .ok (.iload_n 3, 1) := by decide +kernel
theorem dMD_step_124 : decode cMD_step 124 = .ok (.bipush 10, 2) := by decide +kernel
theorem dMD_step_126 : decode cMD_step 126 = .ok (.if_icmp .lt 11, 3) := by decide +kernel
theorem dMD_step_129 : decode cMD_step 129 = .ok (.aload_n 0, 1) := by decide +kernel
theorem dMD_step_130 : decode cMD_step 130 = .ok (.iload_n 1, 1) := by decide +kernel
theorem dMD_step_131 : decode cMD_step 131 = .ok (.iload_n 2, 1) := by decide +kernel
theorem dMD_step_132 : decode cMD_step 132 = .ok (.invokevirtual 92, 3) := by decide +kernel
theorem dMD_step_135 : decode cMD_step 135 = .ok (.iconst 2, 1) := by decide +kernel
theorem dMD_step_136 : decode cMD_step 136 = .ok (.ireturn, 1) := by decide +kernel
theorem dMD_step_137 : decode cMD_step 137 = .ok (.iload_n 3, 1) := by decide +kernel
theorem dMD_step_138 : decode cMD_step 138 = .ok (.iconst 2, 1) := by decide +kernel
theorem dMD_step_139 : decode cMD_step 139 = .ok (.if_icmp .ne 24, 3) := by decide +kernel
theorem dMD_step_142 : decode cMD_step 142 = .ok (.aload_n 0, 1) := by decide +kernel
theorem dMD_step_143 : decode cMD_step 143 = .ok (.getfield 31, 3) := by decide +kernel
theorem dMD_step_146 : decode cMD_step 146 = .ok (.iload 4, 2) := by decide +kernel
theorem dMD_step_148 : decode cMD_step 148 = .ok (.iaload, 1) := by decide +kernel
theorem dMD_step_149 : decode cMD_step 149 = .ok (.ifCond .lt 14, 3) := by decide +kernel
theorem dMD_step_152 : decode cMD_step 152 = .ok (.aload_n 0, 1) := by decide +kernel
theorem dMD_step_153 : decode cMD_step 153 = .ok (.getfield 31, 3) := by decide +kernel
theorem dMD_step_156 : decode cMD_step 156 = .ok (.iload 4, 2) := by decide +kernel
theorem dMD_step_158 : decode cMD_step 158 = .ok (.iaload, 1) := by decide +kernel
theorem dMD_step_159 : decode cMD_step 159 = .ok (.iload_n 1, 1) := by decide +kernel
theorem dMD_step_160 : decode cMD_step 160 = .ok (.if_icmp .ne 20, 3) := by decide +kernel
theorem dMD_step_163 : decode cMD_step 163 = .ok (.iload_n 3, 1) := by decide +kernel
theorem dMD_step_164 : decode cMD_step 164 = .ok (.bipush 7, 2) := by decide +kernel
theorem dMD_step_166 : decode cMD_step 166 = .ok (.if_icmp .ne 18, 3) := by decide +kernel
theorem dMD_step_169 : decode cMD_step 169 = .ok (.aload_n 0, 1) := by decide +kernel
theorem dMD_step_170 : decode cMD_step 170 = .ok (.getfield 22, 3) := by decide +kernel
theorem dMD_step_173 : decode cMD_step 173 = .ok (.iload 4, 2) := by decide +kernel
theorem dMD_step_175 : decode cMD_step 175 = .ok (.iaload, 1) := by decide +kernel
theorem dMD_step_176 : decode cMD_step 176 = .ok (.iconst 2, 1) := by decide +kernel
theorem dMD_step_177 : decode cMD_step 177 = .ok (.if_icmp .eq 7, 3) := by decide +kernel
theorem dMD_step_180 : decode cMD_step 180 = .ok (.iconst 1, 1) := by decide +kernel
theorem dMD_step_181 : decode cMD_step 181 = .ok (.goto 4, 3) := by decide +kernel
theorem dMD_step_184 : decode cMD_step 184 = .ok (.iconst 0, 1) := by decide +kernel
theorem dMD_step_185 : decode cMD_step 185 = .ok (.istore 5, 2) := by decide +kernel
theorem dMD_step_187 : decode cMD_step 187 = .ok (.iload 5, 2) := by decide +kernel
theorem dMD_step_189 : decode cMD_step 189 = .ok (.ifCond .ne 13, 3) := by decide +kernel
theorem dMD_step_192 : decode cMD_step 192 = .ok (.aload_n 0, 1) := by decide +kernel
theorem dMD_step_193 : decode cMD_step 193 = .ok (.getfield 78, 3) := by decide +kernel
theorem dMD_step_196 : decode cMD_step 196 = .ok (.sipush 200, 3) := by decide +kernel
theorem dMD_step_199 : decode cMD_step 199 = .ok (.if_icmp .ne 5, 3) := by decide +kernel
theorem dMD_step_202 : decode cMD_step 202 = .ok (.iconst 0, 1) := by decide +kernel
theorem dMD_step_203 : decode cMD_step 203 = .ok (.ireturn, 1) := by decide +kernel
theorem dMD_step_204 : decode cMD_step 204 = .ok (.aload_n 0, 1) := by decide +kernel
theorem dMD_step_205 : decode cMD_step 205 = .ok (.iload_n 1, 1) := by decide +kernel
theorem dMD_step_206 : decode cMD_step 206 = .ok (.iload_n 3, 1) := by decide +kernel
theorem dMD_step_207 : decode cMD_step 207 = .ok (.iload_n 3, 1) := by decide +kernel
theorem dMD_step_208 : decode cMD_step 208 = .ok (.bipush 8, 2) := by decide +kernel
theorem dMD_step_210 : decode cMD_step 210 = .ok (.if_icmp .lt 16, 3) := by decide +kernel
theorem dMD_step_213 : decode cMD_step 213 = .ok (.iconst 4, 1) := by decide +kernel
theorem dMD_step_214 : decode cMD_step 214 = .ok (.aload_n 0, 1) := by decide +kernel
theorem dMD_step_215 : decode cMD_step 215 = .ok (.getfield 28, 3) := by decide +kernel
theorem dMD_step_218 : decode cMD_step 218 = .ok (.iload_n 1, 1) := by decide +kernel
theorem dMD_step_219 : decode cMD_step 219 = .ok (.iaload, 1) := by decide +kernel
theorem dMD_step_220 : decode cMD_step 220 = .ok (.iconst 3, 1) := by decide +kernel
theorem dMD_step_221 : decode cMD_step 221 = .ok (.iand, 1) := by decide +kernel
theorem dMD_step_222 : decode cMD_step 222 = .ok (.iadd, 1) := by decide +kernel
theorem dMD_step_223 : decode cMD_step 223 = .ok (.goto 5, 3) := by decide +kernel
theorem dMD_step_226 : decode cMD_step 226 = .ok (.iload 4, 2) := by decide +kernel
theorem dMD_step_228 : decode cMD_step 228 = .ok (.invokevirtual 96, 3) := by decide +kernel
theorem dMD_step_231 : decode cMD_step 231 = .ok (.aload_n 0, 1) := by decide +kernel
theorem dMD_step_232 : decode cMD_step 232 = .ok (.iload_n 1, 1) := by decide +kernel
theorem dMD_step_233 : decode cMD_step 233 = .ok (.aload_n 0, 1) := by decide +kernel
theorem dMD_step_234 : decode cMD_step 234 = .ok (.getfield 25, 3) := by decide +kernel
theorem dMD_step_237 : decode cMD_step 237 = .ok (.iload_n 1, 1) := by decide +kernel
theorem dMD_step_238 : decode cMD_step 238 = .ok (.iaload, 1) := by decide +kernel
theorem dMD_step_239 : decode cMD_step 239 = .ok (.iconst 1, 1) := by decide +kernel
theorem dMD_step_240 : decode cMD_step 240 = .ok (.iadd, 1) := by decide +kernel
theorem dMD_step_241 : decode cMD_step 241 = .ok (.invokevirtual 100, 3) := by decide +kernel
theorem dMD_step_244 : decode cMD_step 244 = .ok (.iconst 1, 1) := by decide +kernel
theorem dMD_step_245 : decode cMD_step 245 = .ok (.ireturn, 1) := by decide +kernel
set_option maxHeartbeats 4000000 in
set_option maxRecDepth 100000 in
theorem c_MD_state (l : Launch) (D : va_G) (tc : Nat → ClassId) (ad : Nat → Nat) (E : Nat → va_E) (th ic : Int32) (A : Nat → Nat → Int32) (J : Nat → Int64) (t : Int32) (hM : isMD tc ad E th 0 ic 0 A J) : Ct l D tc yMD_state 1 17 ad E [.ref (ad 0), .int t] (fun o E2 => o = .returned (some (.long (-1))) ∧ isMD tc ad E2 0 0 ic 0 A J) := by
  refine Ct.ofW (cc := cMD_state) (maxL := 2) (ret := (some .long)) (own := R_MD) (by decide) rfl w_619 (Nat.le_of_ble_eq_true rfl) ?_
  intro p e s m args below meth c ls X hlk hr hD hP hS hl
  have hx := X.1
  have hb := X.2.1
  have hl : lv_has ls 2 [(0, .ref (ad 0)), (1, .int t)] := hl
  obtain ⟨m0, m1, m2, m3, m4, m5, m6, m7, m8, m9, m10, m11, m12, m13, m14, m15, m16⟩ := hM
  refine lv_aload_n hx hb dMD_state_0 rfl (lv_at hl 0 rfl) ?_
  refine lv_iconst (v := 0) hx hb dMD_state_1 (by decide) ?_
  refine p_MD_63 X hD hP hS (by omega) (m0) rfl rfl (Nat.le_of_ble_eq_true rfl) dMD_state_2 (fun H locs hD hP hS => ?_)
  have hP : va_P D vwCl (wW 17 ad (va_up E 0 (.inr (7, [.int 0, .int 0, .int ic, .ref (ad 1), .ref (ad 2), .ref (ad 3), .ref (ad 4), .ref (ad 5), .ref (ad 6), .ref (ad 7), .ref (ad 8), .ref (ad 9), .int 0, .ref (ad 10), .ref (ad 11), .ref (ad 12), .ref (ad 13), .ref (ad 14), .ref (ad 15), .ref (ad 16)])))) H := hP
  have hD : va_D (Aw 17 ad) (wW 17 ad (va_up E 0 (.inr (7, [.int 0, .int 0, .int ic, .ref (ad 1), .ref (ad 2), .ref (ad 3), .ref (ad 4), .ref (ad 5), .ref (ad 6), .ref (ad 7), .ref (ad 8), .ref (ad 9), .int 0, .ref (ad 10), .ref (ad 11), .ref (ad 12), .ref (ad 13), .ref (ad 14), .ref (ad 15), .ref (ad 16)])))) := hD
  generalize g2 : va_up E 0 (.inr (7, [.int 0, .int 0, .int ic, .ref (ad 1), .ref (ad 2), .ref (ad 3), .ref (ad 4), .ref (ad 5), .ref (ad 6), .ref (ad 7), .ref (ad 8), .ref (ad 9), .int 0, .ref (ad 10), .ref (ad 11), .ref (ad 12), .ref (ad 13), .ref (ad 14), .ref (ad 15), .ref (ad 16)])) = E1 at hD hP
  have f3 : E1 0 = .inr (7, [.int 0, .int 0, .int ic, .ref (ad 1), .ref (ad 2), .ref (ad 3), .ref (ad 4), .ref (ad 5), .ref (ad 6), .ref (ad 7), .ref (ad 8), .ref (ad 9), .int 0, .ref (ad 10), .ref (ad 11), .ref (ad 12), .ref (ad 13), .ref (ad 14), .ref (ad 15), .ref (ad 16)]) := by rw [← g2]; exact va_up_self _ _ _
  have f4 : E1 1 = .inl (tc 0, 5, .inl (A 1)) := by rw [← g2, va_up_ne _ _ (by omega)]; exact m1
  have f5 : E1 2 = .inl (tc 0, 60, .inl (A 2)) := by rw [← g2, va_up_ne _ _ (by omega)]; exact m2
  have f6 : E1 3 = .inl (tc 0, 60, .inl (A 3)) := by rw [← g2, va_up_ne _ _ (by omega)]; exact m3
  have f7 : E1 4 = .inl (tc 0, 60, .inl (A 4)) := by rw [← g2, va_up_ne _ _ (by omega)]; exact m4
  have f8 : E1 5 = .inl (tc 0, 5, .inl (A 5)) := by rw [← g2, va_up_ne _ _ (by omega)]; exact m5
  have f9 : E1 6 = .inl (tc 0, 5, .inl (A 6)) := by rw [← g2, va_up_ne _ _ (by omega)]; exact m6
  have f10 : E1 7 = .inl (tc 0, 5, .inl (A 7)) := by rw [← g2, va_up_ne _ _ (by omega)]; exact m7
  have f11 : E1 8 = .inl (tc 0, 3, .inl (A 8)) := by rw [← g2, va_up_ne _ _ (by omega)]; exact m8
  have f12 : E1 9 = .inl (tc 0, 3, .inl (A 9)) := by rw [← g2, va_up_ne _ _ (by omega)]; exact m9
  have f13 : E1 10 = .inl (tc 0, 200, .inl (A 10)) := by rw [← g2, va_up_ne _ _ (by omega)]; exact m10
  have f14 : E1 11 = .inl (tc 0, 200, .inl (A 11)) := by rw [← g2, va_up_ne _ _ (by omega)]; exact m11
  have f15 : E1 12 = .inl (tc 0, 200, .inl (A 12)) := by rw [← g2, va_up_ne _ _ (by omega)]; exact m12
  have f16 : E1 13 = .inl (tc 2, 200, .inl (A 13)) := by rw [← g2, va_up_ne _ _ (by omega)]; exact m13
  have f17 : E1 15 = .inl (tc 0, 8, .inl (A 15)) := by rw [← g2, va_up_ne _ _ (by omega)]; exact m15
  have f18 : E1 16 = .inl (tc 0, 8, .inl (A 16)) := by rw [← g2, va_up_ne _ _ (by omega)]; exact m16
  have f19 : E1 14 = .inl (tc 1, 800, .inr (.inl J)) := by rw [← g2, va_up_ne _ _ (by omega)]; exact m14
  refine lv_aload_n hx hb dMD_state_5 rfl (lv_at hl 0 rfl) ?_
  refine g_MD_71 X hP (by omega) (f3) rfl dMD_state_6 ?_
  refine lv_if_eq (tgt := 51) hx hb dMD_state_9 rfl (fun h9 => ?_) (fun h9 => absurd (rfl) h9)
  refine lv_ldc2 (v := (-1)) hx hb X.2.2.2.1 (X.2.2.2.2.1 _ w_621) dMD_state_51 ?_
  exact q_lret X hlk hr hP hS dMD_state_54 (⟨rfl, ⟨f3, f4, f5, f6, f7, f8, f9, f10, f11, f12, f13, f14, f15, f16, f19, f17, f18⟩⟩)
set_option maxHeartbeats 4000000 in
set_option maxRecDepth 100000 in
theorem c_MD_events (l : Launch) (D : va_G) (tc : Nat → ClassId) (ad : Nat → Nat) (E : Nat → va_E) (th ic : Int32) (A : Nat → Nat → Int32) (J : Nat → Int64) (hM : isMD tc ad E th 0 ic 0 A J) : Ct l D tc yMD_events 0 17 ad E [.ref (ad 0)] (fun o E2 => o = .returned (some (.int 0)) ∧ isMD tc ad E2 0 0 ic 0 A J) := by
  refine Ct.ofW (cc := cMD_events) (maxL := 1) (ret := (some .int)) (own := R_MD) (by decide) rfl w_629 (Nat.le_of_ble_eq_true rfl) ?_
  intro p e s m args below meth c ls X hlk hr hD hP hS hl
  have hx := X.1
  have hb := X.2.1
  have hl : lv_has ls 1 [(0, .ref (ad 0))] := hl
  obtain ⟨m0, m1, m2, m3, m4, m5, m6, m7, m8, m9, m10, m11, m12, m13, m14, m15, m16⟩ := hM
  refine lv_aload_n hx hb dMD_events_0 rfl (lv_at hl 0 rfl) ?_
  refine lv_iconst (v := 0) hx hb dMD_events_1 (by decide) ?_
  refine p_MD_63 X hD hP hS (by omega) (m0) rfl rfl (Nat.le_of_ble_eq_true rfl) dMD_events_2 (fun H locs hD hP hS => ?_)
  have hP : va_P D vwCl (wW 17 ad (va_up E 0 (.inr (7, [.int 0, .int 0, .int ic, .ref (ad 1), .ref (ad 2), .ref (ad 3), .ref (ad 4), .ref (ad 5), .ref (ad 6), .ref (ad 7), .ref (ad 8), .ref (ad 9), .int 0, .ref (ad 10), .ref (ad 11), .ref (ad 12), .ref (ad 13), .ref (ad 14), .ref (ad 15), .ref (ad 16)])))) H := hP
  have hD : va_D (Aw 17 ad) (wW 17 ad (va_up E 0 (.inr (7, [.int 0, .int 0, .int ic, .ref (ad 1), .ref (ad 2), .ref (ad 3), .ref (ad 4), .ref (ad 5), .ref (ad 6), .ref (ad 7), .ref (ad 8), .ref (ad 9), .int 0, .ref (ad 10), .ref (ad 11), .ref (ad 12), .ref (ad 13), .ref (ad 14), .ref (ad 15), .ref (ad 16)])))) := hD
  generalize g2 : va_up E 0 (.inr (7, [.int 0, .int 0, .int ic, .ref (ad 1), .ref (ad 2), .ref (ad 3), .ref (ad 4), .ref (ad 5), .ref (ad 6), .ref (ad 7), .ref (ad 8), .ref (ad 9), .int 0, .ref (ad 10), .ref (ad 11), .ref (ad 12), .ref (ad 13), .ref (ad 14), .ref (ad 15), .ref (ad 16)])) = E1 at hD hP
  have f3 : E1 0 = .inr (7, [.int 0, .int 0, .int ic, .ref (ad 1), .ref (ad 2), .ref (ad 3), .ref (ad 4), .ref (ad 5), .ref (ad 6), .ref (ad 7), .ref (ad 8), .ref (ad 9), .int 0, .ref (ad 10), .ref (ad 11), .ref (ad 12), .ref (ad 13), .ref (ad 14), .ref (ad 15), .ref (ad 16)]) := by rw [← g2]; exact va_up_self _ _ _
  have f4 : E1 1 = .inl (tc 0, 5, .inl (A 1)) := by rw [← g2, va_up_ne _ _ (by omega)]; exact m1
  have f5 : E1 2 = .inl (tc 0, 60, .inl (A 2)) := by rw [← g2, va_up_ne _ _ (by omega)]; exact m2
  have f6 : E1 3 = .inl (tc 0, 60, .inl (A 3)) := by rw [← g2, va_up_ne _ _ (by omega)]; exact m3
  have f7 : E1 4 = .inl (tc 0, 60, .inl (A 4)) := by rw [← g2, va_up_ne _ _ (by omega)]; exact m4
  have f8 : E1 5 = .inl (tc 0, 5, .inl (A 5)) := by rw [← g2, va_up_ne _ _ (by omega)]; exact m5
  have f9 : E1 6 = .inl (tc 0, 5, .inl (A 6)) := by rw [← g2, va_up_ne _ _ (by omega)]; exact m6
  have f10 : E1 7 = .inl (tc 0, 5, .inl (A 7)) := by rw [← g2, va_up_ne _ _ (by omega)]; exact m7
  have f11 : E1 8 = .inl (tc 0, 3, .inl (A 8)) := by rw [← g2, va_up_ne _ _ (by omega)]; exact m8
  have f12 : E1 9 = .inl (tc 0, 3, .inl (A 9)) := by rw [← g2, va_up_ne _ _ (by omega)]; exact m9
  have f13 : E1 10 = .inl (tc 0, 200, .inl (A 10)) := by rw [← g2, va_up_ne _ _ (by omega)]; exact m10
  have f14 : E1 11 = .inl (tc 0, 200, .inl (A 11)) := by rw [← g2, va_up_ne _ _ (by omega)]; exact m11
  have f15 : E1 12 = .inl (tc 0, 200, .inl (A 12)) := by rw [← g2, va_up_ne _ _ (by omega)]; exact m12
  have f16 : E1 13 = .inl (tc 2, 200, .inl (A 13)) := by rw [← g2, va_up_ne _ _ (by omega)]; exact m13
  have f17 : E1 15 = .inl (tc 0, 8, .inl (A 15)) := by rw [← g2, va_up_ne _ _ (by omega)]; exact m15
  have f18 : E1 16 = .inl (tc 0, 8, .inl (A 16)) := by rw [← g2, va_up_ne _ _ (by omega)]; exact m16
  have f19 : E1 14 = .inl (tc 1, 800, .inr (.inl J)) := by rw [← g2, va_up_ne _ _ (by omega)]; exact m14
  refine lv_aload_n hx hb dMD_events_5 rfl (lv_at hl 0 rfl) ?_
  refine g_MD_78 X hP (by omega) (f3) rfl dMD_events_6 ?_
  exact q_iret X hlk hr hP hS dMD_events_9 (⟨rfl, ⟨f3, f4, f5, f6, f7, f8, f9, f10, f11, f12, f13, f14, f15, f16, f19, f17, f18⟩⟩)
set_option maxHeartbeats 4000000 in
set_option maxRecDepth 100000 in
theorem c_MD_event (l : Launch) (D : va_G) (tc : Nat → ClassId) (ad : Nat → Nat) (E : Nat → va_E) (th ic : Int32) (A : Nat → Nat → Int32) (J : Nat → Int64) (k : Int32) (hM : isMD tc ad E th 0 ic 0 A J) : Ct l D tc yMD_event 1 17 ad E [.ref (ad 0), .int k] (fun o E2 => o = .returned (some (.int (-1))) ∧ isMD tc ad E2 0 0 ic 0 A J) := by
  refine Ct.ofW (cc := cMD_event) (maxL := 2) (ret := (some .int)) (own := R_MD) (by decide) rfl w_633 (Nat.le_of_ble_eq_true rfl) ?_
  intro p e s m args below meth c ls X hlk hr hD hP hS hl
  have hx := X.1
  have hb := X.2.1
  have hl : lv_has ls 2 [(0, .ref (ad 0)), (1, .int k)] := hl
  obtain ⟨m0, m1, m2, m3, m4, m5, m6, m7, m8, m9, m10, m11, m12, m13, m14, m15, m16⟩ := hM
  refine lv_aload_n hx hb dMD_event_0 rfl (lv_at hl 0 rfl) ?_
  refine lv_iconst (v := 0) hx hb dMD_event_1 (by decide) ?_
  refine p_MD_63 X hD hP hS (by omega) (m0) rfl rfl (Nat.le_of_ble_eq_true rfl) dMD_event_2 (fun H locs hD hP hS => ?_)
  have hP : va_P D vwCl (wW 17 ad (va_up E 0 (.inr (7, [.int 0, .int 0, .int ic, .ref (ad 1), .ref (ad 2), .ref (ad 3), .ref (ad 4), .ref (ad 5), .ref (ad 6), .ref (ad 7), .ref (ad 8), .ref (ad 9), .int 0, .ref (ad 10), .ref (ad 11), .ref (ad 12), .ref (ad 13), .ref (ad 14), .ref (ad 15), .ref (ad 16)])))) H := hP
  have hD : va_D (Aw 17 ad) (wW 17 ad (va_up E 0 (.inr (7, [.int 0, .int 0, .int ic, .ref (ad 1), .ref (ad 2), .ref (ad 3), .ref (ad 4), .ref (ad 5), .ref (ad 6), .ref (ad 7), .ref (ad 8), .ref (ad 9), .int 0, .ref (ad 10), .ref (ad 11), .ref (ad 12), .ref (ad 13), .ref (ad 14), .ref (ad 15), .ref (ad 16)])))) := hD
  generalize g2 : va_up E 0 (.inr (7, [.int 0, .int 0, .int ic, .ref (ad 1), .ref (ad 2), .ref (ad 3), .ref (ad 4), .ref (ad 5), .ref (ad 6), .ref (ad 7), .ref (ad 8), .ref (ad 9), .int 0, .ref (ad 10), .ref (ad 11), .ref (ad 12), .ref (ad 13), .ref (ad 14), .ref (ad 15), .ref (ad 16)])) = E1 at hD hP
  have f3 : E1 0 = .inr (7, [.int 0, .int 0, .int ic, .ref (ad 1), .ref (ad 2), .ref (ad 3), .ref (ad 4), .ref (ad 5), .ref (ad 6), .ref (ad 7), .ref (ad 8), .ref (ad 9), .int 0, .ref (ad 10), .ref (ad 11), .ref (ad 12), .ref (ad 13), .ref (ad 14), .ref (ad 15), .ref (ad 16)]) := by rw [← g2]; exact va_up_self _ _ _
  have f4 : E1 1 = .inl (tc 0, 5, .inl (A 1)) := by rw [← g2, va_up_ne _ _ (by omega)]; exact m1
  have f5 : E1 2 = .inl (tc 0, 60, .inl (A 2)) := by rw [← g2, va_up_ne _ _ (by omega)]; exact m2
  have f6 : E1 3 = .inl (tc 0, 60, .inl (A 3)) := by rw [← g2, va_up_ne _ _ (by omega)]; exact m3
  have f7 : E1 4 = .inl (tc 0, 60, .inl (A 4)) := by rw [← g2, va_up_ne _ _ (by omega)]; exact m4
  have f8 : E1 5 = .inl (tc 0, 5, .inl (A 5)) := by rw [← g2, va_up_ne _ _ (by omega)]; exact m5
  have f9 : E1 6 = .inl (tc 0, 5, .inl (A 6)) := by rw [← g2, va_up_ne _ _ (by omega)]; exact m6
  have f10 : E1 7 = .inl (tc 0, 5, .inl (A 7)) := by rw [← g2, va_up_ne _ _ (by omega)]; exact m7
  have f11 : E1 8 = .inl (tc 0, 3, .inl (A 8)) := by rw [← g2, va_up_ne _ _ (by omega)]; exact m8
  have f12 : E1 9 = .inl (tc 0, 3, .inl (A 9)) := by rw [← g2, va_up_ne _ _ (by omega)]; exact m9
  have f13 : E1 10 = .inl (tc 0, 200, .inl (A 10)) := by rw [← g2, va_up_ne _ _ (by omega)]; exact m10
  have f14 : E1 11 = .inl (tc 0, 200, .inl (A 11)) := by rw [← g2, va_up_ne _ _ (by omega)]; exact m11
  have f15 : E1 12 = .inl (tc 0, 200, .inl (A 12)) := by rw [← g2, va_up_ne _ _ (by omega)]; exact m12
  have f16 : E1 13 = .inl (tc 2, 200, .inl (A 13)) := by rw [← g2, va_up_ne _ _ (by omega)]; exact m13
  have f17 : E1 15 = .inl (tc 0, 8, .inl (A 15)) := by rw [← g2, va_up_ne _ _ (by omega)]; exact m15
  have f18 : E1 16 = .inl (tc 0, 8, .inl (A 16)) := by rw [← g2, va_up_ne _ _ (by omega)]; exact m16
  have f19 : E1 14 = .inl (tc 1, 800, .inr (.inl J)) := by rw [← g2, va_up_ne _ _ (by omega)]; exact m14
  refine lv_iload_n hx hb dMD_event_5 rfl (lv_at hl 1 rfl) ?_
  refine lv_aload_n hx hb dMD_event_6 rfl (lv_at hl 0 rfl) ?_
  refine g_MD_78 X hP (by omega) (f3) rfl dMD_event_7 ?_
  refine x_iE (f := fun k => 0 + k) (x_runS (As := [.int k, .int 0]) (rest := []) X (c_MD_within l D tc (fun k => ad (0 + k)) (fun k => E1 (0 + k)) k 0 (n := 0) (by decide)) rfl rfl (by decide) (by decide) w_547 w_9 w_545 w_546 ry_MD_within (ct_pre X hP hD (fr_lt 0 17 0 (by omega)) (fr_inj 0 0)) ct_blind hl.1 (Nat.le_of_ble_eq_true rfl) dMD_event_10 ⟨Nat.zero_le _, Nat.zero_le _⟩) hD hP hS (fr_lt 0 17 0 (by omega)) (fr_inj 0 0) (fun H locs hD hP hS => ?_)
  refine lv_if_eq (tgt := 46) hx hb dMD_event_13 rfl (fun h13 => ?_) (fun h13 => absurd (by rw [wi_0]; rfl) h13)
  refine lv_iconst (v := (-1)) hx hb dMD_event_46 (by decide) ?_
  exact q_iret X hlk hr hP hS dMD_event_47 (⟨rfl, ⟨f3, f4, f5, f6, f7, f8, f9, f10, f11, f12, f13, f14, f15, f16, f19, f17, f18⟩⟩)
set_option maxHeartbeats 4000000 in
set_option maxRecDepth 100000 in
theorem c_MD_before (l : Launch) (D : va_G) (tc : Nat → ClassId) (ad : Nat → Nat) (E : Nat → va_E) (th ic : Int32) (A : Nat → Nat → Int32) (J : Nat → Int64) (i j : Int32) (hM : isMD tc ad E th 0 ic 0 A J) : Ct l D tc yMD_before 1 17 ad E [.ref (ad 0), .int i, .int j] (fun o E2 => o = .returned (some (.int 0)) ∧ isMD tc ad E2 0 0 ic 0 A J) := by
  refine Ct.ofW (cc := cMD_before) (maxL := 3) (ret := (some .boolean)) (own := R_MD) (by decide) rfl w_637 (Nat.le_of_ble_eq_true rfl) ?_
  intro p e s m args below meth c ls X hlk hr hD hP hS hl
  have hx := X.1
  have hb := X.2.1
  have hl : lv_has ls 3 [(0, .ref (ad 0)), (1, .int i), (2, .int j)] := hl
  obtain ⟨m0, m1, m2, m3, m4, m5, m6, m7, m8, m9, m10, m11, m12, m13, m14, m15, m16⟩ := hM
  refine lv_aload_n hx hb dMD_before_0 rfl (lv_at hl 0 rfl) ?_
  refine lv_iconst (v := 0) hx hb dMD_before_1 (by decide) ?_
  refine p_MD_63 X hD hP hS (by omega) (m0) rfl rfl (Nat.le_of_ble_eq_true rfl) dMD_before_2 (fun H locs hD hP hS => ?_)
  have hP : va_P D vwCl (wW 17 ad (va_up E 0 (.inr (7, [.int 0, .int 0, .int ic, .ref (ad 1), .ref (ad 2), .ref (ad 3), .ref (ad 4), .ref (ad 5), .ref (ad 6), .ref (ad 7), .ref (ad 8), .ref (ad 9), .int 0, .ref (ad 10), .ref (ad 11), .ref (ad 12), .ref (ad 13), .ref (ad 14), .ref (ad 15), .ref (ad 16)])))) H := hP
  have hD : va_D (Aw 17 ad) (wW 17 ad (va_up E 0 (.inr (7, [.int 0, .int 0, .int ic, .ref (ad 1), .ref (ad 2), .ref (ad 3), .ref (ad 4), .ref (ad 5), .ref (ad 6), .ref (ad 7), .ref (ad 8), .ref (ad 9), .int 0, .ref (ad 10), .ref (ad 11), .ref (ad 12), .ref (ad 13), .ref (ad 14), .ref (ad 15), .ref (ad 16)])))) := hD
  generalize g2 : va_up E 0 (.inr (7, [.int 0, .int 0, .int ic, .ref (ad 1), .ref (ad 2), .ref (ad 3), .ref (ad 4), .ref (ad 5), .ref (ad 6), .ref (ad 7), .ref (ad 8), .ref (ad 9), .int 0, .ref (ad 10), .ref (ad 11), .ref (ad 12), .ref (ad 13), .ref (ad 14), .ref (ad 15), .ref (ad 16)])) = E1 at hD hP
  have f3 : E1 0 = .inr (7, [.int 0, .int 0, .int ic, .ref (ad 1), .ref (ad 2), .ref (ad 3), .ref (ad 4), .ref (ad 5), .ref (ad 6), .ref (ad 7), .ref (ad 8), .ref (ad 9), .int 0, .ref (ad 10), .ref (ad 11), .ref (ad 12), .ref (ad 13), .ref (ad 14), .ref (ad 15), .ref (ad 16)]) := by rw [← g2]; exact va_up_self _ _ _
  have f4 : E1 1 = .inl (tc 0, 5, .inl (A 1)) := by rw [← g2, va_up_ne _ _ (by omega)]; exact m1
  have f5 : E1 2 = .inl (tc 0, 60, .inl (A 2)) := by rw [← g2, va_up_ne _ _ (by omega)]; exact m2
  have f6 : E1 3 = .inl (tc 0, 60, .inl (A 3)) := by rw [← g2, va_up_ne _ _ (by omega)]; exact m3
  have f7 : E1 4 = .inl (tc 0, 60, .inl (A 4)) := by rw [← g2, va_up_ne _ _ (by omega)]; exact m4
  have f8 : E1 5 = .inl (tc 0, 5, .inl (A 5)) := by rw [← g2, va_up_ne _ _ (by omega)]; exact m5
  have f9 : E1 6 = .inl (tc 0, 5, .inl (A 6)) := by rw [← g2, va_up_ne _ _ (by omega)]; exact m6
  have f10 : E1 7 = .inl (tc 0, 5, .inl (A 7)) := by rw [← g2, va_up_ne _ _ (by omega)]; exact m7
  have f11 : E1 8 = .inl (tc 0, 3, .inl (A 8)) := by rw [← g2, va_up_ne _ _ (by omega)]; exact m8
  have f12 : E1 9 = .inl (tc 0, 3, .inl (A 9)) := by rw [← g2, va_up_ne _ _ (by omega)]; exact m9
  have f13 : E1 10 = .inl (tc 0, 200, .inl (A 10)) := by rw [← g2, va_up_ne _ _ (by omega)]; exact m10
  have f14 : E1 11 = .inl (tc 0, 200, .inl (A 11)) := by rw [← g2, va_up_ne _ _ (by omega)]; exact m11
  have f15 : E1 12 = .inl (tc 0, 200, .inl (A 12)) := by rw [← g2, va_up_ne _ _ (by omega)]; exact m12
  have f16 : E1 13 = .inl (tc 2, 200, .inl (A 13)) := by rw [← g2, va_up_ne _ _ (by omega)]; exact m13
  have f17 : E1 15 = .inl (tc 0, 8, .inl (A 15)) := by rw [← g2, va_up_ne _ _ (by omega)]; exact m15
  have f18 : E1 16 = .inl (tc 0, 8, .inl (A 16)) := by rw [← g2, va_up_ne _ _ (by omega)]; exact m16
  have f19 : E1 14 = .inl (tc 1, 800, .inr (.inl J)) := by rw [← g2, va_up_ne _ _ (by omega)]; exact m14
  refine lv_iload_n hx hb dMD_before_5 rfl (lv_at hl 1 rfl) ?_
  refine lv_aload_n hx hb dMD_before_6 rfl (lv_at hl 0 rfl) ?_
  refine g_MD_78 X hP (by omega) (f3) rfl dMD_before_7 ?_
  refine x_iE (f := fun k => 0 + k) (x_runS (As := [.int i, .int 0]) (rest := []) X (c_MD_within l D tc (fun k => ad (0 + k)) (fun k => E1 (0 + k)) i 0 (n := 0) (by decide)) rfl rfl (by decide) (by decide) w_547 w_9 w_545 w_546 ry_MD_within (ct_pre X hP hD (fr_lt 0 17 0 (by omega)) (fr_inj 0 0)) ct_blind hl.1 (Nat.le_of_ble_eq_true rfl) dMD_before_10 ⟨Nat.zero_le _, Nat.zero_le _⟩) hD hP hS (fr_lt 0 17 0 (by omega)) (fr_inj 0 0) (fun H locs hD hP hS => ?_)
  refine lv_if_eq (tgt := 40) hx hb dMD_before_13 rfl (fun h13 => ?_) (fun h13 => absurd (by rw [wi_0]; rfl) h13)
  refine lv_iconst (v := 0) hx hb dMD_before_40 (by decide) ?_
  exact q_zret X hlk hr (by decide) hP hS dMD_before_41 (⟨rfl, ⟨f3, f4, f5, f6, f7, f8, f9, f10, f11, f12, f13, f14, f15, f16, f19, f17, f18⟩⟩)
set_option maxHeartbeats 4000000 in
set_option maxRecDepth 100000 in
theorem c_MD_holder (l : Launch) (D : va_G) (tc : Nat → ClassId) (ad : Nat → Nat) (E : Nat → va_E) (th ic : Int32) (A : Nat → Nat → Int32) (J : Nat → Int64) (l1 : Int32) (hM : isMD tc ad E th 0 ic 0 A J) (q4 : ∀ t, t < 3 → A 8 t = -1) : Ct l D tc yMD_holder 1 17 ad E [.ref (ad 0), .int l1] (fun o E2 => o = .returned (some (.int (-1))) ∧ isMD tc ad E2 0 0 ic 0 A J) := by
  refine Ct.ofW (cc := cMD_holder) (maxL := 2) (ret := (some .int)) (own := R_MD) (by decide) rfl w_625 (Nat.le_of_ble_eq_true rfl) ?_
  intro p e s m args below meth c ls X hlk hr hD hP hS hl
  have hx := X.1
  have hb := X.2.1
  have hl : lv_has ls 2 [(0, .ref (ad 0)), (1, .int l1)] := hl
  obtain ⟨m0, m1, m2, m3, m4, m5, m6, m7, m8, m9, m10, m11, m12, m13, m14, m15, m16⟩ := hM
  refine lv_aload_n hx hb dMD_holder_0 rfl (lv_at hl 0 rfl) ?_
  refine lv_iconst (v := 0) hx hb dMD_holder_1 (by decide) ?_
  refine p_MD_63 X hD hP hS (by omega) (m0) rfl rfl (Nat.le_of_ble_eq_true rfl) dMD_holder_2 (fun H locs hD hP hS => ?_)
  have hP : va_P D vwCl (wW 17 ad (va_up E 0 (.inr (7, [.int 0, .int 0, .int ic, .ref (ad 1), .ref (ad 2), .ref (ad 3), .ref (ad 4), .ref (ad 5), .ref (ad 6), .ref (ad 7), .ref (ad 8), .ref (ad 9), .int 0, .ref (ad 10), .ref (ad 11), .ref (ad 12), .ref (ad 13), .ref (ad 14), .ref (ad 15), .ref (ad 16)])))) H := hP
  have hD : va_D (Aw 17 ad) (wW 17 ad (va_up E 0 (.inr (7, [.int 0, .int 0, .int ic, .ref (ad 1), .ref (ad 2), .ref (ad 3), .ref (ad 4), .ref (ad 5), .ref (ad 6), .ref (ad 7), .ref (ad 8), .ref (ad 9), .int 0, .ref (ad 10), .ref (ad 11), .ref (ad 12), .ref (ad 13), .ref (ad 14), .ref (ad 15), .ref (ad 16)])))) := hD
  generalize g2 : va_up E 0 (.inr (7, [.int 0, .int 0, .int ic, .ref (ad 1), .ref (ad 2), .ref (ad 3), .ref (ad 4), .ref (ad 5), .ref (ad 6), .ref (ad 7), .ref (ad 8), .ref (ad 9), .int 0, .ref (ad 10), .ref (ad 11), .ref (ad 12), .ref (ad 13), .ref (ad 14), .ref (ad 15), .ref (ad 16)])) = E1 at hD hP
  have f3 : E1 0 = .inr (7, [.int 0, .int 0, .int ic, .ref (ad 1), .ref (ad 2), .ref (ad 3), .ref (ad 4), .ref (ad 5), .ref (ad 6), .ref (ad 7), .ref (ad 8), .ref (ad 9), .int 0, .ref (ad 10), .ref (ad 11), .ref (ad 12), .ref (ad 13), .ref (ad 14), .ref (ad 15), .ref (ad 16)]) := by rw [← g2]; exact va_up_self _ _ _
  have f4 : E1 1 = .inl (tc 0, 5, .inl (A 1)) := by rw [← g2, va_up_ne _ _ (by omega)]; exact m1
  have f5 : E1 2 = .inl (tc 0, 60, .inl (A 2)) := by rw [← g2, va_up_ne _ _ (by omega)]; exact m2
  have f6 : E1 3 = .inl (tc 0, 60, .inl (A 3)) := by rw [← g2, va_up_ne _ _ (by omega)]; exact m3
  have f7 : E1 4 = .inl (tc 0, 60, .inl (A 4)) := by rw [← g2, va_up_ne _ _ (by omega)]; exact m4
  have f8 : E1 5 = .inl (tc 0, 5, .inl (A 5)) := by rw [← g2, va_up_ne _ _ (by omega)]; exact m5
  have f9 : E1 6 = .inl (tc 0, 5, .inl (A 6)) := by rw [← g2, va_up_ne _ _ (by omega)]; exact m6
  have f10 : E1 7 = .inl (tc 0, 5, .inl (A 7)) := by rw [← g2, va_up_ne _ _ (by omega)]; exact m7
  have f11 : E1 8 = .inl (tc 0, 3, .inl (A 8)) := by rw [← g2, va_up_ne _ _ (by omega)]; exact m8
  have f12 : E1 9 = .inl (tc 0, 3, .inl (A 9)) := by rw [← g2, va_up_ne _ _ (by omega)]; exact m9
  have f13 : E1 10 = .inl (tc 0, 200, .inl (A 10)) := by rw [← g2, va_up_ne _ _ (by omega)]; exact m10
  have f14 : E1 11 = .inl (tc 0, 200, .inl (A 11)) := by rw [← g2, va_up_ne _ _ (by omega)]; exact m11
  have f15 : E1 12 = .inl (tc 0, 200, .inl (A 12)) := by rw [← g2, va_up_ne _ _ (by omega)]; exact m12
  have f16 : E1 13 = .inl (tc 2, 200, .inl (A 13)) := by rw [← g2, va_up_ne _ _ (by omega)]; exact m13
  have f17 : E1 15 = .inl (tc 0, 8, .inl (A 15)) := by rw [← g2, va_up_ne _ _ (by omega)]; exact m15
  have f18 : E1 16 = .inl (tc 0, 8, .inl (A 16)) := by rw [← g2, va_up_ne _ _ (by omega)]; exact m16
  have f19 : E1 14 = .inl (tc 1, 800, .inr (.inl J)) := by rw [← g2, va_up_ne _ _ (by omega)]; exact m14
  refine lv_iload_n hx hb dMD_holder_5 rfl (lv_at hl 1 rfl) ?_
  refine lv_iconst (v := 3) hx hb dMD_holder_6 (by decide) ?_
  refine x_iE (f := fun k => 0 + k) (x_runS (As := [.int l1, .int 3]) (rest := []) X (c_MD_within l D tc (fun k => ad (0 + k)) (fun k => E1 (0 + k)) l1 3 (n := 3) (by decide)) rfl rfl (by decide) (by decide) w_547 w_9 w_545 w_546 ry_MD_within (ct_pre X hP hD (fr_lt 0 17 0 (by omega)) (fr_inj 0 0)) ct_blind hl.1 (Nat.le_of_ble_eq_true rfl) dMD_holder_7 ⟨Nat.zero_le _, Nat.zero_le _⟩) hD hP hS (fr_lt 0 17 0 (by omega)) (fr_inj 0 0) (fun H locs hD hP hS => ?_)
  refine lv_if_eq (tgt := 41) hx hb dMD_holder_10 rfl (fun h10 => ?_) (fun h10 => ?_)
  · refine lv_iconst (v := (-1)) hx hb dMD_holder_41 (by decide) ?_
    exact q_iret X hlk hr hP hS dMD_holder_42 (⟨rfl, ⟨f3, f4, f5, f6, f7, f8, f9, f10, f11, f12, f13, f14, f15, f16, f19, f17, f18⟩⟩)
  · obtain ⟨j, hj, rfl⟩ := wi_of (n := 3) (by decide) (bi_t h10)
    refine lv_aload_n hx hb dMD_holder_13 rfl (lv_at hl 0 rfl) ?_
    refine g_MD_31 X hP (by omega) (f3) rfl dMD_holder_14 ?_
    refine lv_iload_n hx hb dMD_holder_17 rfl (lv_at hl 1 rfl) ?_
    refine q_iald j X hP (by omega) (f11) (rfl) (by omega) (by decide) dMD_holder_18 ?_
    refine lv_if_lt (tgt := 41) hx hb dMD_holder_19 rfl (fun h19 => ?_) (fun h19 => absurd (by rw [q4 j hj]; decide) h19)
    refine lv_iconst (v := (-1)) hx hb dMD_holder_41 (by decide) ?_
    exact q_iret X hlk hr hP hS dMD_holder_42 (⟨rfl, ⟨f3, f4, f5, f6, f7, f8, f9, f10, f11, f12, f13, f14, f15, f16, f19, f17, f18⟩⟩)
set_option maxHeartbeats 4000000 in
set_option maxRecDepth 100000 in
theorem c_MD_race (l : Launch) (D : va_G) (tc : Nat → ClassId) (ad : Nat → Nat) (E : Nat → va_E) (th ic : Int32) (A : Nat → Nat → Int32) (J : Nat → Int64) (p1 : Int32) (hM : isMD tc ad E th 0 ic 0 A J) (q2 : ∀ t, t < 8 → A 15 t = -1) : Ct l D tc yMD_race 1 17 ad E [.ref (ad 0), .int p1] (fun o E2 => o = .returned (some (.int (-1))) ∧ isMD tc ad E2 0 0 ic 0 A J) := by
  refine Ct.ofW (cc := cMD_race) (maxL := 2) (ret := (some .int)) (own := R_MD) (by decide) rfl w_641 (Nat.le_of_ble_eq_true rfl) ?_
  intro p e s m args below meth c ls X hlk hr hD hP hS hl
  have hx := X.1
  have hb := X.2.1
  have hl : lv_has ls 2 [(0, .ref (ad 0)), (1, .int p1)] := hl
  obtain ⟨m0, m1, m2, m3, m4, m5, m6, m7, m8, m9, m10, m11, m12, m13, m14, m15, m16⟩ := hM
  refine lv_aload_n hx hb dMD_race_0 rfl (lv_at hl 0 rfl) ?_
  refine lv_iconst (v := 0) hx hb dMD_race_1 (by decide) ?_
  refine p_MD_63 X hD hP hS (by omega) (m0) rfl rfl (Nat.le_of_ble_eq_true rfl) dMD_race_2 (fun H locs hD hP hS => ?_)
  have hP : va_P D vwCl (wW 17 ad (va_up E 0 (.inr (7, [.int 0, .int 0, .int ic, .ref (ad 1), .ref (ad 2), .ref (ad 3), .ref (ad 4), .ref (ad 5), .ref (ad 6), .ref (ad 7), .ref (ad 8), .ref (ad 9), .int 0, .ref (ad 10), .ref (ad 11), .ref (ad 12), .ref (ad 13), .ref (ad 14), .ref (ad 15), .ref (ad 16)])))) H := hP
  have hD : va_D (Aw 17 ad) (wW 17 ad (va_up E 0 (.inr (7, [.int 0, .int 0, .int ic, .ref (ad 1), .ref (ad 2), .ref (ad 3), .ref (ad 4), .ref (ad 5), .ref (ad 6), .ref (ad 7), .ref (ad 8), .ref (ad 9), .int 0, .ref (ad 10), .ref (ad 11), .ref (ad 12), .ref (ad 13), .ref (ad 14), .ref (ad 15), .ref (ad 16)])))) := hD
  generalize g2 : va_up E 0 (.inr (7, [.int 0, .int 0, .int ic, .ref (ad 1), .ref (ad 2), .ref (ad 3), .ref (ad 4), .ref (ad 5), .ref (ad 6), .ref (ad 7), .ref (ad 8), .ref (ad 9), .int 0, .ref (ad 10), .ref (ad 11), .ref (ad 12), .ref (ad 13), .ref (ad 14), .ref (ad 15), .ref (ad 16)])) = E1 at hD hP
  have f3 : E1 0 = .inr (7, [.int 0, .int 0, .int ic, .ref (ad 1), .ref (ad 2), .ref (ad 3), .ref (ad 4), .ref (ad 5), .ref (ad 6), .ref (ad 7), .ref (ad 8), .ref (ad 9), .int 0, .ref (ad 10), .ref (ad 11), .ref (ad 12), .ref (ad 13), .ref (ad 14), .ref (ad 15), .ref (ad 16)]) := by rw [← g2]; exact va_up_self _ _ _
  have f4 : E1 1 = .inl (tc 0, 5, .inl (A 1)) := by rw [← g2, va_up_ne _ _ (by omega)]; exact m1
  have f5 : E1 2 = .inl (tc 0, 60, .inl (A 2)) := by rw [← g2, va_up_ne _ _ (by omega)]; exact m2
  have f6 : E1 3 = .inl (tc 0, 60, .inl (A 3)) := by rw [← g2, va_up_ne _ _ (by omega)]; exact m3
  have f7 : E1 4 = .inl (tc 0, 60, .inl (A 4)) := by rw [← g2, va_up_ne _ _ (by omega)]; exact m4
  have f8 : E1 5 = .inl (tc 0, 5, .inl (A 5)) := by rw [← g2, va_up_ne _ _ (by omega)]; exact m5
  have f9 : E1 6 = .inl (tc 0, 5, .inl (A 6)) := by rw [← g2, va_up_ne _ _ (by omega)]; exact m6
  have f10 : E1 7 = .inl (tc 0, 5, .inl (A 7)) := by rw [← g2, va_up_ne _ _ (by omega)]; exact m7
  have f11 : E1 8 = .inl (tc 0, 3, .inl (A 8)) := by rw [← g2, va_up_ne _ _ (by omega)]; exact m8
  have f12 : E1 9 = .inl (tc 0, 3, .inl (A 9)) := by rw [← g2, va_up_ne _ _ (by omega)]; exact m9
  have f13 : E1 10 = .inl (tc 0, 200, .inl (A 10)) := by rw [← g2, va_up_ne _ _ (by omega)]; exact m10
  have f14 : E1 11 = .inl (tc 0, 200, .inl (A 11)) := by rw [← g2, va_up_ne _ _ (by omega)]; exact m11
  have f15 : E1 12 = .inl (tc 0, 200, .inl (A 12)) := by rw [← g2, va_up_ne _ _ (by omega)]; exact m12
  have f16 : E1 13 = .inl (tc 2, 200, .inl (A 13)) := by rw [← g2, va_up_ne _ _ (by omega)]; exact m13
  have f17 : E1 15 = .inl (tc 0, 8, .inl (A 15)) := by rw [← g2, va_up_ne _ _ (by omega)]; exact m15
  have f18 : E1 16 = .inl (tc 0, 8, .inl (A 16)) := by rw [← g2, va_up_ne _ _ (by omega)]; exact m16
  have f19 : E1 14 = .inl (tc 1, 800, .inr (.inl J)) := by rw [← g2, va_up_ne _ _ (by omega)]; exact m14
  refine lv_iload_n hx hb dMD_race_5 rfl (lv_at hl 1 rfl) ?_
  refine lv_bipush (v := 8) hx hb dMD_race_6 (by decide) ?_
  refine x_iE (f := fun k => 0 + k) (x_runS (As := [.int p1, .int 8]) (rest := []) X (c_MD_within l D tc (fun k => ad (0 + k)) (fun k => E1 (0 + k)) p1 8 (n := 8) (by decide)) rfl rfl (by decide) (by decide) w_547 w_9 w_545 w_546 ry_MD_within (ct_pre X hP hD (fr_lt 0 17 0 (by omega)) (fr_inj 0 0)) ct_blind hl.1 (Nat.le_of_ble_eq_true rfl) dMD_race_8 ⟨Nat.zero_le _, Nat.zero_le _⟩) hD hP hS (fr_lt 0 17 0 (by omega)) (fr_inj 0 0) (fun H locs hD hP hS => ?_)
  refine lv_if_eq (tgt := 23) hx hb dMD_race_11 rfl (fun h11 => ?_) (fun h11 => ?_)
  · refine lv_iconst (v := (-1)) hx hb dMD_race_23 (by decide) ?_
    exact q_iret X hlk hr hP hS dMD_race_24 (⟨rfl, ⟨f3, f4, f5, f6, f7, f8, f9, f10, f11, f12, f13, f14, f15, f16, f19, f17, f18⟩⟩)
  · obtain ⟨j, hj, rfl⟩ := wi_of (n := 8) (by decide) (bi_t h11)
    refine lv_aload_n hx hb dMD_race_14 rfl (lv_at hl 0 rfl) ?_
    refine g_MD_54 X hP (by omega) (f3) rfl dMD_race_15 ?_
    refine lv_iload_n hx hb dMD_race_18 rfl (lv_at hl 1 rfl) ?_
    refine q_iald j X hP (by omega) (f17) (rfl) (by omega) (by decide) dMD_race_19 ?_
    refine lv_goto (tgt := 24) hx hb dMD_race_20 rfl ?_
    exact q_iret X hlk hr hP hS dMD_race_24 (⟨by rw [q2 j hj], ⟨f3, f4, f5, f6, f7, f8, f9, f10, f11, f12, f13, f14, f15, f16, f19, f17, f18⟩⟩)
set_option maxHeartbeats 4000000 in
set_option maxRecDepth 100000 in
theorem c_MD_partner (l : Launch) (D : va_G) (tc : Nat → ClassId) (ad : Nat → Nat) (E : Nat → va_E) (th ic : Int32) (A : Nat → Nat → Int32) (J : Nat → Int64) (p1 : Int32) (hM : isMD tc ad E th 0 ic 0 A J) (q3 : ∀ t, t < 8 → A 16 t = -1) : Ct l D tc yMD_partner 1 17 ad E [.ref (ad 0), .int p1] (fun o E2 => o = .returned (some (.int (-1))) ∧ isMD tc ad E2 0 0 ic 0 A J) := by
  refine Ct.ofW (cc := cMD_partner) (maxL := 2) (ret := (some .int)) (own := R_MD) (by decide) rfl w_645 (Nat.le_of_ble_eq_true rfl) ?_
  intro p e s m args below meth c ls X hlk hr hD hP hS hl
  have hx := X.1
  have hb := X.2.1
  have hl : lv_has ls 2 [(0, .ref (ad 0)), (1, .int p1)] := hl
  obtain ⟨m0, m1, m2, m3, m4, m5, m6, m7, m8, m9, m10, m11, m12, m13, m14, m15, m16⟩ := hM
  refine lv_aload_n hx hb dMD_partner_0 rfl (lv_at hl 0 rfl) ?_
  refine lv_iconst (v := 0) hx hb dMD_partner_1 (by decide) ?_
  refine p_MD_63 X hD hP hS (by omega) (m0) rfl rfl (Nat.le_of_ble_eq_true rfl) dMD_partner_2 (fun H locs hD hP hS => ?_)
  have hP : va_P D vwCl (wW 17 ad (va_up E 0 (.inr (7, [.int 0, .int 0, .int ic, .ref (ad 1), .ref (ad 2), .ref (ad 3), .ref (ad 4), .ref (ad 5), .ref (ad 6), .ref (ad 7), .ref (ad 8), .ref (ad 9), .int 0, .ref (ad 10), .ref (ad 11), .ref (ad 12), .ref (ad 13), .ref (ad 14), .ref (ad 15), .ref (ad 16)])))) H := hP
  have hD : va_D (Aw 17 ad) (wW 17 ad (va_up E 0 (.inr (7, [.int 0, .int 0, .int ic, .ref (ad 1), .ref (ad 2), .ref (ad 3), .ref (ad 4), .ref (ad 5), .ref (ad 6), .ref (ad 7), .ref (ad 8), .ref (ad 9), .int 0, .ref (ad 10), .ref (ad 11), .ref (ad 12), .ref (ad 13), .ref (ad 14), .ref (ad 15), .ref (ad 16)])))) := hD
  generalize g2 : va_up E 0 (.inr (7, [.int 0, .int 0, .int ic, .ref (ad 1), .ref (ad 2), .ref (ad 3), .ref (ad 4), .ref (ad 5), .ref (ad 6), .ref (ad 7), .ref (ad 8), .ref (ad 9), .int 0, .ref (ad 10), .ref (ad 11), .ref (ad 12), .ref (ad 13), .ref (ad 14), .ref (ad 15), .ref (ad 16)])) = E1 at hD hP
  have f3 : E1 0 = .inr (7, [.int 0, .int 0, .int ic, .ref (ad 1), .ref (ad 2), .ref (ad 3), .ref (ad 4), .ref (ad 5), .ref (ad 6), .ref (ad 7), .ref (ad 8), .ref (ad 9), .int 0, .ref (ad 10), .ref (ad 11), .ref (ad 12), .ref (ad 13), .ref (ad 14), .ref (ad 15), .ref (ad 16)]) := by rw [← g2]; exact va_up_self _ _ _
  have f4 : E1 1 = .inl (tc 0, 5, .inl (A 1)) := by rw [← g2, va_up_ne _ _ (by omega)]; exact m1
  have f5 : E1 2 = .inl (tc 0, 60, .inl (A 2)) := by rw [← g2, va_up_ne _ _ (by omega)]; exact m2
  have f6 : E1 3 = .inl (tc 0, 60, .inl (A 3)) := by rw [← g2, va_up_ne _ _ (by omega)]; exact m3
  have f7 : E1 4 = .inl (tc 0, 60, .inl (A 4)) := by rw [← g2, va_up_ne _ _ (by omega)]; exact m4
  have f8 : E1 5 = .inl (tc 0, 5, .inl (A 5)) := by rw [← g2, va_up_ne _ _ (by omega)]; exact m5
  have f9 : E1 6 = .inl (tc 0, 5, .inl (A 6)) := by rw [← g2, va_up_ne _ _ (by omega)]; exact m6
  have f10 : E1 7 = .inl (tc 0, 5, .inl (A 7)) := by rw [← g2, va_up_ne _ _ (by omega)]; exact m7
  have f11 : E1 8 = .inl (tc 0, 3, .inl (A 8)) := by rw [← g2, va_up_ne _ _ (by omega)]; exact m8
  have f12 : E1 9 = .inl (tc 0, 3, .inl (A 9)) := by rw [← g2, va_up_ne _ _ (by omega)]; exact m9
  have f13 : E1 10 = .inl (tc 0, 200, .inl (A 10)) := by rw [← g2, va_up_ne _ _ (by omega)]; exact m10
  have f14 : E1 11 = .inl (tc 0, 200, .inl (A 11)) := by rw [← g2, va_up_ne _ _ (by omega)]; exact m11
  have f15 : E1 12 = .inl (tc 0, 200, .inl (A 12)) := by rw [← g2, va_up_ne _ _ (by omega)]; exact m12
  have f16 : E1 13 = .inl (tc 2, 200, .inl (A 13)) := by rw [← g2, va_up_ne _ _ (by omega)]; exact m13
  have f17 : E1 15 = .inl (tc 0, 8, .inl (A 15)) := by rw [← g2, va_up_ne _ _ (by omega)]; exact m15
  have f18 : E1 16 = .inl (tc 0, 8, .inl (A 16)) := by rw [← g2, va_up_ne _ _ (by omega)]; exact m16
  have f19 : E1 14 = .inl (tc 1, 800, .inr (.inl J)) := by rw [← g2, va_up_ne _ _ (by omega)]; exact m14
  refine lv_iload_n hx hb dMD_partner_5 rfl (lv_at hl 1 rfl) ?_
  refine lv_bipush (v := 8) hx hb dMD_partner_6 (by decide) ?_
  refine x_iE (f := fun k => 0 + k) (x_runS (As := [.int p1, .int 8]) (rest := []) X (c_MD_within l D tc (fun k => ad (0 + k)) (fun k => E1 (0 + k)) p1 8 (n := 8) (by decide)) rfl rfl (by decide) (by decide) w_547 w_9 w_545 w_546 ry_MD_within (ct_pre X hP hD (fr_lt 0 17 0 (by omega)) (fr_inj 0 0)) ct_blind hl.1 (Nat.le_of_ble_eq_true rfl) dMD_partner_8 ⟨Nat.zero_le _, Nat.zero_le _⟩) hD hP hS (fr_lt 0 17 0 (by omega)) (fr_inj 0 0) (fun H locs hD hP hS => ?_)
  refine lv_if_eq (tgt := 23) hx hb dMD_partner_11 rfl (fun h11 => ?_) (fun h11 => ?_)
  · refine lv_iconst (v := (-1)) hx hb dMD_partner_23 (by decide) ?_
    exact q_iret X hlk hr hP hS dMD_partner_24 (⟨rfl, ⟨f3, f4, f5, f6, f7, f8, f9, f10, f11, f12, f13, f14, f15, f16, f19, f17, f18⟩⟩)
  · obtain ⟨j, hj, rfl⟩ := wi_of (n := 8) (by decide) (bi_t h11)
    refine lv_aload_n hx hb dMD_partner_14 rfl (lv_at hl 0 rfl) ?_
    refine g_MD_57 X hP (by omega) (f3) rfl dMD_partner_15 ?_
    refine lv_iload_n hx hb dMD_partner_18 rfl (lv_at hl 1 rfl) ?_
    refine q_iald j X hP (by omega) (f18) (rfl) (by omega) (by decide) dMD_partner_19 ?_
    refine lv_goto (tgt := 24) hx hb dMD_partner_20 rfl ?_
    exact q_iret X hlk hr hP hS dMD_partner_24 (⟨by rw [q3 j hj], ⟨f3, f4, f5, f6, f7, f8, f9, f10, f11, f12, f13, f14, f15, f16, f19, f17, f18⟩⟩)
set_option maxHeartbeats 4000000 in
set_option maxRecDepth 100000 in
theorem c_MD_races (l : Launch) (D : va_G) (tc : Nat → ClassId) (ad : Nat → Nat) (E : Nat → va_E) (th ic : Int32) (A : Nat → Nat → Int32) (J : Nat → Int64) (hM : isMD tc ad E th 0 ic 0 A J) (q2 : ∀ t, t < 8 → A 15 t = -1) : Ct l D tc yMD_races 0 17 ad E [.ref (ad 0)] (fun o E2 => o = .returned (some (.int 0)) ∧ isMD tc ad E2 0 0 ic 0 A J) := by
  refine Ct.ofW (cc := cMD_races) (maxL := 3) (ret := (some .int)) (own := R_MD) (by decide) rfl w_649 (Nat.le_of_ble_eq_true rfl) ?_
  intro p e s m args below meth c ls X hlk hr hD hP hS hl
  have hx := X.1
  have hb := X.2.1
  have hl : lv_has ls 3 [(0, .ref (ad 0))] := hl
  obtain ⟨m0, m1, m2, m3, m4, m5, m6, m7, m8, m9, m10, m11, m12, m13, m14, m15, m16⟩ := hM
  refine lv_aload_n hx hb dMD_races_0 rfl (lv_at hl 0 rfl) ?_
  refine lv_iconst (v := 0) hx hb dMD_races_1 (by decide) ?_
  refine p_MD_63 X hD hP hS (by omega) (m0) rfl rfl (Nat.le_of_ble_eq_true rfl) dMD_races_2 (fun H locs hD hP hS => ?_)
  have hP : va_P D vwCl (wW 17 ad (va_up E 0 (.inr (7, [.int 0, .int 0, .int ic, .ref (ad 1), .ref (ad 2), .ref (ad 3), .ref (ad 4), .ref (ad 5), .ref (ad 6), .ref (ad 7), .ref (ad 8), .ref (ad 9), .int 0, .ref (ad 10), .ref (ad 11), .ref (ad 12), .ref (ad 13), .ref (ad 14), .ref (ad 15), .ref (ad 16)])))) H := hP
  have hD : va_D (Aw 17 ad) (wW 17 ad (va_up E 0 (.inr (7, [.int 0, .int 0, .int ic, .ref (ad 1), .ref (ad 2), .ref (ad 3), .ref (ad 4), .ref (ad 5), .ref (ad 6), .ref (ad 7), .ref (ad 8), .ref (ad 9), .int 0, .ref (ad 10), .ref (ad 11), .ref (ad 12), .ref (ad 13), .ref (ad 14), .ref (ad 15), .ref (ad 16)])))) := hD
  generalize g2 : va_up E 0 (.inr (7, [.int 0, .int 0, .int ic, .ref (ad 1), .ref (ad 2), .ref (ad 3), .ref (ad 4), .ref (ad 5), .ref (ad 6), .ref (ad 7), .ref (ad 8), .ref (ad 9), .int 0, .ref (ad 10), .ref (ad 11), .ref (ad 12), .ref (ad 13), .ref (ad 14), .ref (ad 15), .ref (ad 16)])) = E1 at hD hP
  have f3 : E1 0 = .inr (7, [.int 0, .int 0, .int ic, .ref (ad 1), .ref (ad 2), .ref (ad 3), .ref (ad 4), .ref (ad 5), .ref (ad 6), .ref (ad 7), .ref (ad 8), .ref (ad 9), .int 0, .ref (ad 10), .ref (ad 11), .ref (ad 12), .ref (ad 13), .ref (ad 14), .ref (ad 15), .ref (ad 16)]) := by rw [← g2]; exact va_up_self _ _ _
  have f4 : E1 1 = .inl (tc 0, 5, .inl (A 1)) := by rw [← g2, va_up_ne _ _ (by omega)]; exact m1
  have f5 : E1 2 = .inl (tc 0, 60, .inl (A 2)) := by rw [← g2, va_up_ne _ _ (by omega)]; exact m2
  have f6 : E1 3 = .inl (tc 0, 60, .inl (A 3)) := by rw [← g2, va_up_ne _ _ (by omega)]; exact m3
  have f7 : E1 4 = .inl (tc 0, 60, .inl (A 4)) := by rw [← g2, va_up_ne _ _ (by omega)]; exact m4
  have f8 : E1 5 = .inl (tc 0, 5, .inl (A 5)) := by rw [← g2, va_up_ne _ _ (by omega)]; exact m5
  have f9 : E1 6 = .inl (tc 0, 5, .inl (A 6)) := by rw [← g2, va_up_ne _ _ (by omega)]; exact m6
  have f10 : E1 7 = .inl (tc 0, 5, .inl (A 7)) := by rw [← g2, va_up_ne _ _ (by omega)]; exact m7
  have f11 : E1 8 = .inl (tc 0, 3, .inl (A 8)) := by rw [← g2, va_up_ne _ _ (by omega)]; exact m8
  have f12 : E1 9 = .inl (tc 0, 3, .inl (A 9)) := by rw [← g2, va_up_ne _ _ (by omega)]; exact m9
  have f13 : E1 10 = .inl (tc 0, 200, .inl (A 10)) := by rw [← g2, va_up_ne _ _ (by omega)]; exact m10
  have f14 : E1 11 = .inl (tc 0, 200, .inl (A 11)) := by rw [← g2, va_up_ne _ _ (by omega)]; exact m11
  have f15 : E1 12 = .inl (tc 0, 200, .inl (A 12)) := by rw [← g2, va_up_ne _ _ (by omega)]; exact m12
  have f16 : E1 13 = .inl (tc 2, 200, .inl (A 13)) := by rw [← g2, va_up_ne _ _ (by omega)]; exact m13
  have f17 : E1 15 = .inl (tc 0, 8, .inl (A 15)) := by rw [← g2, va_up_ne _ _ (by omega)]; exact m15
  have f18 : E1 16 = .inl (tc 0, 8, .inl (A 16)) := by rw [← g2, va_up_ne _ _ (by omega)]; exact m16
  have f19 : E1 14 = .inl (tc 1, 800, .inr (.inl J)) := by rw [← g2, va_up_ne _ _ (by omega)]; exact m14
  refine lv_iconst (v := 0) hx hb dMD_races_5 (by decide) ?_
  refine lv_istore_n hx hb dMD_races_6 rfl hl (by decide) rfl (fun ls hl => ?_)
  have hl : lv_has ls 3 [(1, .int 0), (0, .ref (ad 0))] := hl
  refine lv_iconst (v := 0) hx hb dMD_races_7 (by decide) ?_
  refine lv_istore_n hx hb dMD_races_8 rfl hl (by decide) rfl (fun ls hl => ?_)
  have hl : lv_has ls 3 [(2, .int 0), (1, .int 0), (0, .ref (ad 0))] := hl
  have loop : ∀ (r i : Nat)  (H : Heap) (locs : List Loc) (ls : Array Slot) (F : Nat → va_E), i + r = 8 → isMD tc ad F 0 0 ic 0 A J → va_D (Aw 17 ad) (wW 17 ad F) → va_P D vwCl (wW 17 ad F) H → va_S (Aw 17 ad) s.heap H locs → lv_has ls 3 [(2, .int (nI i)), (1, .int 0), (0, .ref (ad 0))] → W p l e (rmD 0) s m args below meth c H locs 0 0 (XQ below (CtQ D 17 ad (fun o E2 => o = .returned (some (.int 0)) ∧ isMD tc ad E2 0 0 ic 0 A J)) args s 0 0 (Aw 17 ad)) (F0 m 9 ls []) := by
    intro r
    induction r with
    | zero =>
      intro i  H locs ls F hi hM hD hP hS hl
      have hM0 := hM
      obtain ⟨m0, m1, m2, m3, m4, m5, m6, m7, m8, m9, m10, m11, m12, m13, m14, m15, m16⟩ := hM
      refine lv_iload_n hx hb dMD_races_9 rfl (lv_at hl 0 rfl) ?_
      refine lv_bipush (v := 8) hx hb dMD_races_10 (by decide) ?_
      refine lv_icmp_ge (tgt := 38) hx hb dMD_races_12 rfl (fun h12 => ?_) (fun h12 => absurd (nI_le (a := 8) (b := i) (by omega) (by omega)) h12)
      refine lv_iload_n hx hb dMD_races_38 rfl (lv_at hl 1 rfl) ?_
      exact q_iret X hlk hr hP hS dMD_races_39 (⟨rfl, hM0⟩)
    | succ r ih =>
      intro i  H locs ls F hi hM hD hP hS hl
      have hM0 := hM
      obtain ⟨m0, m1, m2, m3, m4, m5, m6, m7, m8, m9, m10, m11, m12, m13, m14, m15, m16⟩ := hM
      refine lv_iload_n hx hb dMD_races_9 rfl (lv_at hl 0 rfl) ?_
      refine lv_bipush (v := 8) hx hb dMD_races_10 (by decide) ?_
      refine lv_icmp_ge (tgt := 38) hx hb dMD_races_12 rfl (fun h12 => absurd h12 (nI_ge (a := i) (b := 8) (by omega) (by omega))) (fun h12 => ?_)
      refine lv_aload_n hx hb dMD_races_15 rfl (lv_at hl 2 rfl) ?_
      refine g_MD_54 X hP (by omega) (m0) rfl dMD_races_16 ?_
      refine lv_iload_n hx hb dMD_races_19 rfl (lv_at hl 0 rfl) ?_
      refine q_iald i X hP (by omega) (m15) (rfl) (by omega) (by decide) dMD_races_20 ?_
      refine lv_if_lt (tgt := 30) hx hb dMD_races_21 rfl (fun h21 => ?_) (fun h21 => absurd (by rw [q2 i (by omega)]; decide) h21)
      refine lv_iload_n hx hb dMD_races_30 rfl (lv_at hl 1 rfl) ?_
      refine lv_istore_n hx hb dMD_races_31 rfl hl (by decide) rfl (fun ls hl => ?_)
      have hl : lv_has ls 3 [(1, .int 0), (2, .int (nI i)), (0, .ref (ad 0))] := hl
      refine lv_iinc (k := 1) (v := nI (i + 1)) hx hb dMD_races_32 hl rfl (nI_1 i) (by decide) rfl (fun ls hl => ?_)
      have hl : lv_has ls 3 [(2, .int (nI (i + 1))), (1, .int 0), (0, .ref (ad 0))] := hl
      refine lv_goto (tgt := 9) hx hb dMD_races_35 rfl ?_
      exact ih (i + 1) _ _ _ _ (by omega) ⟨m0, m1, m2, m3, m4, m5, m6, m7, m8, m9, m10, m11, m12, m13, m14, m15, m16⟩ hD hP hS hl
  exact loop 8 0 _ _ _ _ (by omega) ⟨f3, f4, f5, f6, f7, f8, f9, f10, f11, f12, f13, f14, f15, f16, f19, f17, f18⟩ hD hP hS hl
set_option maxHeartbeats 4000000 in
set_option maxRecDepth 100000 in
theorem c_MD_again (l : Launch) (D : va_G) (tc : Nat → ClassId) (ad : Nat → Nat) (E : Nat → va_E) (th ic : Int32) (A : Nat → Nat → Int32) (J : Nat → Int64) (k cb : Int32) (hM : isMD tc ad E th 0 ic 0 A J) : Ct l D tc yMD_again 0 17 ad E [.ref (ad 0), .int k, .int cb] (fun o E2 => o = .returned (some (.int (if k = 0 then 0 else -1))) ∧ isMD tc ad E2 0 0 ic 0 A J) := by
  refine Ct.ofW (cc := cMD_again) (maxL := 5) (ret := (some .int)) (own := R_MD) (by decide) rfl w_653 (Nat.le_of_ble_eq_true rfl) ?_
  intro p e s m args below meth c ls X hlk hr hD hP hS hl
  have hx := X.1
  have hb := X.2.1
  have hl : lv_has ls 5 [(0, .ref (ad 0)), (1, .int k), (2, .int cb)] := hl
  obtain ⟨m0, m1, m2, m3, m4, m5, m6, m7, m8, m9, m10, m11, m12, m13, m14, m15, m16⟩ := hM
  refine lv_aload_n hx hb dMD_again_0 rfl (lv_at hl 0 rfl) ?_
  refine lv_iconst (v := 0) hx hb dMD_again_1 (by decide) ?_
  refine p_MD_63 X hD hP hS (by omega) (m0) rfl rfl (Nat.le_of_ble_eq_true rfl) dMD_again_2 (fun H locs hD hP hS => ?_)
  have hP : va_P D vwCl (wW 17 ad (va_up E 0 (.inr (7, [.int 0, .int 0, .int ic, .ref (ad 1), .ref (ad 2), .ref (ad 3), .ref (ad 4), .ref (ad 5), .ref (ad 6), .ref (ad 7), .ref (ad 8), .ref (ad 9), .int 0, .ref (ad 10), .ref (ad 11), .ref (ad 12), .ref (ad 13), .ref (ad 14), .ref (ad 15), .ref (ad 16)])))) H := hP
  have hD : va_D (Aw 17 ad) (wW 17 ad (va_up E 0 (.inr (7, [.int 0, .int 0, .int ic, .ref (ad 1), .ref (ad 2), .ref (ad 3), .ref (ad 4), .ref (ad 5), .ref (ad 6), .ref (ad 7), .ref (ad 8), .ref (ad 9), .int 0, .ref (ad 10), .ref (ad 11), .ref (ad 12), .ref (ad 13), .ref (ad 14), .ref (ad 15), .ref (ad 16)])))) := hD
  generalize g2 : va_up E 0 (.inr (7, [.int 0, .int 0, .int ic, .ref (ad 1), .ref (ad 2), .ref (ad 3), .ref (ad 4), .ref (ad 5), .ref (ad 6), .ref (ad 7), .ref (ad 8), .ref (ad 9), .int 0, .ref (ad 10), .ref (ad 11), .ref (ad 12), .ref (ad 13), .ref (ad 14), .ref (ad 15), .ref (ad 16)])) = E1 at hD hP
  have f3 : E1 0 = .inr (7, [.int 0, .int 0, .int ic, .ref (ad 1), .ref (ad 2), .ref (ad 3), .ref (ad 4), .ref (ad 5), .ref (ad 6), .ref (ad 7), .ref (ad 8), .ref (ad 9), .int 0, .ref (ad 10), .ref (ad 11), .ref (ad 12), .ref (ad 13), .ref (ad 14), .ref (ad 15), .ref (ad 16)]) := by rw [← g2]; exact va_up_self _ _ _
  have f4 : E1 1 = .inl (tc 0, 5, .inl (A 1)) := by rw [← g2, va_up_ne _ _ (by omega)]; exact m1
  have f5 : E1 2 = .inl (tc 0, 60, .inl (A 2)) := by rw [← g2, va_up_ne _ _ (by omega)]; exact m2
  have f6 : E1 3 = .inl (tc 0, 60, .inl (A 3)) := by rw [← g2, va_up_ne _ _ (by omega)]; exact m3
  have f7 : E1 4 = .inl (tc 0, 60, .inl (A 4)) := by rw [← g2, va_up_ne _ _ (by omega)]; exact m4
  have f8 : E1 5 = .inl (tc 0, 5, .inl (A 5)) := by rw [← g2, va_up_ne _ _ (by omega)]; exact m5
  have f9 : E1 6 = .inl (tc 0, 5, .inl (A 6)) := by rw [← g2, va_up_ne _ _ (by omega)]; exact m6
  have f10 : E1 7 = .inl (tc 0, 5, .inl (A 7)) := by rw [← g2, va_up_ne _ _ (by omega)]; exact m7
  have f11 : E1 8 = .inl (tc 0, 3, .inl (A 8)) := by rw [← g2, va_up_ne _ _ (by omega)]; exact m8
  have f12 : E1 9 = .inl (tc 0, 3, .inl (A 9)) := by rw [← g2, va_up_ne _ _ (by omega)]; exact m9
  have f13 : E1 10 = .inl (tc 0, 200, .inl (A 10)) := by rw [← g2, va_up_ne _ _ (by omega)]; exact m10
  have f14 : E1 11 = .inl (tc 0, 200, .inl (A 11)) := by rw [← g2, va_up_ne _ _ (by omega)]; exact m11
  have f15 : E1 12 = .inl (tc 0, 200, .inl (A 12)) := by rw [← g2, va_up_ne _ _ (by omega)]; exact m12
  have f16 : E1 13 = .inl (tc 2, 200, .inl (A 13)) := by rw [← g2, va_up_ne _ _ (by omega)]; exact m13
  have f17 : E1 15 = .inl (tc 0, 8, .inl (A 15)) := by rw [← g2, va_up_ne _ _ (by omega)]; exact m15
  have f18 : E1 16 = .inl (tc 0, 8, .inl (A 16)) := by rw [← g2, va_up_ne _ _ (by omega)]; exact m16
  have f19 : E1 14 = .inl (tc 1, 800, .inr (.inl J)) := by rw [← g2, va_up_ne _ _ (by omega)]; exact m14
  refine lv_iload_n hx hb dMD_again_5 rfl (lv_at hl 1 rfl) ?_
  refine lv_if_lt (tgt := 17) hx hb dMD_again_6 rfl (fun h6 => ?_) (fun h6 => ?_)
  · refine lv_iconst (v := (-1)) hx hb dMD_again_17 (by decide) ?_
    exact q_iret X hlk hr hP hS dMD_again_18 (⟨by rw [if_neg (z_ne1 h6)], ⟨f3, f4, f5, f6, f7, f8, f9, f10, f11, f12, f13, f14, f15, f16, f19, f17, f18⟩⟩)
  · refine lv_iload_n hx hb dMD_again_9 rfl (lv_at hl 1 rfl) ?_
    refine lv_aload_n hx hb dMD_again_10 rfl (lv_at hl 0 rfl) ?_
    refine g_MD_78 X hP (by omega) (f3) rfl dMD_again_11 ?_
    refine lv_icmp_le (tgt := 19) hx hb dMD_again_14 rfl (fun h14 => ?_) (fun h14 => ?_)
    · refine lv_iconst (v := 0) hx hb dMD_again_19 (by decide) ?_
      refine lv_istore_n hx hb dMD_again_20 rfl hl (by decide) rfl (fun ls hl => ?_)
      have hl : lv_has ls 5 [(3, .int 0), (0, .ref (ad 0)), (1, .int k), (2, .int cb)] := hl
      refine lv_iconst (v := 0) hx hb dMD_again_21 (by decide) ?_
      refine lv_istore hx hb dMD_again_22 hl (by decide) rfl (fun ls hl => ?_)
      have hl : lv_has ls 5 [(4, .int 0), (3, .int 0), (0, .ref (ad 0)), (1, .int k), (2, .int cb)] := hl
      refine lv_iload hx hb dMD_again_24 (lv_at hl 0 rfl) ?_
      refine lv_iload_n hx hb dMD_again_26 rfl (lv_at hl 3 rfl) ?_
      refine lv_icmp_ge (tgt := 81) hx hb dMD_again_27 rfl (fun h27 => ?_) (fun h27 => absurd (by rw [z_eq h6 h14]; decide) h27)
      refine lv_iload_n hx hb dMD_again_81 rfl (lv_at hl 1 rfl) ?_
      exact q_iret X hlk hr hP hS dMD_again_82 (⟨by rw [if_pos (z_eq h6 h14)], ⟨f3, f4, f5, f6, f7, f8, f9, f10, f11, f12, f13, f14, f15, f16, f19, f17, f18⟩⟩)
    · refine lv_iconst (v := (-1)) hx hb dMD_again_17 (by decide) ?_
      exact q_iret X hlk hr hP hS dMD_again_18 (⟨by rw [if_neg (z_ne2 h14)], ⟨f3, f4, f5, f6, f7, f8, f9, f10, f11, f12, f13, f14, f15, f16, f19, f17, f18⟩⟩)
set_option maxHeartbeats 4000000 in
set_option maxRecDepth 100000 in
theorem c1_MD_isBad (l : Launch) (D : va_G) (tc : Nat → ClassId) (ad : Nat → Nat) (E : Nat → va_E) (th ic : Int32) (A : Nat → Nat → Int32) (J : Nat → Int64) (hM : isMD tc ad E th 0 ic 0 A J) (q1 : ∀ t, t < 5 → A 1 t = 0) : Ct l D tc yMD_isBad 0 17 ad E [.ref (ad 0)] (fun o E2 => o = .returned (some (.int 1)) ∧ E2 = E) := by
  refine Ct.ofW (cc := cMD_isBad) (maxL := 7) (ret := (some .boolean)) (own := R_MD) (by decide) rfl w_563 (Nat.le_of_ble_eq_true rfl) ?_
  intro p e s m args below meth c ls X hlk hr hD hP hS hl
  have hx := X.1
  have hb := X.2.1
  have hl : lv_has ls 7 [(0, .ref (ad 0))] := hl
  obtain ⟨m0, m1, m2, m3, m4, m5, m6, m7, m8, m9, m10, m11, m12, m13, m14, m15, m16⟩ := hM
  refine lv_aload_n hx hb dMD_isBad_0 rfl (lv_at hl 0 rfl) ?_
  refine g_MD_7 X hP (by omega) (m0) rfl dMD_isBad_1 ?_
  refine lv_iconst (v := 0) hx hb dMD_isBad_4 (by decide) ?_
  refine q_iald 0 X hP (by omega) (m1) (rfl) (by decide) (by decide) dMD_isBad_5 ?_
  refine lv_if_ne (tgt := 13) hx hb dMD_isBad_6 rfl (fun h6 => absurd h6 (fun h => h (q1 0 (by decide)))) (fun h6 => ?_)
  refine lv_iconst (v := 1) hx hb dMD_isBad_9 (by decide) ?_
  refine lv_goto (tgt := 14) hx hb dMD_isBad_10 rfl ?_
  refine lv_istore_n hx hb dMD_isBad_14 rfl hl (by decide) rfl (fun ls hl => ?_)
  have hl : lv_has ls 7 [(1, .int 1), (0, .ref (ad 0))] := hl
  refine lv_iconst (v := 0) hx hb dMD_isBad_15 (by decide) ?_
  refine lv_istore_n hx hb dMD_isBad_16 rfl hl (by decide) rfl (fun ls hl => ?_)
  have hl : lv_has ls 7 [(2, .int 0), (1, .int 1), (0, .ref (ad 0))] := hl
  have loop : ∀ (r i : Nat)  (H : Heap) (locs : List Loc) (ls : Array Slot), i + r = 5 → va_D (Aw 17 ad) (wW 17 ad E) → va_P D vwCl (wW 17 ad E) H → va_S (Aw 17 ad) s.heap H locs → lv_has ls 7 [(2, .int (nI i)), (1, .int 1), (0, .ref (ad 0))] → W p l e (rmD 0) s m args below meth c H locs 0 0 (XQ below (CtQ D 17 ad (fun o E2 => o = .returned (some (.int 1)) ∧ E2 = E)) args s 0 0 (Aw 17 ad)) (F0 m 17 ls []) := by
    intro r
    induction r with
    | zero =>
      intro i  H locs ls hi hD hP hS hl
      refine lv_iload_n hx hb dMD_isBad_17 rfl (lv_at hl 0 rfl) ?_
      refine lv_iconst (v := 5) hx hb dMD_isBad_18 (by decide) ?_
      refine lv_icmp_ge (tgt := 159) hx hb dMD_isBad_19 rfl (fun h19 => ?_) (fun h19 => absurd (nI_le (a := 5) (b := i) (by omega) (by omega)) h19)
      refine lv_iload_n hx hb dMD_isBad_159 rfl (lv_at hl 1 rfl) ?_
      exact q_zret X hlk hr (by decide) hP hS dMD_isBad_160 (⟨rfl, rfl⟩)
    | succ r ih =>
      intro i  H locs ls hi hD hP hS hl
      refine lv_iload_n hx hb dMD_isBad_17 rfl (lv_at hl 0 rfl) ?_
      refine lv_iconst (v := 5) hx hb dMD_isBad_18 (by decide) ?_
      refine lv_icmp_ge (tgt := 159) hx hb dMD_isBad_19 rfl (fun h19 => absurd h19 (nI_ge (a := i) (b := 5) (by omega) (by omega))) (fun h19 => ?_)
      refine lv_iconst (v := 0) hx hb dMD_isBad_22 (by decide) ?_
      refine lv_istore_n hx hb dMD_isBad_23 rfl hl (by decide) rfl (fun ls hl => ?_)
      have hl : lv_has ls 7 [(3, .int 0), (2, .int (nI i)), (1, .int 1), (0, .ref (ad 0))] := hl
      refine lv_iload_n hx hb dMD_isBad_24 rfl (lv_at hl 0 rfl) ?_
      refine lv_aload_n hx hb dMD_isBad_25 rfl (lv_at hl 3 rfl) ?_
      refine g_MD_7 X hP (by omega) (m0) rfl dMD_isBad_26 ?_
      refine lv_iload_n hx hb dMD_isBad_29 rfl (lv_at hl 1 rfl) ?_
      refine q_iald i X hP (by omega) (m1) (rfl) (by omega) (by decide) dMD_isBad_30 ?_
      refine lv_icmp_ge (tgt := 153) hx hb dMD_isBad_31 rfl (fun h31 => ?_) (fun h31 => absurd (by rw [q1 i (by omega)]; decide) h31)
      refine lv_iinc (k := 1) (v := nI (i + 1)) hx hb dMD_isBad_153 hl rfl (nI_1 i) (by decide) rfl (fun ls hl => ?_)
      have hl : lv_has ls 7 [(2, .int (nI (i + 1))), (3, .int 0), (1, .int 1), (0, .ref (ad 0))] := hl
      refine lv_goto (tgt := 17) hx hb dMD_isBad_156 rfl ?_
      exact ih (i + 1) _ _ _ (by omega) hD hP hS (lv_sub hl [0, 2, 3] rfl)
  exact loop 5 0 _ _ _ (by omega) hD hP hS hl
set_option maxHeartbeats 4000000 in
set_option maxRecDepth 100000 in
theorem c1_MD_start (l : Launch) (D : va_G) (tc : Nat → ClassId) (ad : Nat → Nat) (E : Nat → va_E) (th ic : Int32) (A : Nat → Nat → Int32) (J : Nat → Int64) (cb : Int32) (hM : isMD tc ad E th 0 ic 0 A J) (q1 : ∀ t, t < 5 → A 1 t = 0) : Ct l D tc yMD_start 1 17 ad E [.ref (ad 0), .int cb] (fun o E2 => o = .returned (some (.int 0)) ∧ isMD tc ad E2 2 0 ic 0 A J) := by
  refine Ct.ofW (cc := cMD_start) (maxL := 4) (ret := (some .int)) (own := R_MD) (by decide) rfl w_555 (Nat.le_of_ble_eq_true rfl) ?_
  intro p e s m args below meth c ls X hlk hr hD hP hS hl
  have hx := X.1
  have hb := X.2.1
  have hl : lv_has ls 4 [(0, .ref (ad 0)), (1, .int cb)] := hl
  have hM0 := hM
  obtain ⟨m0, m1, m2, m3, m4, m5, m6, m7, m8, m9, m10, m11, m12, m13, m14, m15, m16⟩ := hM
  refine lv_aload_n hx hb dMD_start_0 rfl (lv_at hl 0 rfl) ?_
  refine g_MD_71 X hP (by omega) (m0) rfl dMD_start_1 ?_
  refine lv_if_eq (tgt := 13) hx hb dMD_start_4 rfl (fun h4 => ?_) (fun h4 => absurd (rfl) h4)
  refine lv_aload_n hx hb dMD_start_13 rfl (lv_at hl 0 rfl) ?_
  refine x_iE (f := fun k => 0 + k) (x_runV (C := R_MD) (As := []) (rest := []) X (c1_MD_isBad l D tc (fun k => ad (0 + k)) (fun k => E (0 + k)) th ic A J (by simpa only [Nat.zero_add] using hM0) q1) rfl rfl (by decide) (by decide) w_563 w_9 w_560 w_562 sel_MD_isBad ry_MD_isBad (x_recv X hP (by omega) (m0) rfl) (ct_pre X hP hD (fr_lt 17 17 0 (by omega)) (fr_inj 17 0)) ct_blind hl.1 (Nat.le_of_ble_eq_true rfl) dMD_start_14 ⟨Nat.zero_le _, Nat.zero_le _⟩) hD hP hS (fr_lt 17 17 0 (by omega)) (fr_inj 17 0) (fun H locs hD hP hS => ?_)
  refine lv_if_eq (tgt := 26) hx hb dMD_start_17 rfl (fun h17 => absurd h17 (by decide)) (fun h17 => ?_)
  refine lv_aload_n hx hb dMD_start_20 rfl (lv_at hl 0 rfl) ?_
  refine lv_iconst (v := 2) hx hb dMD_start_21 (by decide) ?_
  refine x_i (f := fun k => 0 + k) (x_runV (C := R_MD) (As := [.int 2]) (rest := []) X (c_MD_raise l D tc (fun k => ad (0 + k)) (fun k => E (0 + k)) th 0 ic 0 A J 2 (by simpa only [Nat.zero_add] using hM0)) rfl rfl (by decide) (by decide) w_559 w_9 w_556 w_558 sel_MD_raise ry_MD_raise (x_recv X hP (by omega) (m0) rfl) (ct_pre X hP hD (fr_lt 17 17 0 (by omega)) (fr_inj 17 0)) ct_blind hl.1 (Nat.le_of_ble_eq_true rfl) dMD_start_22 ⟨Nat.zero_le _, Nat.zero_le _⟩) hD hP hS (fr_lt 17 17 0 (by omega)) (fr_inj 17 0) (fun o E1 h => ⟨_, h.1⟩) (fun r5 E1 H locs q4 hD hP hS => ?_)
  obtain ⟨q4a, q4m⟩ := q4
  generalize g2 : wU 17 (fun k => 0 + k) E E1 = E3 at hD hP
  exact q_iret X hlk hr hP hS dMD_start_25 (by rw [← g2]; exact ⟨q4a, isMD.back q4m⟩)
set_option maxHeartbeats 4000000 in
set_option maxRecDepth 100000 in
theorem c1_MD_step (l : Launch) (D : va_G) (tc : Nat → ClassId) (ad : Nat → Nat) (E : Nat → va_E) (th ic : Int32) (A : Nat → Nat → Int32) (J : Nat → Int64) (t : Int32) (hM : isMD tc ad E th 0 ic 0 A J) : Ct l D tc yMD_step 1 17 ad E [.ref (ad 0), .int t] (fun o E2 => o = .returned (some (.int 0)) ∧ isMD tc ad E2 (if wi t 5 = true then 2 else 1) 0 ic 0 A J) := by
  refine Ct.ofW (cc := cMD_step) (maxL := 6) (ret := (some .int)) (own := R_MD) (by decide) rfl w_567 (Nat.le_of_ble_eq_true rfl) ?_
  intro p e s m args below meth c ls X hlk hr hD hP hS hl
  have hx := X.1
  have hb := X.2.1
  have hl : lv_has ls 6 [(0, .ref (ad 0)), (1, .int t)] := hl
  have hM0 := hM
  obtain ⟨m0, m1, m2, m3, m4, m5, m6, m7, m8, m9, m10, m11, m12, m13, m14, m15, m16⟩ := hM
  refine lv_iload_n hx hb dMD_step_0 rfl (lv_at hl 1 rfl) ?_
  refine lv_iconst (v := 5) hx hb dMD_step_1 (by decide) ?_
  refine x_iE (f := fun k => 0 + k) (x_runS (As := [.int t, .int 5]) (rest := []) X (c_MD_within l D tc (fun k => ad (0 + k)) (fun k => E (0 + k)) t 5 (n := 5) (by decide)) rfl rfl (by decide) (by decide) w_547 w_9 w_545 w_546 ry_MD_within (ct_pre X hP hD (fr_lt 0 17 0 (by omega)) (fr_inj 0 0)) ct_blind hl.1 (Nat.le_of_ble_eq_true rfl) dMD_step_2 ⟨Nat.zero_le _, Nat.zero_le _⟩) hD hP hS (fr_lt 0 17 0 (by omega)) (fr_inj 0 0) (fun H locs hD hP hS => ?_)
  refine lv_if_ne (tgt := 14) hx hb dMD_step_5 rfl (fun h5 => ?_) (fun h5 => ?_)
  · refine lv_aload_n hx hb dMD_step_14 rfl (lv_at hl 0 rfl) ?_
    refine g_MD_71 X hP (by omega) (m0) rfl dMD_step_15 ?_
    refine lv_if_eq (tgt := 31) hx hb dMD_step_18 rfl (fun h18 => ?_) (fun h18 => absurd (rfl) h18)
    refine lv_aload_n hx hb dMD_step_31 rfl (lv_at hl 0 rfl) ?_
    refine lv_iconst (v := 2) hx hb dMD_step_32 (by decide) ?_
    refine x_i (f := fun k => 0 + k) (x_runV (C := R_MD) (As := [.int 2]) (rest := []) X (c_MD_raise l D tc (fun k => ad (0 + k)) (fun k => E (0 + k)) th 0 ic 0 A J 2 (by simpa only [Nat.zero_add] using hM0)) rfl rfl (by decide) (by decide) w_559 w_9 w_556 w_558 sel_MD_raise ry_MD_raise (x_recv X hP (by omega) (m0) rfl) (ct_pre X hP hD (fr_lt 17 17 0 (by omega)) (fr_inj 17 0)) ct_blind hl.1 (Nat.le_of_ble_eq_true rfl) dMD_step_33 ⟨Nat.zero_le _, Nat.zero_le _⟩) hD hP hS (fr_lt 17 17 0 (by omega)) (fr_inj 17 0) (fun o E1 h => ⟨_, h.1⟩) (fun r5 E1 H locs q4 hD hP hS => ?_)
    obtain ⟨q4a, q4m⟩ := q4
    generalize g2 : wU 17 (fun k => 0 + k) E E1 = E3 at hD hP
    exact q_iret X hlk hr hP hS dMD_step_36 (by rw [← g2]; exact ⟨q4a, by rw [if_pos (bi_t h5)]; exact isMD.back q4m⟩)
  · refine lv_aload_n hx hb dMD_step_8 rfl (lv_at hl 0 rfl) ?_
    refine lv_iconst (v := 1) hx hb dMD_step_9 (by decide) ?_
    refine x_i (f := fun k => 0 + k) (x_runV (C := R_MD) (As := [.int 1]) (rest := []) X (c_MD_raise l D tc (fun k => ad (0 + k)) (fun k => E (0 + k)) th 0 ic 0 A J 1 (by simpa only [Nat.zero_add] using hM0)) rfl rfl (by decide) (by decide) w_559 w_9 w_556 w_558 sel_MD_raise ry_MD_raise (x_recv X hP (by omega) (m0) rfl) (ct_pre X hP hD (fr_lt 17 17 0 (by omega)) (fr_inj 17 0)) ct_blind hl.1 (Nat.le_of_ble_eq_true rfl) dMD_step_10 ⟨Nat.zero_le _, Nat.zero_le _⟩) hD hP hS (fr_lt 17 17 0 (by omega)) (fr_inj 17 0) (fun o E1 h => ⟨_, h.1⟩) (fun r10 E6 H locs q9 hD hP hS => ?_)
    obtain ⟨q9a, q9m⟩ := q9
    generalize g7 : wU 17 (fun k => 0 + k) E E6 = E8 at hD hP
    exact q_iret X hlk hr hP hS dMD_step_13 (by rw [← g7]; exact ⟨q9a, by rw [if_neg (by rw [bi_f h5]; decide)]; exact isMD.back q9m⟩)
