theorem dMD_state_0 : decode cMD_state 0 = .ok (.aload_n 0, 1) := by decide +kernel
theorem dMD_state_1 : decode cMD_state 1 = .ok (.iconst 0, 1) := by decide +kernel
theorem dMD_state_2 : decode cMD_state 2 = .ok (.putfield 63, 3) := by decide +kernel
theorem dMD_state_5 : decode cMD_state 5 = .ok (.aload_n 0, 1) := by decide +kernel
theorem dMD_state_6 : decode cMD_state 6 = .ok (.getfield 71, 3) := by decide +kernel
theorem dMD_state_9 : decode cMD_state 9 = .ok (.ifCond .eq 42, 3) := by decide +kernel
theorem dMD_state_12 : decode cMD_state 12 = .ok (.iload_n 1, 1) := by decide +kernel
theorem dMD_state_13 : decode cMD_state 13 = .ok (.iconst 5, 1) := by decide +kernel
theorem dMD_state_14 : decode cMD_state 14 = .ok (.invokestatic 67, 3) := by decide +kernel
theorem dMD_state_17 : decode cMD_state 17 = .ok (.ifCond .eq 34, 3) := by decide +kernel
theorem dMD_state_20 : decode cMD_state 20 = .ok (.aload_n 0, 1) := by decide +kernel
theorem dMD_state_21 : decode cMD_state 21 = .ok (.getfield 22, 3) := by decide +kernel
theorem dMD_state_24 : decode cMD_state 24 = .ok (.iload_n 1, 1) := by decide +kernel
theorem dMD_state_25 : decode cMD_state 25 = .ok (.iaload, 1) := by decide +kernel
theorem dMD_state_26 : decode cMD_state 26 = .ok (.iconst 4, 1) := by decide +kernel
theorem dMD_state_27 : decode cMD_state 27 = .ok (.aload_n 0, 1) := by decide +kernel
theorem dMD_state_28 : decode cMD_state 28 = .ok (.getfield 25, 3) := by decide +kernel
theorem dMD_state_31 : decode cMD_state 31 = .ok (.iload_n 1, 1) := by decide +kernel
theorem dMD_state_32 : decode cMD_state 32 = .ok (.iaload, 1) := by decide +kernel
theorem dMD_state_33 : decode cMD_state 33 = .ok (.imul, 1) := by decide +kernel
theorem dMD_state_34 : decode cMD_state 34 = .ok (.iadd, 1) := by decide +kernel
theorem dMD_state_35 : decode cMD_state 35 = .ok (.i2l, 1) := by decide +kernel
theorem dMD_state_36 : decode cMD_state 36 = .ok (.ldc2_w 134, 3) := by decide +kernel
theorem dMD_state_39 : decode cMD_state 39 = .ok (.aload_n 0, 1) := by decide +kernel
theorem dMD_state_40 : decode cMD_state 40 = .ok (.getfield 28, 3) := by decide +kernel
theorem dMD_state_43 : decode cMD_state 43 = .ok (.iload_n 1, 1) := by decide +kernel
theorem dMD_state_44 : decode cMD_state 44 = .ok (.iaload, 1) := by decide +kernel
theorem dMD_state_45 : decode cMD_state 45 = .ok (.i2l, 1) := by decide +kernel
theorem dMD_state_46 : decode cMD_state 46 = .ok (.lmul, 1) := by decide +kernel
theorem dMD_state_47 : decode cMD_state 47 = .ok (.ladd, 1) := by decide +kernel
theorem dMD_state_48 : decode cMD_state 48 = .ok (.goto 6, 3) := by decide +kernel
theorem dMD_state_51 : decode cMD_state 51 = .ok (.ldc2_w 136, 3) := by decide +kernel
theorem dMD_state_54 : decode cMD_state 54 = .ok (.lreturn, 1) := by decide +kernel
theorem dMD_events_0 : decode cMD_events 0 = .ok (.aload_n 0, 1) := by decide +kernel
theorem dMD_events_1 : decode cMD_events 1 = .ok (.iconst 0, 1) := by decide +kernel
theorem dMD_events_2 : decode cMD_events 2 = .ok (.putfield 63, 3) := by decide +kernel
theorem dMD_events_5 : decode cMD_events 5 = .ok (.aload_n 0, 1) := by decide +kernel
theorem dMD_events_6 : decode cMD_events 6 = .ok (.getfield 78, 3) := by decide +kernel
theorem dMD_events_9 : decode cMD_events 9 = .ok (.ireturn, 1) := by decide +kernel
theorem dMD_event_0 : decode cMD_event 0 = .ok (.aload_n 0, 1) := by decide +kernel
theorem dMD_event_1 : decode cMD_event 1 = .ok (.iconst 0, 1) := by decide +kernel
theorem dMD_event_2 : decode cMD_event 2 = .ok (.putfield 63, 3) := by decide +kernel
theorem dMD_event_5 : decode cMD_event 5 = .ok (.iload_n 1, 1) := by decide +kernel
theorem dMD_event_6 : decode cMD_event 6 = .ok (.aload_n 0, 1) := by decide +kernel
theorem dMD_event_7 : decode cMD_event 7 = .ok (.getfield 78, 3) := by decide +kernel
theorem dMD_event_10 : decode cMD_event 10 = .ok (.invokestatic 67, 3) := by decide +kernel
theorem dMD_event_13 : decode cMD_event 13 = .ok (.ifCond .eq 33, 3) := by decide +kernel
theorem dMD_event_16 : decode cMD_event 16 = .ok (.aload_n 0, 1) := by decide +kernel
theorem dMD_event_17 : decode cMD_event 17 = .ok (.getfield 37, 3) := by decide +kernel
theorem dMD_event_20 : decode cMD_event 20 = .ok (.iload_n 1, 1) := by decide +kernel
theorem dMD_event_21 : decode cMD_event 21 = .ok (.iaload, 1) := by decide +kernel
theorem dMD_event_22 : decode cMD_event 22 = .ok (.bipush 8, 2) := by decide +kernel
theorem dMD_event_24 : decode cMD_event 24 = .ok (.aload_n 0, 1) := by decide +kernel
theorem dMD_event_25 : decode cMD_event 25 = .ok (.getfield 40, 3) := by decide +kernel
theorem dMD_event_28 : decode cMD_event 28 = .ok (.iload_n 1, 1) := by decide +kernel
theorem dMD_event_29 : decode cMD_event 29 = .ok (.iaload, 1) := by decide +kernel
theorem dMD_event_30 : decode cMD_event 30 = .ok (.imul, 1) := by decide +kernel
theorem dMD_event_31 : decode cMD_event 31 = .ok (.iadd, 1) := by decide +kernel
theorem dMD_event_32 : decode cMD_event 32 = .ok (.sipush 128, 3) := by decide +kernel
theorem dMD_event_35 : decode cMD_event 35 = .ok (.aload_n 0, 1) := by decide +kernel
theorem dMD_event_36 : decode cMD_event 36 = .ok (.getfield 43, 3) := by decide +kernel
theorem dMD_event_39 : decode cMD_event 39 = .ok (.iload_n 1, 1) := by decide +kernel
theorem dMD_event_40 : decode cMD_event 40 = .ok (.iaload, 1) := by decide +kernel
theorem dMD_event_41 : decode cMD_event 41 = .ok (.imul, 1) := by decide +kernel
theorem dMD_event_42 : decode cMD_event 42 = .ok (.iadd, 1) := by decide +kernel
theorem dMD_event_43 : decode cMD_event 43 = .ok (.goto 4, 3) := by decide +kernel
theorem dMD_event_46 : decode cMD_event 46 = .ok (.iconst (-1), 1) := by decide +kernel
theorem dMD_event_47 : decode cMD_event 47 = .ok (.ireturn, 1) := by decide +kernel
theorem dMD_before_0 : decode cMD_before 0 = .ok (.aload_n 0, 1) := by decide +kernel
theorem dMD_before_1 : decode cMD_before 1 = .ok (.iconst 0, 1) := by decide +kernel
theorem dMD_before_2 : decode cMD_before 2 = .ok (.putfield 63, 3) := by decide +kernel
theorem dMD_before_5 : decode cMD_before 5 = .ok (.iload_n 1, 1) := by decide +kernel
theorem dMD_before_6 : decode cMD_before 6 = .ok (.aload_n 0, 1) := by decide +kernel
theorem dMD_before_7 : decode cMD_before 7 = .ok (.getfield 78, 3) := by decide +kernel
theorem dMD_before_10 : decode cMD_before 10 = .ok (.invokestatic 67, 3) := by decide +kernel
theorem dMD_before_13 : decode cMD_before 13 = .ok (.ifCond .eq 27, 3) := by decide +kernel
theorem dMD_before_16 : decode cMD_before 16 = .ok (.iload_n 2, 1) := by decide +kernel
theorem dMD_before_17 : decode cMD_before 17 = .ok (.aload_n 0, 1) := by decide +kernel
theorem dMD_before_18 : decode cMD_before 18 = .ok (.getfield 78, 3) := by decide +kernel
theorem dMD_before_21 : decode cMD_before 21 = .ok (.invokestatic 67, 3) := by decide +kernel
theorem dMD_before_24 : decode cMD_before 24 = .ok (.ifCond .eq 16, 3) := by decide +kernel
theorem dMD_before_27 : decode cMD_before 27 = .ok (.aload_n 0, 1) := by decide +kernel
theorem dMD_before_28 : decode cMD_before 28 = .ok (.iload_n 1, 1) := by decide +kernel
theorem dMD_before_29 : decode cMD_before 29 = .ok (.iload_n 2, 1) := by decide +kernel
theorem dMD_before_30 : decode cMD_before 30 = .ok (.invokevirtual 127, 3) := by decide +kernel
theorem dMD_before_33 : decode cMD_before 33 = .ok (.ifCond .eq 7, 3) := by decide +kernel
theorem dMD_before_36 : decode cMD_before 36 = .ok (.iconst 1, 1) := by decide +kernel
theorem dMD_before_37 : decode cMD_before 37 = .ok (.goto 4, 3) := by decide +kernel
theorem dMD_before_40 : decode cMD_before 40 = .ok (.iconst 0, 1) := by decide +kernel
theorem dMD_before_41 : decode cMD_before 41 = .ok (.ireturn, 1) := by decide +kernel
theorem dMD_holder_0 : decode cMD_holder 0 = .ok (.aload_n 0, 1) := by decide +kernel
theorem dMD_holder_1 : decode cMD_holder 1 = .ok (.iconst 0, 1) := by decide +kernel
theorem dMD_holder_2 : decode cMD_holder 2 = .ok (.putfield 63, 3) := by decide +kernel
theorem dMD_holder_5 : decode cMD_holder 5 = .ok (.iload_n 1, 1) := by decide +kernel
theorem dMD_holder_6 : decode cMD_holder 6 = .ok (.iconst 3, 1) := by decide +kernel
theorem dMD_holder_7 : decode cMD_holder 7 = .ok (.invokestatic 67, 3) := by decide +kernel
theorem dMD_holder_10 : decode cMD_holder 10 = .ok (.ifCond .eq 31, 3) := by decide +kernel
theorem dMD_holder_13 : decode cMD_holder 13 = .ok (.aload_n 0, 1) := by decide +kernel
theorem dMD_holder_14 : decode cMD_holder 14 = .ok (.getfield 31, 3) := by decide +kernel
theorem dMD_holder_17 : decode cMD_holder 17 = .ok (.iload_n 1, 1) := by decide +kernel
theorem dMD_holder_18 : decode cMD_holder 18 = .ok (.iaload, 1) := by decide +kernel
theorem dMD_holder_19 : decode cMD_holder 19 = .ok (.ifCond .lt 22, 3) := by decide +kernel
theorem dMD_holder_22 : decode cMD_holder 22 = .ok (.aload_n 0, 1) := by decide +kernel
theorem dMD_holder_23 : decode cMD_holder 23 = .ok (.getfield 31, 3) := by decide +kernel
theorem dMD_holder_26 : decode cMD_holder 26 = .ok (.iload_n 1, 1) := by decide +kernel
theorem dMD_holder_27 : decode cMD_holder 27 = .ok (.iaload, 1) := by decide +kernel
theorem dMD_holder_28 : decode cMD_holder 28 = .ok (.bipush 8, 2) := by decide +kernel
theorem dMD_holder_30 : decode cMD_holder 30 = .ok (.aload_n 0, 1) := by decide +kernel
theorem dMD_holder_31 : decode cMD_holder 31 = .ok (.getfield 34, 3) := by decide +kernel
theorem dMD_holder_34 : decode cMD_holder 34 = .ok (.iload_n 1, 1) := by decide +kernel
theorem dMD_holder_35 : decode cMD_holder 35 = .ok (.iaload, 1) := by decide +kernel
theorem dMD_holder_36 : decode cMD_holder 36 = .ok (.imul, 1) := by decide +kernel
theorem dMD_holder_37 : decode cMD_holder 37 = .ok (.iadd, 1) := by decide +kernel
theorem dMD_holder_38 : decode cMD_holder 38 = .ok (.goto 4, 3) := by decide +kernel
theorem dMD_holder_41 : decode cMD_holder 41 = .ok (.iconst (-1), 1) := by decide +kernel
theorem dMD_holder_42 : decode cMD_holder 42 = .ok (.ireturn, 1) := by decide +kernel
theorem dMD_race_0 : decode cMD_race 0 = .ok (.aload_n 0, 1) := by decide +kernel
theorem dMD_race_1 : decode cMD_race 1 = .ok (.iconst 0, 1) := by decide +kernel
theorem dMD_race_2 : decode cMD_race 2 = .ok (.putfield 63, 3) := by decide +kernel
theorem dMD_race_5 : decode cMD_race 5 = .ok (.iload_n 1, 1) := by decide +kernel
theorem dMD_race_6 : decode cMD_race 6 = .ok (.bipush 8, 2) := by decide +kernel
theorem dMD_race_8 : decode cMD_race 8 = .ok (.invokestatic 67, 3) := by decide +kernel
theorem dMD_race_11 : decode cMD_race 11 = .ok (.ifCond .eq 12, 3) := by decide +kernel
theorem dMD_race_14 : decode cMD_race 14 = .ok (.aload_n 0, 1) := by decide +kernel
theorem dMD_race_15 : decode cMD_race 15 = .ok (.getfield 54, 3) := by decide +kernel
theorem dMD_race_18 : decode cMD_race 18 = .ok (.iload_n 1, 1) := by decide +kernel
theorem dMD_race_19 : decode cMD_race 19 = .ok (.iaload, 1) := by decide +kernel
theorem dMD_race_20 : decode cMD_race 20 = .ok (.goto 4, 3) := by decide +kernel
theorem dMD_race_23 : decode cMD_race 23 = .ok (.iconst (-1), 1) := by decide +kernel
theorem dMD_race_24 : decode cMD_race 24 = .ok (.ireturn, 1) := by decide +kernel
theorem dMD_partner_0 : decode cMD_partner 0 = .ok (.aload_n 0, 1) := by decide +kernel
theorem dMD_partner_1 : decode cMD_partner 1 = .ok (.iconst 0, 1) := by decide +kernel
theorem dMD_partner_2 : decode cMD_partner 2 = .ok (.putfield 63, 3) := by decide +kernel
theorem dMD_partner_5 : decode cMD_partner 5 = .ok (.iload_n 1, 1) := by decide +kernel
theorem dMD_partner_6 : decode cMD_partner 6 = .ok (.bipush 8, 2) := by decide +kernel
theorem dMD_partner_8 : decode cMD_partner 8 = .ok (.invokestatic 67, 3) := by decide +kernel
theorem dMD_partner_11 : decode cMD_partner 11 = .ok (.ifCond .eq 12, 3) := by decide +kernel
theorem dMD_partner_14 : decode cMD_partner 14 = .ok (.aload_n 0, 1) := by decide +kernel
theorem dMD_partner_15 : decode cMD_partner 15 = .ok (.getfield 57, 3) := by decide +kernel
theorem dMD_partner_18 : decode cMD_partner 18 = .ok (.iload_n 1, 1) := by decide +kernel
theorem dMD_partner_19 : decode cMD_partner 19 = .ok (.iaload, 1) := by decide +kernel
theorem dMD_partner_20 : decode cMD_partner 20 = .ok (.goto 4, 3) := by decide +kernel
theorem dMD_partner_23 : decode cMD_partner 23 = .ok (.iconst (-1), 1) := by decide +kernel
theorem dMD_partner_24 : decode cMD_partner 24 = .ok (.ireturn, 1) := by decide +kernel
theorem dMD_races_0 : decode cMD_races 0 = .ok (.aload_n 0, 1) := by decide +kernel
theorem dMD_races_1 : decode cMD_races 1 = .ok (.iconst 0, 1) := by decide +kernel
theorem dMD_races_2 : decode cMD_races 2 = .ok (.putfield 63, 3) := by decide +kernel
theorem dMD_races_5 : decode cMD_races 5 = .ok (.iconst 0, 1) := by decide +kernel
theorem dMD_races_6 : decode cMD_races 6 = .ok (.istore_n 1, 1) := by decide +kernel
theorem dMD_races_7 : decode cMD_races 7 = .ok (.iconst 0, 1) := by decide +kernel
theorem dMD_races_8 : decode cMD_races 8 = .ok (.istore_n 2, 1) := by decide +kernel
theorem dMD_races_9 : decode cMD_races 9 = .ok (.iload_n 2, 1) := by decide +kernel
theorem dMD_races_10 : decode cMD_races 10 = .ok (.bipush 8, 2) := by decide +kernel
theorem dMD_races_12 : decode cMD_races 12 = .ok (.if_icmp .ge 26, 3) := by decide +kernel
theorem dMD_races_15 : decode cMD_races 15 = .ok (.aload_n 0, 1) := by decide +kernel
theorem dMD_races_16 : decode cMD_races 16 = .ok (.getfield 54, 3) := by decide +kernel
theorem dMD_races_19 : decode cMD_races 19 = .ok (.iload_n 2, 1) := by decide +kernel
theorem dMD_races_20 : decode cMD_races 20 = .ok (.iaload, 1) := by decide +kernel
theorem dMD_races_21 : decode cMD_races 21 = .ok (.ifCond .lt 9, 3) := by decide +kernel
theorem dMD_races_24 : decode cMD_races 24 = .ok (.iload_n 1, 1) := by decide +kernel
theorem dMD_races_25 : decode cMD_races 25 = .ok (.iconst 1, 1) := by decide +kernel
theorem dMD_races_26 : decode cMD_races 26 = .ok (.iadd, 1) := by decide +kernel
theorem dMD_races_27 : decode cMD_races 27 = .ok (.goto 4, 3) := by decide +kernel
theorem dMD_races_30 : decode cMD_races 30 = .ok (.iload_n 1, 1) := by decide +kernel
theorem dMD_races_31 : decode cMD_races 31 = .ok (.istore_n 1, 1) := by decide +kernel
theorem dMD_races_32 : decode cMD_races 32 = .ok (.iinc 2 1, 3) := by decide +kernel
theorem dMD_races_35 : decode cMD_races 35 = .ok (.goto (-26), 3) := by decide +kernel
theorem dMD_races_38 : decode cMD_races 38 = .ok (.iload_n 1, 1) := by decide +kernel
theorem dMD_races_39 : decode cMD_races 39 = .ok (.ireturn, 1) := by decide +kernel
theorem dMD_again_0 : decode cMD_again 0 = .ok (.aload_n 0, 1) := by decide +kernel
theorem dMD_again_1 : decode cMD_again 1 = .ok (.iconst 0, 1) := by decide +kernel
theorem dMD_again_2 : decode cMD_again 2 = .ok (.putfield 63, 3) := by decide +kernel
theorem dMD_again_5 : decode cMD_again 5 = .ok (.iload_n 1, 1) := by decide +kernel
theorem dMD_again_6 : decode cMD_again 6 = .ok (.ifCond .lt 11, 3) := by decide +kernel
theorem dMD_again_9 : decode cMD_again 9 = .ok (.iload_n 1, 1) := by decide +kernel
theorem dMD_again_10 : decode cMD_again 10 = .ok (.aload_n 0, 1) := by decide +kernel
theorem dMD_again_11 : decode cMD_again 11 = .ok (.getfield 78, 3) := by decide +kernel
theorem dMD_again_14 : decode cMD_again 14 = .ok (.if_icmp .le 5, 3) := by decide +kernel
theorem dMD_again_17 : decode cMD_again 17 = .ok (.iconst (-1), 1) := by decide +kernel
theorem dMD_again_18 : decode cMD_again 18 = .ok (.ireturn, 1) := by decide +kernel
theorem dMD_again_19 : decode cMD_again 19 = .ok (.iconst 0, 1) := by decide +kernel
theorem dMD_again_20 : decode cMD_again 20 = .ok (.istore_n 3, 1) := by decide +kernel
theorem dMD_again_21 : decode cMD_again 21 = .ok (.iconst 0, 1) := by decide +kernel
theorem dMD_again_22 : decode cMD_again 22 = .ok (.istore 4, 2) := by decide +kernel
theorem dMD_again_24 : decode cMD_again 24 = .ok (.iload 4, 2) := by decide +kernel
theorem dMD_again_26 : decode cMD_again 26 = .ok (.iload_n 1, 1) := by decide +kernel
theorem dMD_again_27 : decode cMD_again 27 = .ok (.if_icmp .ge 54, 3) := by decide +kernel
theorem dMD_again_30 : decode cMD_again 30 = .ok (.aload_n 0, 1) := by decide +kernel
theorem dMD_again_31 : decode cMD_again 31 = .ok (.iload 4, 2) := by decide +kernel
theorem dMD_again_33 : decode cMD_again 33 = .ok (.invokevirtual 120, 3) := by decide +kernel
theorem dMD_again_36 : decode cMD_again 36 = .ok (.ifCond .eq 39, 3) := by decide +kernel
theorem dMD_again_39 : decode cMD_again 39 = .ok (.iload_n 3, 1) := by decide +kernel
theorem dMD_again_40 : decode cMD_again 40 = .ok (.aload_n 0, 1) := by decide +kernel
theorem dMD_again_41 : decode cMD_again 41 = .ok (.iload 4, 2) := by decide +kernel
theorem dMD_again_43 : decode cMD_again 43 = .ok (.iload_n 2, 1) := by decide +kernel
theorem dMD_again_44 : decode cMD_again 44 = .ok (.invokevirtual 109, 3) := by decide +kernel
theorem dMD_again_47 : decode cMD_again 47 = .ok (.ishr, 1) := by decide +kernel
theorem dMD_again_48 : decode cMD_again 48 = .ok (.iconst 1, 1) := by decide +kernel
theorem dMD_again_49 : decode cMD_again 49 = .ok (.iand, 1) := by decide +kernel
theorem dMD_again_50 : decode cMD_again 50 = .ok (.ifCond .ne 25, 3) := by decide +kernel
theorem dMD_again_53 : decode cMD_again 53 = .ok (.aload_n 0, 1) := by decide +kernel
theorem dMD_again_54 : decode cMD_again 54 = .ok (.iload 4, 2) := by decide +kernel
theorem dMD_again_56 : decode cMD_again 56 = .ok (.iload_n 2, 1) := by decide +kernel
theorem dMD_again_57 : decode cMD_again 57 = .ok (.invokevirtual 113, 3) := by decide +kernel
theorem dMD_again_60 : decode cMD_again 60 = .ok (.ifCond .eq 15, 3) := by decide +kernel
theorem dMD_again_63 : decode cMD_again 63 = .ok (.iload_n 3, 1) := by decide +kernel
theorem dMD_again_64 : decode cMD_again 64 = .ok (.iconst 1, 1) := by decide +kernel
theorem dMD_again_65 : decode cMD_again 65 = .ok (.aload_n 0, 1) := by decide +kernel
theorem dMD_again_66 : decode cMD_again 66 = .ok (.iload 4, 2) := by decide +kernel
theorem dMD_again_68 : decode cMD_again 68 = .ok (.iload_n 2, 1) := by decide +kernel
theorem dMD_again_69 : decode cMD_again 69 = .ok (.invokevirtual 109, 3) := by decide +kernel
theorem dMD_again_72 : decode cMD_again 72 = .ok (.ishl, 1) := by decide +kernel
theorem dMD_again_73 : decode cMD_again 73 = .ok (.ior, 1) := by decide +kernel
theorem dMD_again_74 : decode cMD_again 74 = .ok (.istore_n 3, 1) := by decide +kernel
theorem dMD_again_75 : decode cMD_again 75 = .ok (.iinc 4 1, 3) := by decide +kernel
theorem dMD_again_78 : decode cMD_again 78 = .ok (.goto (-54), 3) := by decide +kernel
theorem dMD_again_81 : decode cMD_again 81 = .ok (.iload_n 3, 1) := by decide +kernel
theorem dMD_again_82 : decode cMD_again 82 = .ok (.ireturn, 1) := by decide +kernel
theorem dMD_isBad_0 : decode cMD_isBad 0 = .ok (.aload_n 0, 1) := by decide +kernel
theorem dMD_isBad_1 : decode cMD_isBad 1 = .ok (.getfield 7, 3) := by decide +kernel
theorem dMD_isBad_4 : decode cMD_isBad 4 = .ok (.iconst 0, 1) := by decide +kernel
theorem dMD_isBad_5 : decode cMD_isBad 5 = .ok (.iaload, 1) := by decide +kernel
theorem dMD_isBad_6 : decode cMD_isBad 6 = .ok (.ifCond .ne 7, 3) := by decide +kernel
theorem dMD_isBad_9 : decode cMD_isBad 9 = .ok (.iconst 1, 1) := by decide +kernel
theorem dMD_isBad_10 : decode cMD_isBad 10 = .ok (.goto 4, 3) := by decide +kernel
theorem dMD_isBad_13 : decode cMD_isBad 13 = .ok (.iconst 0, 1) := by decide +kernel
theorem dMD_isBad_14 : decode cMD_isBad 14 = .ok (.istore_n 1, 1) := by decide +kernel
theorem dMD_isBad_15 : decode cMD_isBad 15 = .ok (.iconst 0, 1) := by decide +kernel
theorem dMD_isBad_16 : decode cMD_isBad 16 = .ok (.istore_n 2, 1) := by decide +kernel
theorem dMD_isBad_17 : decode cMD_isBad 17 = .ok (.iload_n 2, 1) := by decide +kernel
theorem dMD_isBad_18 : decode cMD_isBad 18 = .ok (.iconst 5, 1) := by decide +kernel
theorem dMD_isBad_19 : decode cMD_isBad 19 = .ok (.if_icmp .ge 140, 3) := by decide +kernel
theorem dMD_isBad_22 : decode cMD_isBad 22 = .ok (.iconst 0, 1) := by decide +kernel
theorem dMD_isBad_23 : decode cMD_isBad 23 = .ok (.istore_n 3, 1) := by decide +kernel
theorem dMD_isBad_24 : decode cMD_isBad 24 = .ok (.iload_n 3, 1) := by decide +kernel
theorem dMD_isBad_25 : decode cMD_isBad 25 = .ok (.aload_n 0, 1) := by decide +kernel
theorem dMD_isBad_26 : decode cMD_isBad 26 = .ok (.getfield 7, 3) := by decide +kernel
theorem dMD_isBad_29 : decode cMD_isBad 29 = .ok (.iload_n 2, 1) := by decide +kernel
theorem dMD_isBad_30 : decode cMD_isBad 30 = .ok (.iaload, 1) := by decide +kernel
theorem dMD_isBad_31 : decode cMD_isBad 31 = .ok (.if_icmp .ge 122, 3) := by decide +kernel
theorem dMD_isBad_34 : decode cMD_isBad 34 = .ok (.bipush 12, 2) := by decide +kernel
theorem dMD_isBad_36 : decode cMD_isBad 36 = .ok (.iload_n 2, 1) := by decide +kernel
theorem dMD_isBad_37 : decode cMD_isBad 37 = .ok (.imul, 1) := by decide +kernel
theorem dMD_isBad_38 : decode cMD_isBad 38 = .ok (.iload_n 3, 1) := by decide +kernel
theorem dMD_isBad_39 : decode cMD_isBad 39 = .ok (.iadd, 1) := by decide +kernel
theorem dMD_isBad_40 : decode cMD_isBad 40 = .ok (.istore 4, 2) := by decide +kernel
theorem dMD_isBad_42 : decode cMD_isBad 42 = .ok (.aload_n 0, 1) := by decide +kernel
theorem dMD_isBad_43 : decode cMD_isBad 43 = .ok (.getfield 13, 3) := by decide +kernel
theorem dMD_isBad_46 : decode cMD_isBad 46 = .ok (.iload 4, 2) := by decide +kernel
theorem dMD_isBad_48 : decode cMD_isBad 48 = .ok (.iaload, 1) := by decide +kernel
theorem dMD_isBad_49 : decode cMD_isBad 49 = .ok (.bipush 12, 2) := by decide +kernel
theorem dMD_isBad_51 : decode cMD_isBad 51 = .ok (.if_icmp .ne 21, 3) := by decide +kernel
theorem dMD_isBad_54 : decode cMD_isBad 54 = .ok (.aload_n 0, 1) := by decide +kernel
theorem dMD_isBad_55 : decode cMD_isBad 55 = .ok (.getfield 19, 3) := by decide +kernel
theorem dMD_isBad_58 : decode cMD_isBad 58 = .ok (.iload 4, 2) := by decide +kernel
theorem dMD_isBad_60 : decode cMD_isBad 60 = .ok (.iaload, 1) := by decide +kernel
theorem dMD_isBad_61 : decode cMD_isBad 61 = .ok (.iload_n 3, 1) := by decide +kernel
theorem dMD_isBad_62 : decode cMD_isBad 62 = .ok (.invokestatic 67, 3) := by decide +kernel
theorem dMD_isBad_65 : decode cMD_isBad 65 = .ok (.ifCond .ne 7, 3) := by decide +kernel
theorem dMD_isBad_68 : decode cMD_isBad 68 = .ok (.iconst 1, 1) := by decide +kernel
theorem dMD_isBad_69 : decode cMD_isBad 69 = .ok (.goto 4, 3) := by decide +kernel
theorem dMD_isBad_72 : decode cMD_isBad 72 = .ok (.iconst 0, 1) := by decide +kernel
theorem dMD_isBad_73 : decode cMD_isBad 73 = .ok (.istore 5, 2) := by decide +kernel
theorem dMD_isBad_75 : decode cMD_isBad 75 = .ok (.aload_n 0, 1) := by decide +kernel
theorem dMD_isBad_76 : decode cMD_isBad 76 = .ok (.getfield 13, 3) := by decide +kernel
theorem dMD_isBad_79 : decode cMD_isBad 79 = .ok (.iload 4, 2) := by decide +kernel
theorem dMD_isBad_81 : decode cMD_isBad 81 = .ok (.iaload, 1) := by decide +kernel
theorem dMD_isBad_82 : decode cMD_isBad 82 = .ok (.bipush 6, 2) := by decide +kernel
theorem dMD_isBad_84 : decode cMD_isBad 84 = .ok (.if_icmp .eq 15, 3) := by decide +kernel
theorem dMD_isBad_87 : decode cMD_isBad 87 = .ok (.aload_n 0, 1) := by decide +kernel
theorem dMD_isBad_88 : decode cMD_isBad 88 = .ok (.getfield 13, 3) := by decide +kernel
theorem dMD_isBad_91 : decode cMD_isBad 91 = .ok (.iload 4, 2) := by decide +kernel
theorem dMD_isBad_93 : decode cMD_isBad 93 = .ok (.iaload, 1) := by decide +kernel
theorem dMD_isBad_94 : decode cMD_isBad 94 = .ok (.bipush 7, 2) := by decide +kernel
theorem dMD_isBad_96 : decode cMD_isBad 96 = .ok (.if_icmp .ne 28, 3) := by decide +kernel
theorem dMD_isBad_99 : decode cMD_isBad 99 = .ok (.aload_n 0, 1) := by decide +kernel
theorem dMD_isBad_100 : decode cMD_isBad 100 = .ok (.getfield 16, 3) := by decide +kernel
theorem dMD_isBad_103 : decode cMD_isBad 103 = .ok (.iload 4, 2) := by decide +kernel
theorem dMD_isBad_105 : decode cMD_isBad 105 = .ok (.iaload, 1) := by decide +kernel
theorem dMD_isBad_106 : decode cMD_isBad 106 = .ok (.iload_n 2, 1) := by decide +kernel
theorem dMD_isBad_107 : decode cMD_isBad 107 = .ok (.if_icmp .eq 13, 3) := by decide +kernel
theorem dMD_isBad_110 : decode cMD_isBad 110 = .ok (.aload_n 0, 1) := by decide +kernel
theorem dMD_isBad_111 : decode cMD_isBad 111 = .ok (.getfield 16, 3) := by decide +kernel
theorem dMD_isBad_114 : decode cMD_isBad 114 = .ok (.iload 4, 2) := by decide +kernel
theorem dMD_isBad_116 : decode cMD_isBad 116 = .ok (.iaload, 1) := by decide +kernel
theorem dMD_isBad_117 : decode cMD_isBad 117 = .ok (.ifCond .ne 7, 3) := by decide +kernel
theorem dMD_isBad_120 : decode cMD_isBad 120 = .ok (.iconst 1, 1) := by decide +kernel
theorem dMD_isBad_121 : decode cMD_isBad 121 = .ok (.goto 4, 3) := by decide +kernel
theorem dMD_isBad_124 : decode cMD_isBad 124 = .ok (.iconst 0, 1) := by decide +kernel
theorem dMD_isBad_125 : decode cMD_isBad 125 = .ok (.istore 6, 2) := by decide +kernel
theorem dMD_isBad_127 : decode cMD_isBad 127 = .ok (.iload_n 1, 1) := by decide +kernel
theorem dMD_isBad_128 : decode cMD_isBad 128 = .ok (.ifCond .ne 13, 3) := by decide +kernel
theorem dMD_isBad_131 : decode cMD_isBad 131 = .ok (.iload 5, 2) := by decide +kernel
theorem dMD_isBad_133 : decode cMD_isBad 133 = .ok (.ifCond .ne 8, 3) := by decide +kernel
theorem dMD_isBad_136 : decode cMD_isBad 136 = .ok (.iload 6, 2) := by decide +kernel
theorem dMD_isBad_138 : decode cMD_isBad 138 = .ok (.ifCond .eq 7, 3) := by decide +kernel
theorem dMD_isBad_141 : decode cMD_isBad 141 = .ok (.iconst 1, 1) := by decide +kernel
theorem dMD_isBad_142 : decode cMD_isBad 142 = .ok (.goto 4, 3) := by decide +kernel
theorem dMD_isBad_145 : decode cMD_isBad 145 = .ok (.iconst 0, 1) := by decide +kernel
theorem dMD_isBad_146 : decode cMD_isBad 146 = .ok (.istore_n 1, 1) := by decide +kernel
theorem dMD_isBad_147 : decode cMD_isBad 147 = .ok (.iinc 3 1, 3) := by decide +kernel
theorem dMD_isBad_150 : decode cMD_isBad 150 = .ok (.goto (-126), 3) := by decide +kernel
theorem dMD_isBad_153 : decode cMD_isBad 153 = .ok (.iinc 2 1, 3) := by decide +kernel
theorem dMD_isBad_156 : decode cMD_isBad 156 = .ok (.goto (-139), 3) := by decide +kernel
theorem dMD_isBad_159 : decode cMD_isBad 159 = .ok (.iload_n 1, 1) := by decide +kernel
theorem dMD_isBad_160 : decode cMD_isBad 160 = .ok (.ireturn, 1) := by decide +kernel
theorem dMD_start_0 : decode cMD_start 0 = .ok (.aload_n 0, 1) := by decide +kernel
theorem dMD_start_1 : decode cMD_start 1 = .ok (.getfield 71, 3) := by decide +kernel
theorem dMD_start_4 : decode cMD_start 4 = .ok (.ifCond .eq 9, 3) := by decide +kernel
theorem dMD_start_7 : decode cMD_start 7 = .ok (.aload_n 0, 1) := by decide +kernel
theorem dMD_start_8 : decode cMD_start 8 = .ok (.iconst 1, 1) := by decide +kernel
theorem dMD_start_9 : decode cMD_start 9 = .ok (.invokevirtual 81, 3) := by decide +kernel
theorem dMD_start_12 : decode cMD_start 12 = .ok (.ireturn, 1) := by decide +kernel
theorem dMD_start_13 : decode cMD_start 13 = .ok (.aload_n 0, 1) := by decide +kernel
theorem dMD_start_14 : decode cMD_start 14 = .ok (.invokevirtual 85, 3) := by decide +kernel
theorem dMD_start_17 : decode cMD_start 17 = .ok (.ifCond .eq 9, 3) := by decide +kernel
theorem dMD_start_20 : decode cMD_start 20 = .ok (.aload_n 0, 1) := by decide +kernel
theorem dMD_start_21 : decode cMD_start 21 = .ok (.iconst 2, 1) := by decide +kernel
theorem dMD_start_22 : decode cMD_start 22 = .ok (.invokevirtual 81, 3) := by decide +kernel
theorem dMD_start_25 : decode cMD_start 25 = .ok (.ireturn, 1) := by decide +kernel
theorem dMD_start_26 : decode cMD_start 26 = .ok (.aload_n 0, 1) := by decide +kernel
theorem dMD_start_27 : decode cMD_start 27 = .ok (.iconst 0, 1) := by decide +kernel
theorem dMD_start_28 : decode cMD_start 28 = .ok (.putfield 63, 3) := by decide +kernel
theorem dMD_start_31 : decode cMD_start 31 = .ok (.aload_n 0, 1) := by decide +kernel
theorem dMD_start_32 : decode cMD_start 32 = .ok (.iconst 1, 1) := by decide +kernel
theorem dMD_start_33 : decode cMD_start 33 = .ok (.putfield 71, 3) := by decide +kernel
theorem dMD_start_36 : decode cMD_start 36 = .ok (.aload_n 0, 1) := by decide +kernel
theorem dMD_start_37 : decode cMD_start 37 = .ok (.iload_n 1, 1) := by decide +kernel
theorem dMD_start_38 : decode cMD_start 38 = .ok (.putfield 89, 3) := by decide +kernel
theorem dMD_start_41 : decode cMD_start 41 = .ok (.iconst 0, 1) := by decide +kernel
theorem dMD_start_42 : decode cMD_start 42 = .ok (.istore_n 2, 1) := by decide +kernel
theorem dMD_start_43 : decode cMD_start 43 = .ok (.iconst 0, 1) := by decide +kernel
theorem dMD_start_44 : decode cMD_start 44 = .ok (.istore_n 3, 1) := by decide +kernel
theorem dMD_start_45 : decode cMD_start 45 = .ok (.iload_n 3, 1) := by decide +kernel
theorem dMD_start_46 : decode cMD_start 46 = .ok (.iconst 5, 1) := by decide +kernel
theorem dMD_start_47 : decode cMD_start 47 = .ok (.if_icmp .ge 47, 3) := by decide +kernel
theorem dMD_start_50 : decode cMD_start 50 = .ok (.aload_n 0, 1) := by decide +kernel
theorem dMD_start_51 : decode cMD_start 51 = .ok (.getfield 22, 3) := by decide +kernel
theorem dMD_start_54 : decode cMD_start 54 = .ok (.iload_n 3, 1) := by decide +kernel
theorem dMD_start_55 : decode cMD_start 55 = .ok (.iload_n 3, 1) := by decide +kernel
theorem dMD_start_56 : decode cMD_start 56 = .ok (.ifCond .ne 7, 3) := by decide +kernel
theorem dMD_start_59 : decode cMD_start 59 = .ok (.iconst 1, 1) := by decide +kernel
theorem dMD_start_60 : decode cMD_start 60 = .ok (.goto 4, 3) := by decide +kernel
theorem dMD_start_63 : decode cMD_start 63 = .ok (.iconst 0, 1) := by decide +kernel
theorem dMD_start_64 : decode cMD_start 64 = .ok (.iastore, 1) := by decide +kernel
theorem dMD_start_65 : decode cMD_start 65 = .ok (.aload_n 0, 1) := by decide +kernel
theorem dMD_start_66 : decode cMD_start 66 = .ok (.getfield 25, 3) := by decide +kernel
theorem dMD_start_69 : decode cMD_start 69 = .ok (.iload_n 3, 1) := by decide +kernel
theorem dMD_start_70 : decode cMD_start 70 = .ok (.iconst 0, 1) := by decide +kernel
theorem dMD_start_71 : decode cMD_start 71 = .ok (.iastore, 1) := by decide +kernel
theorem dMD_start_72 : decode cMD_start 72 = .ok (.aload_n 0, 1) := by decide +kernel
theorem dMD_start_73 : decode cMD_start 73 = .ok (.getfield 28, 3) := by decide +kernel
theorem dMD_start_76 : decode cMD_start 76 = .ok (.iload_n 3, 1) := by decide +kernel
theorem dMD_start_77 : decode cMD_start 77 = .ok (.iconst 0, 1) := by decide +kernel
theorem dMD_start_78 : decode cMD_start 78 = .ok (.iastore, 1) := by decide +kernel
theorem dMD_start_79 : decode cMD_start 79 = .ok (.iload_n 2, 1) := by decide +kernel
theorem dMD_start_80 : decode cMD_start 80 = .ok (.aload_n 0, 1) := by decide +kernel
theorem dMD_start_81 : decode cMD_start 81 = .ok (.getfield 7, 3) := by decide +kernel
theorem dMD_start_84 : decode cMD_start 84 = .ok (.iload_n 3, 1) := by decide +kernel
theorem dMD_start_85 : decode cMD_start 85 = .ok (.iaload, 1) := by decide +kernel
theorem dMD_start_86 : decode cMD_start 86 = .ok (.iadd, 1) := by decide +kernel
theorem dMD_start_87 : decode cMD_start 87 = .ok (.istore_n 2, 1) := by decide +kernel
theorem dMD_start_88 : decode cMD_start 88 = .ok (.iinc 3 1, 3) := by decide +kernel
theorem dMD_start_91 : decode cMD_start 91 = .ok (.goto (-46), 3) := by decide +kernel
theorem dMD_start_94 : decode cMD_start 94 = .ok (.iload_n 2, 1) := by decide +kernel
theorem dMD_start_95 : decode cMD_start 95 = .ok (.ireturn, 1) := by decide +kernel
theorem dMD_step_0 : decode cMD_step 0 = .ok (.iload_n 1, 1) := by decide +kernel
theorem dMD_step_1 : decode cMD_step 1 = .ok (.iconst 5, 1) := by decide +kernel
theorem dMD_step_2 : decode cMD_step 2 = .ok (.invokestatic 67, 3) := by decide +kernel
theorem dMD_step_5 : decode cMD_step 5 = .ok (.ifCond .ne 9, 3) := by decide +kernel
theorem dMD_step_8 : decode cMD_step 8 = .ok (.aload_n 0, 1) := by decide +kernel
theorem dMD_step_9 : decode cMD_step 9 = .ok (.iconst 1, 1) := by decide +kernel
theorem dMD_step_10 : decode cMD_step 10 = .ok (.invokevirtual 81, 3) := by decide +kernel
theorem dMD_step_13 : decode cMD_step 13 = .ok (.ireturn, 1) := by decide +kernel
theorem dMD_step_14 : decode cMD_step 14 = .ok (.aload_n 0, 1) := by decide +kernel
theorem dMD_step_15 : decode cMD_step 15 = .ok (.getfield 71, 3) := by decide +kernel
theorem dMD_step_18 : decode cMD_step 18 = .ok (.ifCond .eq 13, 3) := by decide +kernel
theorem dMD_step_21 : decode cMD_step 21 = .ok (.aload_n 0, 1) := by decide +kernel
theorem dMD_step_22 : decode cMD_step 22 = .ok (.getfield 22, 3) := by decide +kernel
theorem dMD_step_25 : decode cMD_step 25 = .ok (.iload_n 1, 1) := by decide +kernel
theorem dMD_step_26 : decode cMD_step 26 = .ok (.iaload, 1) := by decide +kernel
theorem dMD_step_27 : decode cMD_step 27 = .ok (.iconst 1, 1) := by decide +kernel
theorem dMD_step_28 : decode cMD_step 28 = .ok (.if_icmp .eq 9, 3) := by decide +kernel
theorem dMD_step_31 : decode cMD_step 31 = .ok (.aload_n 0, 1) := by decide +kernel
theorem dMD_step_32 : decode cMD_step 32 = .ok (.iconst 2, 1) := by decide +kernel
theorem dMD_step_33 : decode cMD_step 33 = .ok (.invokevirtual 81, 3) := by decide +kernel
theorem dMD_step_36 : decode cMD_step 36 = .ok (.ireturn, 1) := by decide +kernel
theorem dMD_step_37 : decode cMD_step 37 = .ok (.bipush 12, 2) := by decide +kernel
theorem dMD_step_39 : decode cMD_step 39 = .ok (.iload_n 1, 1) := by decide +kernel
theorem dMD_step_40 : decode cMD_step 40 = .ok (.imul, 1) := by decide +kernel
theorem dMD_step_41 : decode cMD_step 41 = .ok (.aload_n 0, 1) := by decide +kernel
theorem dMD_step_42 : decode cMD_step 42 = .ok (.getfield 25, 3) := by decide +kernel
theorem dMD_step_45 : decode cMD_step 45 = .ok (.iload_n 1, 1) := by decide +kernel
theorem dMD_step_46 : decode cMD_step 46 = .ok (.iaload, 1) := by decide +kernel
theorem dMD_step_47 : decode cMD_step 47 = .ok (.iadd, 1) := by decide +kernel
theorem dMD_step_48 : decode cMD_step 48 = .ok (.istore_n 2, 1) := by decide +kernel
theorem dMD_step_49 : decode cMD_step 49 = .ok (.aload_n 0, 1) := by decide +kernel
theorem dMD_step_50 : decode cMD_step 50 = .ok (.getfield 13, 3) := by decide +kernel
theorem dMD_step_53 : decode cMD_step 53 = .ok (.iload_n 2, 1) := by decide +kernel
theorem dMD_step_54 : decode cMD_step 54 = .ok (.iaload, 1) := by decide +kernel
theorem dMD_step_55 : decode cMD_step 55 = .ok (.istore_n 3, 1) := by decide +kernel
theorem dMD_step_56 : decode cMD_step 56 = .ok (.aload_n 0, 1) := by decide +kernel
theorem dMD_step_57 : decode cMD_step 57 = .ok (.getfield 16, 3) := by decide +kernel
theorem dMD_step_60 : decode cMD_step 60 = .ok (.iload_n 2, 1) := by decide +kernel
theorem dMD_step_61 : decode cMD_step 61 = .ok (.iaload, 1) := by decide +kernel
theorem dMD_step_62 : decode cMD_step 62 = .ok (.istore 4, 2) := by decide +kernel
theorem dMD_step_64 : decode cMD_step 64 = .ok (.iload_n 3, 1) := by decide +kernel
theorem dMD_step_65 : decode cMD_step 65 = .ok (.iconst 3, 1) := by decide +kernel
theorem dMD_step_66 : decode cMD_step 66 = .ok (.if_icmp .ne 14, 3) := by decide +kernel
theorem dMD_step_69 : decode cMD_step 69 = .ok (.aload_n 0, 1) := by decide +kernel
theorem dMD_step_70 : decode cMD_step 70 = .ok (.getfield 31, 3) := by decide +kernel
theorem dMD_step_73 : decode cMD_step 73 = .ok (.iload 4, 2) := by decide +kernel
theorem dMD_step_75 : decode cMD_step 75 = .ok (.iaload, 1) := by decide +kernel
theorem dMD_step_76 : decode cMD_step 76 = .ok (.iload_n 1, 1) := by decide +kernel
theorem dMD_step_77 : decode cMD_step 77 = .ok (.if_icmp .ne 35, 3) := by decide +kernel
theorem dMD_step_80 : decode cMD_step 80 = .ok (.iload_n 3, 1) := by decide +kernel
theorem dMD_step_81 : decode cMD_step 81 = .ok (.bipush 6, 2) := by decide +kernel
theorem dMD_step_83 : decode cMD_step 83 = .ok (.if_icmp .ne 13, 3) := by decide +kernel
theorem dMD_step_86 : decode cMD_step 86 = .ok (.aload_n 0, 1) := by decide +kernel
theorem dMD_step_87 : decode cMD_step 87 = .ok (.getfield 22, 3) := by decide +kernel
theorem dMD_step_90 : decode cMD_step 90 = .ok (.iload 4, 2) := by decide +kernel
theorem dMD_step_92 : decode cMD_step 92 = .ok (.iaload, 1) := by decide +kernel
theorem dMD_step_93 : decode cMD_step 93 = .ok (.ifCond .ne 19, 3) := by decide +kernel
theorem dMD_step_96 : decode cMD_step 96 = .ok (.iload_n 3, 1) := by decide +kernel
theorem dMD_step_97 : decode cMD_step 97 = .ok (.bipush 7, 2) := by decide +kernel
theorem dMD_step_99 : decode cMD_step 99 = .ok (.if_icmp .ne 19, 3) := by decide +kernel
theorem dMD_step_102 : decode cMD_step 102 = .ok (.aload_n 0, 1) := by decide +kernel
theorem dMD_step_103 : decode cMD_step 103 = .ok (.getfield 22, 3) := by decide +kernel
theorem dMD_step_106 : decode cMD_step 106 = .ok (.iload 4, 2) := by decide +kernel
theorem dMD_step_108 : decode cMD_step 108 = .ok (.iaload, 1) := by decide +kernel
theorem dMD_step_109 : decode cMD_step 109 = .ok (.ifCond .ne 9, 3) := by decide +kernel
theorem dMD_step_112 : decode cMD_step 112 = .ok (.aload_n 0, 1) := by decide +kernel
theorem dMD_step_113 : decode cMD_step 113 = .ok (.iconst 3, 1) := by decide +kernel
theorem dMD_step_114 : decode cMD_step 114 = .ok (.invokevirtual 81, 3) := by decide +kernel
theorem dMD_step_117 : decode cMD_step 117 = .ok (.ireturn, 1) := by decide +kernel
theorem dMD_step_118 : decode cMD_step 118 = .ok (.aload_n 0, 1) := by decide +kernel
theorem dMD_step_119 : decode cMD_step 119 = .ok (.iconst 0, 1) := by decide +kernel
theorem dMD_step_120 : decode cMD_step 120 = .ok (.putfield 63, 3) := by decide +kernel
theorem dMD_step_123 : decode cMD_step 123 = .ok (.iload_n 3, 1) := by decide +kernel
theorem dMD_step_124 : decode cMD_step 124 = .ok (.bipush 10, 2) := by decide +kernel
theorem dMD_step_126 : decode cMD_step 126 = .ok (.if_icmp .lt 11, 3) := by decide +kernel
theorem dMD_step_129 : decode cMD_step 129 = .ok (.aload_n 0, 1) := by decide +kernel
theorem dMD_step_130 : decode cMD_step 130 = .ok (.iload_n 1, 1) := by decide +kernel
theorem dMD_step_131 : decode cMD_step 131 = .ok (.iload_n 2, 1) := by decide +kernel
theorem dMD_step_132 : decode cMD_step 132 = .ok (.invokevirtual 92, 3) := by decide +kernel
theorem dMD_step_135 : decode cMD_step 135 = .ok (.iconst 2, 1) := by decide +kernel
theorem dMD_step_136 : decode cMD_step 136 = .ok (.ireturn, 1) := by decide +kernel
theorem dMD_step_137 : decode cMD_step 137 = .ok (.iload_n 3, 1) := by decide +kernel
theorem dMD_step_138 : decode cMD_step 138 = .ok (.iconst 2, 1) := by decide +kernel
theorem dMD_step_139 : decode cMD_step 139 = .ok (.if_icmp .ne 24, 3) := by decide +kernel
theorem dMD_step_142 : decode cMD_step 142 = .ok (.aload_n 0, 1) := by decide +kernel
theorem dMD_step_143 : decode cMD_step 143 = .ok (.getfield 31, 3) := by decide +kernel
theorem dMD_step_146 : decode cMD_step 146 = .ok (.iload 4, 2) := by decide +kernel
theorem dMD_step_148 : decode cMD_step 148 = .ok (.iaload, 1) := by decide +kernel
theorem dMD_step_149 : decode cMD_step 149 = .ok (.ifCond .lt 14, 3) := by decide +kernel
theorem dMD_step_152 : decode cMD_step 152 = .ok (.aload_n 0, 1) := by decide +kernel
theorem dMD_step_153 : decode cMD_step 153 = .ok (.getfield 31, 3) := by decide +kernel
theorem dMD_step_156 : decode cMD_step 156 = .ok (.iload 4, 2) := by decide +kernel
theorem dMD_step_158 : decode cMD_step 158 = .ok (.iaload, 1) := by decide +kernel
theorem dMD_step_159 : decode cMD_step 159 = .ok (.iload_n 1, 1) := by decide +kernel
theorem dMD_step_160 : decode cMD_step 160 = .ok (.if_icmp .ne 20, 3) := by decide +kernel
theorem dMD_step_163 : decode cMD_step 163 = .ok (.iload_n 3, 1) := by decide +kernel
theorem dMD_step_164 : decode cMD_step 164 = .ok (.bipush 7, 2) := by decide +kernel
theorem dMD_step_166 : decode cMD_step 166 = .ok (.if_icmp .ne 18, 3) := by decide +kernel
theorem dMD_step_169 : decode cMD_step 169 = .ok (.aload_n 0, 1) := by decide +kernel
theorem dMD_step_170 : decode cMD_step 170 = .ok (.getfield 22, 3) := by decide +kernel
theorem dMD_step_173 : decode cMD_step 173 = .ok (.iload 4, 2) := by decide +kernel
theorem dMD_step_175 : decode cMD_step 175 = .ok (.iaload, 1) := by decide +kernel
theorem dMD_step_176 : decode cMD_step 176 = .ok (.iconst 2, 1) := by decide +kernel
theorem dMD_step_177 : decode cMD_step 177 = .ok (.if_icmp .eq 7, 3) := by decide +kernel
theorem dMD_step_180 : decode cMD_step 180 = .ok (.iconst 1, 1) := by decide +kernel
theorem dMD_step_181 : decode cMD_step 181 = .ok (.goto 4, 3) := by decide +kernel
theorem dMD_step_184 : decode cMD_step 184 = .ok (.iconst 0, 1) := by decide +kernel
theorem dMD_step_185 : decode cMD_step 185 = .ok (.istore 5, 2) := by decide +kernel
theorem dMD_step_187 : decode cMD_step 187 = .ok (.iload 5, 2) := by decide +kernel
theorem dMD_step_189 : decode cMD_step 189 = .ok (.ifCond .ne 13, 3) := by decide +kernel
theorem dMD_step_192 : decode cMD_step 192 = .ok (.aload_n 0, 1) := by decide +kernel
theorem dMD_step_193 : decode cMD_step 193 = .ok (.getfield 78, 3) := by decide +kernel
theorem dMD_step_196 : decode cMD_step 196 = .ok (.sipush 200, 3) := by decide +kernel
theorem dMD_step_199 : decode cMD_step 199 = .ok (.if_icmp .ne 5, 3) := by decide +kernel
theorem dMD_step_202 : decode cMD_step 202 = .ok (.iconst 0, 1) := by decide +kernel
theorem dMD_step_203 : decode cMD_step 203 = .ok (.ireturn, 1) := by decide +kernel
theorem dMD_step_204 : decode cMD_step 204 = .ok (.aload_n 0, 1) := by decide +kernel
theorem dMD_step_205 : decode cMD_step 205 = .ok (.iload_n 1, 1) := by decide +kernel
theorem dMD_step_206 : decode cMD_step 206 = .ok (.iload_n 3, 1) := by decide +kernel
theorem dMD_step_207 : decode cMD_step 207 = .ok (.iload_n 3, 1) := by decide +kernel
theorem dMD_step_208 : decode cMD_step 208 = .ok (.bipush 8, 2) := by decide +kernel
theorem dMD_step_210 : decode cMD_step 210 = .ok (.if_icmp .lt 16, 3) := by decide +kernel
theorem dMD_step_213 : decode cMD_step 213 = .ok (.iconst 4, 1) := by decide +kernel
theorem dMD_step_214 : decode cMD_step 214 = .ok (.aload_n 0, 1) := by decide +kernel
theorem dMD_step_215 : decode cMD_step 215 = .ok (.getfield 28, 3) := by decide +kernel
theorem dMD_step_218 : decode cMD_step 218 = .ok (.iload_n 1, 1) := by decide +kernel
theorem dMD_step_219 : decode cMD_step 219 = .ok (.iaload, 1) := by decide +kernel
theorem dMD_step_220 : decode cMD_step 220 = .ok (.iconst 3, 1) := by decide +kernel
theorem dMD_step_221 : decode cMD_step 221 = .ok (.iand, 1) := by decide +kernel
theorem dMD_step_222 : decode cMD_step 222 = .ok (.iadd, 1) := by decide +kernel
theorem dMD_step_223 : decode cMD_step 223 = .ok (.goto 5, 3) := by decide +kernel
theorem dMD_step_226 : decode cMD_step 226 = .ok (.iload 4, 2) := by decide +kernel
theorem dMD_step_228 : decode cMD_step 228 = .ok (.invokevirtual 96, 3) := by decide +kernel
theorem dMD_step_231 : decode cMD_step 231 = .ok (.aload_n 0, 1) := by decide +kernel
theorem dMD_step_232 : decode cMD_step 232 = .ok (.iload_n 1, 1) := by decide +kernel
theorem dMD_step_233 : decode cMD_step 233 = .ok (.aload_n 0, 1) := by decide +kernel
theorem dMD_step_234 : decode cMD_step 234 = .ok (.getfield 25, 3) := by decide +kernel
theorem dMD_step_237 : decode cMD_step 237 = .ok (.iload_n 1, 1) := by decide +kernel
theorem dMD_step_238 : decode cMD_step 238 = .ok (.iaload, 1) := by decide +kernel
theorem dMD_step_239 : decode cMD_step 239 = .ok (.iconst 1, 1) := by decide +kernel
theorem dMD_step_240 : decode cMD_step 240 = .ok (.iadd, 1) := by decide +kernel
theorem dMD_step_241 : decode cMD_step 241 = .ok (.invokevirtual 100, 3) := by decide +kernel
theorem dMD_step_244 : decode cMD_step 244 = .ok (.iconst 1, 1) := by decide +kernel
theorem dMD_step_245 : decode cMD_step 245 = .ok (.ireturn, 1) := by decide +kernel
theorem dRW_start_0 : decode cRW_start 0 = .ok (.aload_n 0, 1) := by decide +kernel
theorem dRW_start_1 : decode cRW_start 1 = .ok (.getfield 54, 3) := by decide +kernel
theorem dRW_start_4 : decode cRW_start 4 = .ok (.ifCond .eq 11, 3) := by decide +kernel
theorem dRW_start_7 : decode cRW_start 7 = .ok (.new 85, 3) := by decide +kernel
theorem dRW_start_10 : decode cRW_start 10 = .ok (.dup, 1) := by decide +kernel
theorem dRW_start_11 : decode cRW_start 11 = .ok (.invokespecial 87, 3) := by decide +kernel
theorem dRW_start_14 : decode cRW_start 14 = .ok (.athrow, 1) := by decide +kernel
theorem dRW_start_15 : decode cRW_start 15 = .ok (.aload_n 0, 1) := by decide +kernel
theorem dRW_start_16 : decode cRW_start 16 = .ok (.invokevirtual 88, 3) := by decide +kernel
theorem dRW_start_19 : decode cRW_start 19 = .ok (.ifCond .eq 11, 3) := by decide +kernel
theorem dRW_start_22 : decode cRW_start 22 = .ok (.new 91, 3) := by decide +kernel
theorem dRW_start_25 : decode cRW_start 25 = .ok (.dup, 1) := by decide +kernel
theorem dRW_start_26 : decode cRW_start 26 = .ok (.invokespecial 93, 3) := by decide +kernel
theorem dRW_start_29 : decode cRW_start 29 = .ok (.athrow, 1) := by decide +kernel
theorem dRW_start_30 : decode cRW_start 30 = .ok (.aload_n 0, 1) := by decide +kernel
theorem dRW_start_31 : decode cRW_start 31 = .ok (.iconst 1, 1) := by decide +kernel
theorem dRW_start_32 : decode cRW_start 32 = .ok (.putfield 54, 3) := by decide +kernel
theorem dRW_start_35 : decode cRW_start 35 = .ok (.aload_n 0, 1) := by decide +kernel
theorem dRW_start_36 : decode cRW_start 36 = .ok (.iload_n 1, 1) := by decide +kernel
theorem dRW_start_37 : decode cRW_start 37 = .ok (.putfield 58, 3) := by decide +kernel
theorem dRW_start_40 : decode cRW_start 40 = .ok (.aload_n 0, 1) := by decide +kernel
theorem dRW_start_41 : decode cRW_start 41 = .ok (.getfield 17, 3) := by decide +kernel
theorem dRW_start_44 : decode cRW_start 44 = .ok (.iconst 0, 1) := by decide +kernel
theorem dRW_start_45 : decode cRW_start 45 = .ok (.aaload, 1) := by decide +kernel
theorem dRW_start_46 : decode cRW_start 46 = .ok (.iconst 1, 1) := by decide +kernel
theorem dRW_start_47 : decode cRW_start 47 = .ok (.putfield 94, 3) := by decide +kernel
theorem dRW_start_50 : decode cRW_start 50 = .ok (.aload_n 0, 1) := by decide +kernel
theorem dRW_start_51 : decode cRW_start 51 = .ok (.invokevirtual 98, 3) := by decide +kernel
theorem dRW_start_54 : decode cRW_start 54 = .ok (.ireturn, 1) := by decide +kernel
theorem dRW_step_0 : decode cRW_step 0 = .ok (.iload_n 1, 1) := by decide +kernel
theorem dRW_step_1 : decode cRW_step 1 = .ok (.invokestatic 61, 3) := by decide +kernel
theorem dRW_step_4 : decode cRW_step 4 = .ok (.ifCond .ne 11, 3) := by decide +kernel
theorem dRW_step_7 : decode cRW_step 7 = .ok (.new 102, 3) := by decide +kernel
theorem dRW_step_10 : decode cRW_step 10 = .ok (.dup, 1) := by decide +kernel
theorem dRW_step_11 : decode cRW_step 11 = .ok (.invokespecial 104, 3) := by decide +kernel
theorem dRW_step_14 : decode cRW_step 14 = .ok (.athrow, 1) := by decide +kernel
theorem dRW_step_15 : decode cRW_step 15 = .ok (.aload_n 0, 1) := by decide +kernel
theorem dRW_step_16 : decode cRW_step 16 = .ok (.getfield 54, 3) := by decide +kernel
theorem dRW_step_19 : decode cRW_step 19 = .ok (.ifCond .eq 16, 3) := by decide +kernel
theorem dRW_step_22 : decode cRW_step 22 = .ok (.aload_n 0, 1) := by decide +kernel
theorem dRW_step_23 : decode cRW_step 23 = .ok (.getfield 17, 3) := by decide +kernel
theorem dRW_step_26 : decode cRW_step 26 = .ok (.iload_n 1, 1) := by decide +kernel
theorem dRW_step_27 : decode cRW_step 27 = .ok (.aaload, 1) := by decide +kernel
theorem dRW_step_28 : decode cRW_step 28 = .ok (.getfield 94, 3) := by decide +kernel
theorem dRW_step_31 : decode cRW_step 31 = .ok (.iconst 1, 1) := by decide +kernel
theorem dRW_step_32 : decode cRW_step 32 = .ok (.if_icmp .eq 11, 3) := by decide +kernel
theorem dRW_step_35 : decode cRW_step 35 = .ok (.new 85, 3) := by decide +kernel
theorem dRW_step_38 : decode cRW_step 38 = .ok (.dup, 1) := by decide +kernel
theorem dRW_step_39 : decode cRW_step 39 = .ok (.invokespecial 87, 3) := by decide +kernel
theorem dRW_step_42 : decode cRW_step 42 = .ok (.athrow, 1) := by decide +kernel
theorem dRW_step_43 : decode cRW_step 43 = .ok (.aload_n 0, 1) := by decide +kernel
theorem dRW_step_44 : decode cRW_step 44 = .ok (.getfield 11, 3) := by decide +kernel
theorem dRW_step_47 : decode cRW_step 47 = .ok (.iload_n 1, 1) := by decide +kernel
theorem dRW_step_48 : decode cRW_step 48 = .ok (.aaload, 1) := by decide +kernel
theorem dRW_step_49 : decode cRW_step 49 = .ok (.getfield 105, 3) := by decide +kernel
theorem dRW_step_52 : decode cRW_step 52 = .ok (.aload_n 0, 1) := by decide +kernel
theorem dRW_step_53 : decode cRW_step 53 = .ok (.getfield 17, 3) := by decide +kernel
theorem dRW_step_56 : decode cRW_step 56 = .ok (.iload_n 1, 1) := by decide +kernel
theorem dRW_step_57 : decode cRW_step 57 = .ok (.aaload, 1) := by decide +kernel
theorem dRW_step_58 : decode cRW_step 58 = .ok (.getfield 109, 3) := by decide +kernel
theorem dRW_step_61 : decode cRW_step 61 = .ok (.iaload, 1) := by decide +kernel
theorem dRW_step_62 : decode cRW_step 62 = .ok (.istore_n 2, 1) := by decide +kernel
theorem dRW_step_63 : decode cRW_step 63 = .ok (.aload_n 0, 1) := by decide +kernel
theorem dRW_step_64 : decode cRW_step 64 = .ok (.getfield 11, 3) := by decide +kernel
theorem dRW_step_67 : decode cRW_step 67 = .ok (.iload_n 1, 1) := by decide +kernel
theorem dRW_step_68 : decode cRW_step 68 = .ok (.aaload, 1) := by decide +kernel
theorem dRW_step_69 : decode cRW_step 69 = .ok (.getfield 112, 3) := by decide +kernel
theorem dRW_step_72 : decode cRW_step 72 = .ok (.aload_n 0, 1) := by decide +kernel
theorem dRW_step_73 : decode cRW_step 73 = .ok (.getfield 17, 3) := by decide +kernel
theorem dRW_step_76 : decode cRW_step 76 = .ok (.iload_n 1, 1) := by decide +kernel
theorem dRW_step_77 : decode cRW_step 77 = .ok (.aaload, 1) := by decide +kernel
theorem dRW_step_78 : decode cRW_step 78 = .ok (.getfield 109, 3) := by decide +kernel
theorem dRW_step_81 : decode cRW_step 81 = .ok (.iaload, 1) := by decide +kernel
theorem dRW_step_82 : decode cRW_step 82 = .ok (.istore_n 3, 1) := by decide +kernel
theorem dRW_step_83 : decode cRW_step 83 = .ok (.iload_n 2, 1) := by decide +kernel
theorem dRW_step_84 : decode cRW_step 84 = .ok (.invokestatic 115, 3) := by decide +kernel
theorem dRW_step_87 : decode cRW_step 87 = .ok (.ifCond .ne 12, 3) := by decide +kernel
theorem dRW_step_90 : decode cRW_step 90 = .ok (.aload_n 0, 1) := by decide +kernel
theorem dRW_step_91 : decode cRW_step 91 = .ok (.iload_n 1, 1) := by decide +kernel
theorem dRW_step_92 : decode cRW_step 92 = .ok (.iload_n 2, 1) := by decide +kernel
theorem dRW_step_93 : decode cRW_step 93 = .ok (.iload_n 3, 1) := by decide +kernel
theorem dRW_step_94 : decode cRW_step 94 = .ok (.invokevirtual 118, 3) := by decide +kernel
theorem dRW_step_97 : decode cRW_step 97 = .ok (.iconst 2, 1) := by decide +kernel
theorem dRW_step_98 : decode cRW_step 98 = .ok (.ireturn, 1) := by decide +kernel
theorem dRW_step_99 : decode cRW_step 99 = .ok (.aload_n 0, 1) := by decide +kernel
theorem dRW_step_100 : decode cRW_step 100 = .ok (.iload_n 1, 1) := by decide +kernel
theorem dRW_step_101 : decode cRW_step 101 = .ok (.iload_n 2, 1) := by decide +kernel
theorem dRW_step_102 : decode cRW_step 102 = .ok (.iload_n 3, 1) := by decide +kernel
theorem dRW_step_103 : decode cRW_step 103 = .ok (.invokevirtual 122, 3) := by decide +kernel
theorem dRW_step_106 : decode cRW_step 106 = .ok (.ifCond .eq 11, 3) := by decide +kernel
theorem dRW_step_109 : decode cRW_step 109 = .ok (.new 126, 3) := by decide +kernel
theorem dRW_step_112 : decode cRW_step 112 = .ok (.dup, 1) := by decide +kernel
theorem dRW_step_113 : decode cRW_step 113 = .ok (.invokespecial 128, 3) := by decide +kernel
theorem dRW_step_116 : decode cRW_step 116 = .ok (.athrow, 1) := by decide +kernel
theorem dRW_step_117 : decode cRW_step 117 = .ok (.aload_n 0, 1) := by decide +kernel
theorem dRW_step_118 : decode cRW_step 118 = .ok (.getfield 40, 3) := by decide +kernel
theorem dRW_step_121 : decode cRW_step 121 = .ok (.invokevirtual 129, 3) := by decide +kernel
theorem dRW_step_124 : decode cRW_step 124 = .ok (.ifCond .ne 13, 3) := by decide +kernel
theorem dRW_step_127 : decode cRW_step 127 = .ok (.aload_n 0, 1) := by decide +kernel
theorem dRW_step_128 : decode cRW_step 128 = .ok (.iload_n 1, 1) := by decide +kernel
theorem dRW_step_129 : decode cRW_step 129 = .ok (.iload_n 2, 1) := by decide +kernel
theorem dRW_step_130 : decode cRW_step 130 = .ok (.iload_n 3, 1) := by decide +kernel
theorem dRW_step_131 : decode cRW_step 131 = .ok (.invokevirtual 130, 3) := by decide +kernel
theorem dRW_step_134 : decode cRW_step 134 = .ok (.ifCond .eq 5, 3) := by decide +kernel
theorem dRW_step_137 : decode cRW_step 137 = .ok (.iconst 0, 1) := by decide +kernel
theorem dRW_step_138 : decode cRW_step 138 = .ok (.ireturn, 1) := by decide +kernel
theorem dRW_step_139 : decode cRW_step 139 = .ok (.aload_n 0, 1) := by decide +kernel
theorem dRW_step_140 : decode cRW_step 140 = .ok (.iload_n 1, 1) := by decide +kernel
theorem dRW_step_141 : decode cRW_step 141 = .ok (.iload_n 2, 1) := by decide +kernel
theorem dRW_step_142 : decode cRW_step 142 = .ok (.iload_n 3, 1) := by decide +kernel
theorem dRW_step_143 : decode cRW_step 143 = .ok (.invokevirtual 133, 3) := by decide +kernel
theorem dRW_step_146 : decode cRW_step 146 = .ok (.iconst 1, 1) := by decide +kernel
theorem dRW_step_147 : decode cRW_step 147 = .ok (.ireturn, 1) := by decide +kernel
theorem dLW_start_0 : decode cLW_start 0 = .ok (.aload_n 2, 1) := by decide +kernel
theorem dLW_start_1 : decode cLW_start 1 = .ok (.iconst 0, 1) := by decide +kernel
theorem dLW_start_2 : decode cLW_start 2 = .ok (.aload_n 0, 1) := by decide +kernel
theorem dLW_start_3 : decode cLW_start 3 = .ok (.iload_n 1, 1) := by decide +kernel
theorem dLW_start_4 : decode cLW_start 4 = .ok (.invokevirtual 7, 3) := by decide +kernel
theorem dLW_start_7 : decode cLW_start 7 = .ok (.i2l, 1) := by decide +kernel
theorem dLW_start_8 : decode cLW_start 8 = .ok (.lastore, 1) := by decide +kernel
theorem dLW_start_9 : decode cLW_start 9 = .ok (.goto 9, 3) := by decide +kernel
theorem dLW_start_12 : decode cLW_start 12 = .ok (.astore_n 3, 1) := by decide +kernel
theorem dLW_start_13 : decode cLW_start 13 = .ok (.iconst 1, 1) := by decide +kernel
theorem dLW_start_14 : decode cLW_start 14 = .ok (.ireturn, 1) := by decide +kernel
theorem dLW_start_15 : decode cLW_start 15 = .ok (.astore_n 3, 1) := by decide +kernel
theorem dLW_start_16 : decode cLW_start 16 = .ok (.iconst 2, 1) := by decide +kernel
theorem dLW_start_17 : decode cLW_start 17 = .ok (.ireturn, 1) := by decide +kernel
theorem dLW_start_18 : decode cLW_start 18 = .ok (.iconst 0, 1) := by decide +kernel
theorem dLW_start_19 : decode cLW_start 19 = .ok (.ireturn, 1) := by decide +kernel
theorem dLW_step_0 : decode cLW_step 0 = .ok (.aload_n 2, 1) := by decide +kernel
theorem dLW_step_1 : decode cLW_step 1 = .ok (.iconst 0, 1) := by decide +kernel
theorem dLW_step_2 : decode cLW_step 2 = .ok (.aload_n 0, 1) := by decide +kernel
theorem dLW_step_3 : decode cLW_step 3 = .ok (.iload_n 1, 1) := by decide +kernel
theorem dLW_step_4 : decode cLW_step 4 = .ok (.invokevirtual 17, 3) := by decide +kernel
theorem dLW_step_7 : decode cLW_step 7 = .ok (.i2l, 1) := by decide +kernel
theorem dLW_step_8 : decode cLW_step 8 = .ok (.lastore, 1) := by decide +kernel
theorem dLW_step_9 : decode cLW_step 9 = .ok (.goto 12, 3) := by decide +kernel
theorem dLW_step_12 : decode cLW_step 12 = .ok (.astore_n 3, 1) := by decide +kernel
theorem dLW_step_13 : decode cLW_step 13 = .ok (.iconst 1, 1) := by decide +kernel
theorem dLW_step_14 : decode cLW_step 14 = .ok (.ireturn, 1) := by decide +kernel
theorem dLW_step_15 : decode cLW_step 15 = .ok (.astore_n 3, 1) := by decide +kernel
theorem dLW_step_16 : decode cLW_step 16 = .ok (.iconst 2, 1) := by decide +kernel
theorem dLW_step_17 : decode cLW_step 17 = .ok (.ireturn, 1) := by decide +kernel
theorem dLW_step_18 : decode cLW_step 18 = .ok (.astore_n 3, 1) := by decide +kernel
theorem dLW_step_19 : decode cLW_step 19 = .ok (.iconst 3, 1) := by decide +kernel
theorem dLW_step_20 : decode cLW_step 20 = .ok (.ireturn, 1) := by decide +kernel
theorem dLW_step_21 : decode cLW_step 21 = .ok (.iconst 0, 1) := by decide +kernel
theorem dLW_step_22 : decode cLW_step 22 = .ok (.ireturn, 1) := by decide +kernel
