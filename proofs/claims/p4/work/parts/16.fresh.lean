theorem dRW_bookOf_0 : decode cRW_bookOf 0 = .ok (.iload_n 1, 1) := by decide +kernel
theorem dRW_bookOf_1 : decode cRW_bookOf 1 = .ok (.ifCond .eq 10, 3) := by decide +kernel
theorem dRW_bookOf_4 : decode cRW_bookOf 4 = .ok (.aload_n 0, 1) := by decide +kernel
theorem dRW_bookOf_5 : decode cRW_bookOf 5 = .ok (.getfield 51, 3) := by decide +kernel
theorem dRW_bookOf_8 : decode cRW_bookOf 8 = .ok (.goto 7, 3) := by decide +kernel
theorem dRW_bookOf_11 : decode cRW_bookOf 11 = .ok (.aload_n 0, 1) := by decide +kernel
theorem dRW_bookOf_12 : decode cRW_bookOf 12 = .ok (.getfield 47, 3) := by decide +kernel
theorem dRW_bookOf_15 : decode cRW_bookOf 15 = .ok (.areturn, 1) := by decide +kernel
theorem dRW_ownBook_0 : decode cRW_ownBook 0 = .ok (.aload_n 0, 1) := by decide +kernel
theorem dRW_ownBook_1 : decode cRW_ownBook 1 = .ok (.aload_n 0, 1) := by decide +kernel
theorem dRW_ownBook_2 : decode cRW_ownBook 2 = .ok (.getfield 58, 3) := by decide +kernel
theorem dRW_ownBook_5 : decode cRW_ownBook 5 = .ok (.invokevirtual 186, 3) := by decide +kernel
theorem dRW_ownBook_8 : decode cRW_ownBook 8 = .ok (.areturn, 1) := by decide +kernel
theorem dIN_bitCount_0 : decode cIN_bitCount 0 = .ok (.iload_n 0, 1) := by decide +kernel
theorem dIN_bitCount_1 : decode cIN_bitCount 1 = .ok (.iload_n 0, 1) := by decide +kernel
theorem dIN_bitCount_2 : decode cIN_bitCount 2 = .ok (.iconst 1, 1) := by decide +kernel
theorem dIN_bitCount_3 : decode cIN_bitCount 3 = .ok (.iushr, 1) := by decide +kernel
theorem dIN_bitCount_4 : decode cIN_bitCount 4 = .ok (.ldc_w 265, 3) := by decide +kernel
theorem dIN_bitCount_7 : decode cIN_bitCount 7 = .ok (.iand, 1) := by decide +kernel
theorem dIN_bitCount_8 : decode cIN_bitCount 8 = .ok (.isub, 1) := by decide +kernel
theorem dIN_bitCount_9 : decode cIN_bitCount 9 = .ok (.istore_n 0, 1) := by decide +kernel
theorem dIN_bitCount_10 : decode cIN_bitCount 10 = .ok (.iload_n 0, 1) := by decide +kernel
theorem dIN_bitCount_11 : decode cIN_bitCount 11 = .ok (.ldc_w 266, 3) := by decide +kernel
theorem dIN_bitCount_14 : decode cIN_bitCount 14 = .ok (.iand, 1) := by decide +kernel
theorem dIN_bitCount_15 : decode cIN_bitCount 15 = .ok (.iload_n 0, 1) := by decide +kernel
theorem dIN_bitCount_16 : decode cIN_bitCount 16 = .ok (.iconst 2, 1) := by decide +kernel
theorem dIN_bitCount_17 : decode cIN_bitCount 17 = .ok (.iushr, 1) := by decide +kernel
theorem dIN_bitCount_18 : decode cIN_bitCount 18 = .ok (.ldc_w 266, 3) := by decide +kernel
theorem dIN_bitCount_21 : decode cIN_bitCount 21 = .ok (.iand, 1) := by decide +kernel
theorem dIN_bitCount_22 : decode cIN_bitCount 22 = .ok (.iadd, 1) := by decide +kernel
theorem dIN_bitCount_23 : decode cIN_bitCount 23 = .ok (.istore_n 0, 1) := by decide +kernel
theorem dIN_bitCount_24 : decode cIN_bitCount 24 = .ok (.iload_n 0, 1) := by decide +kernel
theorem dIN_bitCount_25 : decode cIN_bitCount 25 = .ok (.iload_n 0, 1) := by decide +kernel
theorem dIN_bitCount_26 : decode cIN_bitCount 26 = .ok (.iconst 4, 1) := by decide +kernel
theorem dIN_bitCount_27 : decode cIN_bitCount 27 = .ok (.iushr, 1) := by decide +kernel
theorem dIN_bitCount_28 : decode cIN_bitCount 28 = .ok (.iadd, 1) := by decide +kernel
theorem dIN_bitCount_29 : decode cIN_bitCount 29 = .ok (.ldc_w 267, 3) := by decide +kernel
theorem dIN_bitCount_32 : decode cIN_bitCount 32 = .ok (.iand, 1) := by decide +kernel
theorem dIN_bitCount_33 : decode cIN_bitCount 33 = .ok (.istore_n 0, 1) := by decide +kernel
theorem dIN_bitCount_34 : decode cIN_bitCount 34 = .ok (.iload_n 0, 1) := by decide +kernel
theorem dIN_bitCount_35 : decode cIN_bitCount 35 = .ok (.iload_n 0, 1) := by decide +kernel
theorem dIN_bitCount_36 : decode cIN_bitCount 36 = .ok (.bipush 8, 2) := by decide +kernel
theorem dIN_bitCount_38 : decode cIN_bitCount 38 = .ok (.iushr, 1) := by decide +kernel
theorem dIN_bitCount_39 : decode cIN_bitCount 39 = .ok (.iadd, 1) := by decide +kernel
theorem dIN_bitCount_40 : decode cIN_bitCount 40 = .ok (.istore_n 0, 1) := by decide +kernel
theorem dIN_bitCount_41 : decode cIN_bitCount 41 = .ok (.iload_n 0, 1) := by decide +kernel
theorem dIN_bitCount_42 : decode cIN_bitCount 42 = .ok (.iload_n 0, 1) := by decide +kernel
theorem dIN_bitCount_43 : decode cIN_bitCount 43 = .ok (.bipush 16, 2) := by decide +kernel
theorem dIN_bitCount_45 : decode cIN_bitCount 45 = .ok (.iushr, 1) := by decide +kernel
theorem dIN_bitCount_46 : decode cIN_bitCount 46 = .ok (.iadd, 1) := by decide +kernel
theorem dIN_bitCount_47 : decode cIN_bitCount 47 = .ok (.istore_n 0, 1) := by decide +kernel
theorem dIN_bitCount_48 : decode cIN_bitCount 48 = .ok (.iload_n 0, 1) := by decide +kernel
theorem dIN_bitCount_49 : decode cIN_bitCount 49 = .ok (.bipush 63, 2) := by decide +kernel
theorem dIN_bitCount_51 : decode cIN_bitCount 51 = .ok (.iand, 1) := by decide +kernel
theorem dIN_bitCount_52 : decode cIN_bitCount 52 = .ok (.ireturn, 1) := by decide +kernel
theorem dBK_placesWithin_0 : decode cBK_placesWithin 0 = .ok (.iconst 0, 1) := by decide +kernel
theorem dBK_placesWithin_1 : decode cBK_placesWithin 1 = .ok (.istore_n 2, 1) := by decide +kernel
theorem dBK_placesWithin_2 : decode cBK_placesWithin 2 = .ok (.iconst 0, 1) := by decide +kernel
theorem dBK_placesWithin_3 : decode cBK_placesWithin 3 = .ok (.istore_n 3, 1) := by decide +kernel
theorem dBK_placesWithin_4 : decode cBK_placesWithin 4 = .ok (.iload_n 3, 1) := by decide +kernel
theorem dBK_placesWithin_5 : decode cBK_placesWithin 5 = .ok (.bipush 8, 2) := by decide +kernel
theorem dBK_placesWithin_7 : decode cBK_placesWithin 7 = .ok (.if_icmp .ge 35, 3) := by decide +kernel
theorem dBK_placesWithin_10 : decode cBK_placesWithin 10 = .ok (.aload_n 0, 1) := by decide +kernel
theorem dBK_placesWithin_11 : decode cBK_placesWithin 11 = .ok (.getfield 9, 3) := by decide +kernel
theorem dBK_placesWithin_14 : decode cBK_placesWithin 14 = .ok (.iload_n 3, 1) := by decide +kernel
theorem dBK_placesWithin_15 : decode cBK_placesWithin 15 = .ok (.iaload, 1) := by decide +kernel
theorem dBK_placesWithin_16 : decode cBK_placesWithin 16 = .ok (.iconst (-1), 1) := by decide +kernel
theorem dBK_placesWithin_17 : decode cBK_placesWithin 17 = .ok (.if_icmp .eq 19, 3) := by decide +kernel
theorem dBK_placesWithin_20 : decode cBK_placesWithin 20 = .ok (.aload_n 0, 1) := by decide +kernel
theorem dBK_placesWithin_21 : decode cBK_placesWithin 21 = .ok (.getfield 9, 3) := by decide +kernel
theorem dBK_placesWithin_24 : decode cBK_placesWithin 24 = .ok (.iload_n 3, 1) := by decide +kernel
theorem dBK_placesWithin_25 : decode cBK_placesWithin 25 = .ok (.iaload, 1) := by decide +kernel
theorem dBK_placesWithin_26 : decode cBK_placesWithin 26 = .ok (.iload_n 1, 1) := by decide +kernel
theorem dBK_placesWithin_27 : decode cBK_placesWithin 27 = .ok (.if_icmp .ge 9, 3) := by decide +kernel
theorem dBK_placesWithin_30 : decode cBK_placesWithin 30 = .ok (.iload_n 2, 1) := by decide +kernel
theorem dBK_placesWithin_31 : decode cBK_placesWithin 31 = .ok (.iconst 1, 1) := by decide +kernel
theorem dBK_placesWithin_32 : decode cBK_placesWithin 32 = .ok (.iload_n 3, 1) := by decide +kernel
theorem dBK_placesWithin_33 : decode cBK_placesWithin 33 = .ok (.ishl, 1) := by decide +kernel
theorem dBK_placesWithin_34 : decode cBK_placesWithin 34 = .ok (.iadd, 1) := by decide +kernel
theorem dBK_placesWithin_35 : decode cBK_placesWithin 35 = .ok (.istore_n 2, 1) := by decide +kernel
theorem dBK_placesWithin_36 : decode cBK_placesWithin 36 = .ok (.iinc 3 1, 3) := by decide +kernel
theorem dBK_placesWithin_39 : decode cBK_placesWithin 39 = .ok (.goto (-35), 3) := by decide +kernel
theorem dBK_placesWithin_42 : decode cBK_placesWithin 42 = .ok (.iload_n 2, 1) := by decide +kernel
theorem dBK_placesWithin_43 : decode cBK_placesWithin 43 = .ok (.ireturn, 1) := by decide +kernel
theorem dRW_events_0 : decode cRW_events 0 = .ok (.aload_n 0, 1) := by decide +kernel
theorem dRW_events_1 : decode cRW_events 1 = .ok (.getfield 40, 3) := by decide +kernel
theorem dRW_events_4 : decode cRW_events 4 = .ok (.getfield 152, 3) := by decide +kernel
theorem dRW_events_7 : decode cRW_events 7 = .ok (.ireturn, 1) := by decide +kernel
theorem dRW_event_0 : decode cRW_event 0 = .ok (.aload_n 0, 1) := by decide +kernel
theorem dRW_event_1 : decode cRW_event 1 = .ok (.getfield 40, 3) := by decide +kernel
theorem dRW_event_4 : decode cRW_event 4 = .ok (.iload_n 1, 1) := by decide +kernel
theorem dRW_event_5 : decode cRW_event 5 = .ok (.invokevirtual 155, 3) := by decide +kernel
theorem dRW_event_8 : decode cRW_event 8 = .ok (.ifCond .eq 15, 3) := by decide +kernel
theorem dRW_event_11 : decode cRW_event 11 = .ok (.aload_n 0, 1) := by decide +kernel
theorem dRW_event_12 : decode cRW_event 12 = .ok (.getfield 40, 3) := by decide +kernel
theorem dRW_event_15 : decode cRW_event 15 = .ok (.getfield 158, 3) := by decide +kernel
theorem dRW_event_18 : decode cRW_event 18 = .ok (.iload_n 1, 1) := by decide +kernel
theorem dRW_event_19 : decode cRW_event 19 = .ok (.iaload, 1) := by decide +kernel
theorem dRW_event_20 : decode cRW_event 20 = .ok (.goto 4, 3) := by decide +kernel
theorem dRW_event_23 : decode cRW_event 23 = .ok (.iconst (-1), 1) := by decide +kernel
theorem dRW_event_24 : decode cRW_event 24 = .ok (.ireturn, 1) := by decide +kernel
theorem dRW_before_0 : decode cRW_before 0 = .ok (.aload_n 0, 1) := by decide +kernel
theorem dRW_before_1 : decode cRW_before 1 = .ok (.getfield 40, 3) := by decide +kernel
theorem dRW_before_4 : decode cRW_before 4 = .ok (.iload_n 1, 1) := by decide +kernel
theorem dRW_before_5 : decode cRW_before 5 = .ok (.invokevirtual 155, 3) := by decide +kernel
theorem dRW_before_8 : decode cRW_before 8 = .ok (.ifCond .eq 30, 3) := by decide +kernel
theorem dRW_before_11 : decode cRW_before 11 = .ok (.aload_n 0, 1) := by decide +kernel
theorem dRW_before_12 : decode cRW_before 12 = .ok (.getfield 40, 3) := by decide +kernel
theorem dRW_before_15 : decode cRW_before 15 = .ok (.iload_n 2, 1) := by decide +kernel
theorem dRW_before_16 : decode cRW_before 16 = .ok (.invokevirtual 155, 3) := by decide +kernel
theorem dRW_before_19 : decode cRW_before 19 = .ok (.ifCond .eq 19, 3) := by decide +kernel
theorem dRW_before_22 : decode cRW_before 22 = .ok (.aload_n 0, 1) := by decide +kernel
theorem dRW_before_23 : decode cRW_before 23 = .ok (.getfield 40, 3) := by decide +kernel
theorem dRW_before_26 : decode cRW_before 26 = .ok (.iload_n 1, 1) := by decide +kernel
theorem dRW_before_27 : decode cRW_before 27 = .ok (.iload_n 2, 1) := by decide +kernel
theorem dRW_before_28 : decode cRW_before 28 = .ok (.invokevirtual 161, 3) := by decide +kernel
theorem dRW_before_31 : decode cRW_before 31 = .ok (.ifCond .eq 7, 3) := by decide +kernel
theorem dRW_before_34 : decode cRW_before 34 = .ok (.iconst 1, 1) := by decide +kernel
theorem dRW_before_35 : decode cRW_before 35 = .ok (.goto 4, 3) := by decide +kernel
theorem dRW_before_38 : decode cRW_before 38 = .ok (.iconst 0, 1) := by decide +kernel
theorem dRW_before_39 : decode cRW_before 39 = .ok (.ireturn, 1) := by decide +kernel
theorem dRW_state_0 : decode cRW_state 0 = .ok (.aload_n 0, 1) := by decide +kernel
theorem dRW_state_1 : decode cRW_state 1 = .ok (.getfield 54, 3) := by decide +kernel
theorem dRW_state_4 : decode cRW_state 4 = .ok (.ifCond .eq 10, 3) := by decide +kernel
theorem dRW_state_7 : decode cRW_state 7 = .ok (.iload_n 1, 1) := by decide +kernel
theorem dRW_state_8 : decode cRW_state 8 = .ok (.invokestatic 61, 3) := by decide +kernel
theorem dRW_state_11 : decode cRW_state 11 = .ok (.ifCond .ne 7, 3) := by decide +kernel
theorem dRW_state_14 : decode cRW_state 14 = .ok (.ldc2_w 136, 3) := by decide +kernel
theorem dRW_state_17 : decode cRW_state 17 = .ok (.lreturn, 1) := by decide +kernel
theorem dRW_state_18 : decode cRW_state 18 = .ok (.aload_n 0, 1) := by decide +kernel
theorem dRW_state_19 : decode cRW_state 19 = .ok (.getfield 17, 3) := by decide +kernel
theorem dRW_state_22 : decode cRW_state 22 = .ok (.iload_n 1, 1) := by decide +kernel
theorem dRW_state_23 : decode cRW_state 23 = .ok (.aaload, 1) := by decide +kernel
theorem dRW_state_24 : decode cRW_state 24 = .ok (.astore_n 2, 1) := by decide +kernel
theorem dRW_state_25 : decode cRW_state 25 = .ok (.aload_n 2, 1) := by decide +kernel
theorem dRW_state_26 : decode cRW_state 26 = .ok (.getfield 94, 3) := by decide +kernel
theorem dRW_state_29 : decode cRW_state 29 = .ok (.i2l, 1) := by decide +kernel
theorem dRW_state_30 : decode cRW_state 30 = .ok (.ldc2_w 138, 3) := by decide +kernel
theorem dRW_state_33 : decode cRW_state 33 = .ok (.aload_n 2, 1) := by decide +kernel
theorem dRW_state_34 : decode cRW_state 34 = .ok (.getfield 109, 3) := by decide +kernel
theorem dRW_state_37 : decode cRW_state 37 = .ok (.i2l, 1) := by decide +kernel
theorem dRW_state_38 : decode cRW_state 38 = .ok (.lmul, 1) := by decide +kernel
theorem dRW_state_39 : decode cRW_state 39 = .ok (.ladd, 1) := by decide +kernel
theorem dRW_state_40 : decode cRW_state 40 = .ok (.ldc2_w 140, 3) := by decide +kernel
theorem dRW_state_43 : decode cRW_state 43 = .ok (.aload_n 2, 1) := by decide +kernel
theorem dRW_state_44 : decode cRW_state 44 = .ok (.getfield 142, 3) := by decide +kernel
theorem dRW_state_47 : decode cRW_state 47 = .ok (.lmul, 1) := by decide +kernel
theorem dRW_state_48 : decode cRW_state 48 = .ok (.ladd, 1) := by decide +kernel
theorem dRW_state_49 : decode cRW_state 49 = .ok (.lreturn, 1) := by decide +kernel
theorem dRW_holder_0 : decode cRW_holder 0 = .ok (.iload_n 1, 1) := by decide +kernel
theorem dRW_holder_1 : decode cRW_holder 1 = .ok (.ifCond .lt 20, 3) := by decide +kernel
theorem dRW_holder_4 : decode cRW_holder 4 = .ok (.iload_n 1, 1) := by decide +kernel
theorem dRW_holder_5 : decode cRW_holder 5 = .ok (.iconst 3, 1) := by decide +kernel
theorem dRW_holder_6 : decode cRW_holder 6 = .ok (.if_icmp .ge 15, 3) := by decide +kernel
theorem dRW_holder_9 : decode cRW_holder 9 = .ok (.aload_n 0, 1) := by decide +kernel
theorem dRW_holder_10 : decode cRW_holder 10 = .ok (.getfield 25, 3) := by decide +kernel
theorem dRW_holder_13 : decode cRW_holder 13 = .ok (.iload_n 1, 1) := by decide +kernel
theorem dRW_holder_14 : decode cRW_holder 14 = .ok (.aaload, 1) := by decide +kernel
theorem dRW_holder_15 : decode cRW_holder 15 = .ok (.getfield 146, 3) := by decide +kernel
theorem dRW_holder_18 : decode cRW_holder 18 = .ok (.ifCond .ne 5, 3) := by decide +kernel
theorem dRW_holder_21 : decode cRW_holder 21 = .ok (.iconst (-1), 1) := by decide +kernel
theorem dRW_holder_22 : decode cRW_holder 22 = .ok (.ireturn, 1) := by decide +kernel
theorem dRW_holder_23 : decode cRW_holder 23 = .ok (.aload_n 0, 1) := by decide +kernel
theorem dRW_holder_24 : decode cRW_holder 24 = .ok (.getfield 25, 3) := by decide +kernel
theorem dRW_holder_27 : decode cRW_holder 27 = .ok (.iload_n 1, 1) := by decide +kernel
theorem dRW_holder_28 : decode cRW_holder 28 = .ok (.aaload, 1) := by decide +kernel
theorem dRW_holder_29 : decode cRW_holder 29 = .ok (.getfield 149, 3) := by decide +kernel
theorem dRW_holder_32 : decode cRW_holder 32 = .ok (.bipush 8, 2) := by decide +kernel
theorem dRW_holder_34 : decode cRW_holder 34 = .ok (.aload_n 0, 1) := by decide +kernel
theorem dRW_holder_35 : decode cRW_holder 35 = .ok (.getfield 25, 3) := by decide +kernel
theorem dRW_holder_38 : decode cRW_holder 38 = .ok (.iload_n 1, 1) := by decide +kernel
theorem dRW_holder_39 : decode cRW_holder 39 = .ok (.aaload, 1) := by decide +kernel
theorem dRW_holder_40 : decode cRW_holder 40 = .ok (.getfield 146, 3) := by decide +kernel
theorem dRW_holder_43 : decode cRW_holder 43 = .ok (.imul, 1) := by decide +kernel
theorem dRW_holder_44 : decode cRW_holder 44 = .ok (.iadd, 1) := by decide +kernel
theorem dRW_holder_45 : decode cRW_holder 45 = .ok (.ireturn, 1) := by decide +kernel
theorem dRW_race_0 : decode cRW_race 0 = .ok (.iload_n 1, 1) := by decide +kernel
theorem dRW_race_1 : decode cRW_race 1 = .ok (.invokestatic 164, 3) := by decide +kernel
theorem dRW_race_4 : decode cRW_race 4 = .ok (.ifCond .eq 15, 3) := by decide +kernel
theorem dRW_race_7 : decode cRW_race 7 = .ok (.aload_n 0, 1) := by decide +kernel
theorem dRW_race_8 : decode cRW_race 8 = .ok (.invokevirtual 167, 3) := by decide +kernel
theorem dRW_race_11 : decode cRW_race 11 = .ok (.getfield 171, 3) := by decide +kernel
theorem dRW_race_14 : decode cRW_race 14 = .ok (.iload_n 1, 1) := by decide +kernel
theorem dRW_race_15 : decode cRW_race 15 = .ok (.iaload, 1) := by decide +kernel
theorem dRW_race_16 : decode cRW_race 16 = .ok (.goto 4, 3) := by decide +kernel
theorem dRW_race_19 : decode cRW_race 19 = .ok (.iconst (-1), 1) := by decide +kernel
theorem dRW_race_20 : decode cRW_race 20 = .ok (.ireturn, 1) := by decide +kernel
theorem dRW_partner_0 : decode cRW_partner 0 = .ok (.iload_n 1, 1) := by decide +kernel
theorem dRW_partner_1 : decode cRW_partner 1 = .ok (.invokestatic 164, 3) := by decide +kernel
theorem dRW_partner_4 : decode cRW_partner 4 = .ok (.ifCond .eq 15, 3) := by decide +kernel
theorem dRW_partner_7 : decode cRW_partner 7 = .ok (.aload_n 0, 1) := by decide +kernel
theorem dRW_partner_8 : decode cRW_partner 8 = .ok (.invokevirtual 167, 3) := by decide +kernel
theorem dRW_partner_11 : decode cRW_partner 11 = .ok (.getfield 174, 3) := by decide +kernel
theorem dRW_partner_14 : decode cRW_partner 14 = .ok (.iload_n 1, 1) := by decide +kernel
theorem dRW_partner_15 : decode cRW_partner 15 = .ok (.iaload, 1) := by decide +kernel
theorem dRW_partner_16 : decode cRW_partner 16 = .ok (.goto 4, 3) := by decide +kernel
theorem dRW_partner_19 : decode cRW_partner 19 = .ok (.iconst (-1), 1) := by decide +kernel
theorem dRW_partner_20 : decode cRW_partner 20 = .ok (.ireturn, 1) := by decide +kernel
theorem dRW_races_0 : decode cRW_races 0 = .ok (.aload_n 0, 1) := by decide +kernel
theorem dRW_races_1 : decode cRW_races 1 = .ok (.invokevirtual 167, 3) := by decide +kernel
theorem dRW_races_4 : decode cRW_races 4 = .ok (.aload_n 0, 1) := by decide +kernel
theorem dRW_races_5 : decode cRW_races 5 = .ok (.getfield 40, 3) := by decide +kernel
theorem dRW_races_8 : decode cRW_races 8 = .ok (.getfield 152, 3) := by decide +kernel
theorem dRW_races_11 : decode cRW_races 11 = .ok (.invokevirtual 177, 3) := by decide +kernel
theorem dRW_races_14 : decode cRW_races 14 = .ok (.invokestatic 181, 3) := by decide +kernel
theorem dRW_races_17 : decode cRW_races 17 = .ok (.ireturn, 1) := by decide +kernel
set_option maxHeartbeats 4000000 in
set_option maxRecDepth 100000 in
theorem c_RW_bookOf (l : Launch) (D : va_G) (tc : Nat → ClassId) (ad : Nat → Nat) (E : Nat → va_E) (st cs c1 : Int32) (hR : isRW tc ad E st cs) : Ct l D tc yRW_bookOf 0 66 ad E [.ref (ad 0), .int c1] (fun o E2 => o = .returned (some (.ref (if c1 = 0 then ad 56 else ad 61))) ∧ E2 = E) := by
  refine Ct.ofW (cc := cRW_bookOf) (maxL := 2) (ret := (some (.object "RaceWatch$RaceBook"))) (own := R_RW) (by decide) rfl w_246 (Nat.le_of_ble_eq_true rfl) ?_
  intro p e s m args below meth c ls X hlk hr hD hP hS hl
  have hx := X.1
  have hb := X.2.1
  have hl : lv_has ls 2 [(0, .ref (ad 0)), (1, .int c1)] := hl
  obtain ⟨rh0, ⟨ra1, rh1, rx1⟩, ⟨ra2, rh2, rx2⟩, ⟨ra3, rh3, rx3⟩, ⟨ra4, rh4, rx4⟩⟩ := hR
  refine lv_iload_n hx hb dRW_bookOf_0 rfl (lv_at hl 1 rfl) ?_
  refine lv_if_eq (tgt := 11) hx hb dRW_bookOf_1 rfl (fun h1 => ?_) (fun h1 => ?_)
  · refine lv_aload_n hx hb dRW_bookOf_11 rfl (lv_at hl 0 rfl) ?_
    refine g_RW_47 X hP (by omega) (rh0) rfl dRW_bookOf_12 ?_
    exact q_aret X hlk hr hP hS dRW_bookOf_15 (⟨by rw [if_pos h1], rfl⟩)
  · refine lv_aload_n hx hb dRW_bookOf_4 rfl (lv_at hl 0 rfl) ?_
    refine g_RW_51 X hP (by omega) (rh0) rfl dRW_bookOf_5 ?_
    refine lv_goto (tgt := 15) hx hb dRW_bookOf_8 rfl ?_
    exact q_aret X hlk hr hP hS dRW_bookOf_15 (⟨by rw [if_neg h1], rfl⟩)
set_option maxHeartbeats 4000000 in
set_option maxRecDepth 100000 in
theorem c_RW_ownBook (l : Launch) (D : va_G) (tc : Nat → ClassId) (ad : Nat → Nat) (E : Nat → va_E) (st cs : Int32) (hR : isRW tc ad E st cs) : Ct l D tc yRW_ownBook 1 66 ad E [.ref (ad 0)] (fun o E2 => o = .returned (some (.ref (if cs = 0 then ad 56 else ad 61))) ∧ E2 = E) := by
  refine Ct.ofW (cc := cRW_ownBook) (maxL := 1) (ret := (some (.object "RaceWatch$RaceBook"))) (own := R_RW) (by decide) rfl w_242 (Nat.le_of_ble_eq_true rfl) ?_
  intro p e s m args below meth c ls X hlk hr hD hP hS hl
  have hx := X.1
  have hb := X.2.1
  have hl : lv_has ls 1 [(0, .ref (ad 0))] := hl
  have hR0 := hR
  obtain ⟨rh0, ⟨ra1, rh1, rx1⟩, ⟨ra2, rh2, rx2⟩, ⟨ra3, rh3, rx3⟩, ⟨ra4, rh4, rx4⟩⟩ := hR
  refine lv_aload_n hx hb dRW_ownBook_0 rfl (lv_at hl 0 rfl) ?_
  refine lv_aload_n hx hb dRW_ownBook_1 rfl (lv_at hl 0 rfl) ?_
  refine g_RW_58 X hP (by omega) (rh0) rfl dRW_ownBook_2 ?_
  refine x_rE (v := if cs = 0 then ad 56 else ad 61) (f := fun k => 0 + k) (x_runV (C := R_RW) (As := [.int cs]) (rest := []) X (c_RW_bookOf l D tc (fun k => ad (0 + k)) (fun k => E (0 + k)) st cs cs (by simpa only [Nat.zero_add] using hR0)) rfl rfl (by decide) (by decide) w_246 w_1 w_243 w_245 sel_RW_bookOf ry_RW_bookOf (x_recv X hP (by omega) (rh0) rfl) (ct_pre X hP hD (fr_lt 66 66 0 (by omega)) (fr_inj 66 0)) ct_blind hl.1 (Nat.le_of_ble_eq_true rfl) dRW_ownBook_5 ⟨Nat.zero_le _, Nat.zero_le _⟩) hD hP hS (fr_lt 66 66 0 (by omega)) (fr_inj 66 0) (fun H locs hD hP hS => ?_)
  exact q_aret X hlk hr hP hS dRW_ownBook_8 (⟨rfl, rfl⟩)
set_option maxHeartbeats 4000000 in
set_option maxRecDepth 100000 in
theorem c_IN_bitCount (l : Launch) (D : va_G) (tc : Nat → ClassId) (ad : Nat → Nat) (E : Nat → va_E) (x : Int32)  : Ct l D tc yIN_bitCount 0 0 ad E [.int x] (fun o E2 => ∃ r : Int32, o = .returned (some (.int r)) ∧ E2 = E ∧ (x = 0 → r = 0)) := by
  refine Ct.ofW (cc := cIN_bitCount) (maxL := 1) (ret := (some .int)) (own := R_IN) (by decide) rfl w_261 (Nat.le_of_ble_eq_true rfl) ?_
  intro p e s m args below meth c ls X hlk hr hD hP hS hl
  have hx := X.1
  have hb := X.2.1
  have hl : lv_has ls 1 [(0, .int x)] := hl
  refine lv_iload_n hx hb dIN_bitCount_0 rfl (lv_at hl 0 rfl) ?_
  refine lv_iload_n hx hb dIN_bitCount_1 rfl (lv_at hl 0 rfl) ?_
  refine lv_iconst (v := 1) hx hb dIN_bitCount_2 (by decide) ?_
  refine lv_iushr hx hb dIN_bitCount_3 rfl ?_
  refine lv_ldcw (v := 1431655765) hx hb X.2.2.2.1 (X.2.2.2.2.1 _ w_262) dIN_bitCount_4 ?_
  refine lv_iand hx hb dIN_bitCount_7 ?_
  refine lv_isub hx hb dIN_bitCount_8 ?_
  refine lv_istore_n hx hb dIN_bitCount_9 rfl hl (by decide) rfl (fun ls hl => ?_)
  have hl : lv_has ls 1 [(0, .int (x - (((x.toUInt32 >>> ((1 : Int32).toUInt32 &&& Int32.toUInt32 31)).toInt32) &&& 1431655765)))] := hl
  refine lv_iload_n hx hb dIN_bitCount_10 rfl (lv_at hl 0 rfl) ?_
  refine lv_ldcw (v := 858993459) hx hb X.2.2.2.1 (X.2.2.2.2.1 _ w_263) dIN_bitCount_11 ?_
  refine lv_iand hx hb dIN_bitCount_14 ?_
  refine lv_iload_n hx hb dIN_bitCount_15 rfl (lv_at hl 0 rfl) ?_
  refine lv_iconst (v := 2) hx hb dIN_bitCount_16 (by decide) ?_
  refine lv_iushr hx hb dIN_bitCount_17 rfl ?_
  refine lv_ldcw (v := 858993459) hx hb X.2.2.2.1 (X.2.2.2.2.1 _ w_263) dIN_bitCount_18 ?_
  refine lv_iand hx hb dIN_bitCount_21 ?_
  refine lv_iadd hx hb dIN_bitCount_22 ?_
  refine lv_istore_n hx hb dIN_bitCount_23 rfl hl (by decide) rfl (fun ls hl => ?_)
  have hl : lv_has ls 1 [(0, .int (((x - (((x.toUInt32 >>> ((1 : Int32).toUInt32 &&& Int32.toUInt32 31)).toInt32) &&& 1431655765)) &&& 858993459) + ((((x - (((x.toUInt32 >>> ((1 : Int32).toUInt32 &&& Int32.toUInt32 31)).toInt32) &&& 1431655765)).toUInt32 >>> ((2 : Int32).toUInt32 &&& Int32.toUInt32 31)).toInt32) &&& 858993459)))] := hl
  refine lv_iload_n hx hb dIN_bitCount_24 rfl (lv_at hl 0 rfl) ?_
  refine lv_iload_n hx hb dIN_bitCount_25 rfl (lv_at hl 0 rfl) ?_
  refine lv_iconst (v := 4) hx hb dIN_bitCount_26 (by decide) ?_
  refine lv_iushr hx hb dIN_bitCount_27 rfl ?_
  refine lv_iadd hx hb dIN_bitCount_28 ?_
  refine lv_ldcw (v := 252645135) hx hb X.2.2.2.1 (X.2.2.2.2.1 _ w_264) dIN_bitCount_29 ?_
  refine lv_iand hx hb dIN_bitCount_32 ?_
  refine lv_istore_n hx hb dIN_bitCount_33 rfl hl (by decide) rfl (fun ls hl => ?_)
  have hl : lv_has ls 1 [(0, .int (((((x - (((x.toUInt32 >>> ((1 : Int32).toUInt32 &&& Int32.toUInt32 31)).toInt32) &&& 1431655765)) &&& 858993459) + ((((x - (((x.toUInt32 >>> ((1 : Int32).toUInt32 &&& Int32.toUInt32 31)).toInt32) &&& 1431655765)).toUInt32 >>> ((2 : Int32).toUInt32 &&& Int32.toUInt32 31)).toInt32) &&& 858993459)) + (((((x - (((x.toUInt32 >>> ((1 : Int32).toUInt32 &&& Int32.toUInt32 31)).toInt32) &&& 1431655765)) &&& 858993459) + ((((x - (((x.toUInt32 >>> ((1 : Int32).toUInt32 &&& Int32.toUInt32 31)).toInt32) &&& 1431655765)).toUInt32 >>> ((2 : Int32).toUInt32 &&& Int32.toUInt32 31)).toInt32) &&& 858993459)).toUInt32 >>> ((4 : Int32).toUInt32 &&& Int32.toUInt32 31)).toInt32)) &&& 252645135))] := hl
  refine lv_iload_n hx hb dIN_bitCount_34 rfl (lv_at hl 0 rfl) ?_
  refine lv_iload_n hx hb dIN_bitCount_35 rfl (lv_at hl 0 rfl) ?_
  refine lv_bipush (v := 8) hx hb dIN_bitCount_36 (by decide) ?_
  refine lv_iushr hx hb dIN_bitCount_38 rfl ?_
  refine lv_iadd hx hb dIN_bitCount_39 ?_
  refine lv_istore_n hx hb dIN_bitCount_40 rfl hl (by decide) rfl (fun ls hl => ?_)
  have hl : lv_has ls 1 [(0, .int ((((((x - (((x.toUInt32 >>> ((1 : Int32).toUInt32 &&& Int32.toUInt32 31)).toInt32) &&& 1431655765)) &&& 858993459) + ((((x - (((x.toUInt32 >>> ((1 : Int32).toUInt32 &&& Int32.toUInt32 31)).toInt32) &&& 1431655765)).toUInt32 >>> ((2 : Int32).toUInt32 &&& Int32.toUInt32 31)).toInt32) &&& 858993459)) + (((((x - (((x.toUInt32 >>> ((1 : Int32).toUInt32 &&& Int32.toUInt32 31)).toInt32) &&& 1431655765)) &&& 858993459) + ((((x - (((x.toUInt32 >>> ((1 : Int32).toUInt32 &&& Int32.toUInt32 31)).toInt32) &&& 1431655765)).toUInt32 >>> ((2 : Int32).toUInt32 &&& Int32.toUInt32 31)).toInt32) &&& 858993459)).toUInt32 >>> ((4 : Int32).toUInt32 &&& Int32.toUInt32 31)).toInt32)) &&& 252645135) + (((((((x - (((x.toUInt32 >>> ((1 : Int32).toUInt32 &&& Int32.toUInt32 31)).toInt32) &&& 1431655765)) &&& 858993459) + ((((x - (((x.toUInt32 >>> ((1 : Int32).toUInt32 &&& Int32.toUInt32 31)).toInt32) &&& 1431655765)).toUInt32 >>> ((2 : Int32).toUInt32 &&& Int32.toUInt32 31)).toInt32) &&& 858993459)) + (((((x - (((x.toUInt32 >>> ((1 : Int32).toUInt32 &&& Int32.toUInt32 31)).toInt32) &&& 1431655765)) &&& 858993459) + ((((x - (((x.toUInt32 >>> ((1 : Int32).toUInt32 &&& Int32.toUInt32 31)).toInt32) &&& 1431655765)).toUInt32 >>> ((2 : Int32).toUInt32 &&& Int32.toUInt32 31)).toInt32) &&& 858993459)).toUInt32 >>> ((4 : Int32).toUInt32 &&& Int32.toUInt32 31)).toInt32)) &&& 252645135).toUInt32 >>> ((8 : Int32).toUInt32 &&& Int32.toUInt32 31)).toInt32)))] := hl
  refine lv_iload_n hx hb dIN_bitCount_41 rfl (lv_at hl 0 rfl) ?_
  refine lv_iload_n hx hb dIN_bitCount_42 rfl (lv_at hl 0 rfl) ?_
  refine lv_bipush (v := 16) hx hb dIN_bitCount_43 (by decide) ?_
  refine lv_iushr hx hb dIN_bitCount_45 rfl ?_
  refine lv_iadd hx hb dIN_bitCount_46 ?_
  refine lv_istore_n hx hb dIN_bitCount_47 rfl hl (by decide) rfl (fun ls hl => ?_)
  have hl : lv_has ls 1 [(0, .int (((((((x - (((x.toUInt32 >>> ((1 : Int32).toUInt32 &&& Int32.toUInt32 31)).toInt32) &&& 1431655765)) &&& 858993459) + ((((x - (((x.toUInt32 >>> ((1 : Int32).toUInt32 &&& Int32.toUInt32 31)).toInt32) &&& 1431655765)).toUInt32 >>> ((2 : Int32).toUInt32 &&& Int32.toUInt32 31)).toInt32) &&& 858993459)) + (((((x - (((x.toUInt32 >>> ((1 : Int32).toUInt32 &&& Int32.toUInt32 31)).toInt32) &&& 1431655765)) &&& 858993459) + ((((x - (((x.toUInt32 >>> ((1 : Int32).toUInt32 &&& Int32.toUInt32 31)).toInt32) &&& 1431655765)).toUInt32 >>> ((2 : Int32).toUInt32 &&& Int32.toUInt32 31)).toInt32) &&& 858993459)).toUInt32 >>> ((4 : Int32).toUInt32 &&& Int32.toUInt32 31)).toInt32)) &&& 252645135) + (((((((x - (((x.toUInt32 >>> ((1 : Int32).toUInt32 &&& Int32.toUInt32 31)).toInt32) &&& 1431655765)) &&& 858993459) + ((((x - (((x.toUInt32 >>> ((1 : Int32).toUInt32 &&& Int32.toUInt32 31)).toInt32) &&& 1431655765)).toUInt32 >>> ((2 : Int32).toUInt32 &&& Int32.toUInt32 31)).toInt32) &&& 858993459)) + (((((x - (((x.toUInt32 >>> ((1 : Int32).toUInt32 &&& Int32.toUInt32 31)).toInt32) &&& 1431655765)) &&& 858993459) + ((((x - (((x.toUInt32 >>> ((1 : Int32).toUInt32 &&& Int32.toUInt32 31)).toInt32) &&& 1431655765)).toUInt32 >>> ((2 : Int32).toUInt32 &&& Int32.toUInt32 31)).toInt32) &&& 858993459)).toUInt32 >>> ((4 : Int32).toUInt32 &&& Int32.toUInt32 31)).toInt32)) &&& 252645135).toUInt32 >>> ((8 : Int32).toUInt32 &&& Int32.toUInt32 31)).toInt32)) + ((((((((x - (((x.toUInt32 >>> ((1 : Int32).toUInt32 &&& Int32.toUInt32 31)).toInt32) &&& 1431655765)) &&& 858993459) + ((((x - (((x.toUInt32 >>> ((1 : Int32).toUInt32 &&& Int32.toUInt32 31)).toInt32) &&& 1431655765)).toUInt32 >>> ((2 : Int32).toUInt32 &&& Int32.toUInt32 31)).toInt32) &&& 858993459)) + (((((x - (((x.toUInt32 >>> ((1 : Int32).toUInt32 &&& Int32.toUInt32 31)).toInt32) &&& 1431655765)) &&& 858993459) + ((((x - (((x.toUInt32 >>> ((1 : Int32).toUInt32 &&& Int32.toUInt32 31)).toInt32) &&& 1431655765)).toUInt32 >>> ((2 : Int32).toUInt32 &&& Int32.toUInt32 31)).toInt32) &&& 858993459)).toUInt32 >>> ((4 : Int32).toUInt32 &&& Int32.toUInt32 31)).toInt32)) &&& 252645135) + (((((((x - (((x.toUInt32 >>> ((1 : Int32).toUInt32 &&& Int32.toUInt32 31)).toInt32) &&& 1431655765)) &&& 858993459) + ((((x - (((x.toUInt32 >>> ((1 : Int32).toUInt32 &&& Int32.toUInt32 31)).toInt32) &&& 1431655765)).toUInt32 >>> ((2 : Int32).toUInt32 &&& Int32.toUInt32 31)).toInt32) &&& 858993459)) + (((((x - (((x.toUInt32 >>> ((1 : Int32).toUInt32 &&& Int32.toUInt32 31)).toInt32) &&& 1431655765)) &&& 858993459) + ((((x - (((x.toUInt32 >>> ((1 : Int32).toUInt32 &&& Int32.toUInt32 31)).toInt32) &&& 1431655765)).toUInt32 >>> ((2 : Int32).toUInt32 &&& Int32.toUInt32 31)).toInt32) &&& 858993459)).toUInt32 >>> ((4 : Int32).toUInt32 &&& Int32.toUInt32 31)).toInt32)) &&& 252645135).toUInt32 >>> ((8 : Int32).toUInt32 &&& Int32.toUInt32 31)).toInt32)).toUInt32 >>> ((16 : Int32).toUInt32 &&& Int32.toUInt32 31)).toInt32)))] := hl
  refine lv_iload_n hx hb dIN_bitCount_48 rfl (lv_at hl 0 rfl) ?_
  refine lv_bipush (v := 63) hx hb dIN_bitCount_49 (by decide) ?_
  refine lv_iand hx hb dIN_bitCount_51 ?_
  exact q_iret X hlk hr hP hS dIN_bitCount_52 (⟨_, rfl, rfl, fun h => by subst h; decide⟩)
set_option maxHeartbeats 4000000 in
set_option maxRecDepth 100000 in
theorem c_BK_placesWithin (l : Launch) (D : va_G) (tc : Nat → ClassId) (ad : Nat → Nat) (E : Nat → va_E) (fr : Nat → Int32) (r2 r3 r4 : Value) (k : Int32) (h0 : E 0 = .inr (3, [.ref (ad 1), r2, r3, r4])) (h1 : E 1 = .inl (tc 0, 8, .inl fr)) : Ct l D tc yBK_placesWithin 0 5 ad E [.ref (ad 0), .int k] (fun o E2 => ∃ r : Int32, o = .returned (some (.int r)) ∧ E2 = E ∧ ((∀ j, j < 8 → fr j = -1) → r = 0)) := by
  refine Ct.ofW (cc := cBK_placesWithin) (maxL := 4) (ret := (some .int)) (own := R_BK) (by decide) rfl w_258 (Nat.le_of_ble_eq_true rfl) ?_
  intro p e s m args below meth c ls X hlk hr hD hP hS hl
  have hx := X.1
  have hb := X.2.1
  have hl : lv_has ls 4 [(0, .ref (ad 0)), (1, .int k)] := hl
  refine lv_iconst (v := 0) hx hb dBK_placesWithin_0 (by decide) ?_
  refine lv_istore_n hx hb dBK_placesWithin_1 rfl hl (by decide) rfl (fun ls hl => ?_)
  have hl : lv_has ls 4 [(2, .int 0), (0, .ref (ad 0)), (1, .int k)] := hl
  refine lv_iconst (v := 0) hx hb dBK_placesWithin_2 (by decide) ?_
  refine lv_istore_n hx hb dBK_placesWithin_3 rfl hl (by decide) rfl (fun ls hl => ?_)
  have hl : lv_has ls 4 [(3, .int 0), (2, .int 0), (0, .ref (ad 0)), (1, .int k)] := hl
  have loop : ∀ (r i : Nat) (sm : Int32) (H : Heap) (locs : List Loc) (ls : Array Slot), i + r = 8 → ((∀ j, j < 8 → fr j = -1) → sm = 0) → va_D (Aw 5 ad) (wW 5 ad E) → va_P D vwCl (wW 5 ad E) H → va_S (Aw 5 ad) s.heap H locs → lv_has ls 4 [(3, .int (nI i)), (2, .int sm), (0, .ref (ad 0)), (1, .int k)] → W p l e (rmD 0) s m args below meth c H locs 0 0 (XQ below (CtQ D 5 ad (fun o E2 => ∃ r : Int32, o = .returned (some (.int r)) ∧ E2 = E ∧ ((∀ j, j < 8 → fr j = -1) → r = 0))) args s 0 0 (Aw 5 ad)) (F0 m 4 ls []) := by
    intro r
    induction r with
    | zero =>
      intro i sm H locs ls hi hsm hD hP hS hl
      refine lv_iload_n hx hb dBK_placesWithin_4 rfl (lv_at hl 0 rfl) ?_
      refine lv_bipush (v := 8) hx hb dBK_placesWithin_5 (by decide) ?_
      refine lv_icmp_ge (tgt := 42) hx hb dBK_placesWithin_7 rfl (fun h7 => ?_) (fun h7 => absurd (nI_le (a := 8) (b := i) (by omega) (by omega)) h7)
      refine lv_iload_n hx hb dBK_placesWithin_42 rfl (lv_at hl 1 rfl) ?_
      exact q_iret X hlk hr hP hS dBK_placesWithin_43 (⟨_, rfl, rfl, hsm⟩)
    | succ r ih =>
      intro i sm H locs ls hi hsm hD hP hS hl
      refine lv_iload_n hx hb dBK_placesWithin_4 rfl (lv_at hl 0 rfl) ?_
      refine lv_bipush (v := 8) hx hb dBK_placesWithin_5 (by decide) ?_
      refine lv_icmp_ge (tgt := 42) hx hb dBK_placesWithin_7 rfl (fun h7 => absurd h7 (nI_ge (a := i) (b := 8) (by omega) (by omega))) (fun h7 => ?_)
      refine lv_aload_n hx hb dBK_placesWithin_10 rfl (lv_at hl 2 rfl) ?_
      refine g_BK_9 X hP (by omega) (h0) rfl dBK_placesWithin_11 ?_
      refine lv_iload_n hx hb dBK_placesWithin_14 rfl (lv_at hl 0 rfl) ?_
      refine q_iald i X hP (by omega) (h1) (rfl) (by omega) (by decide) dBK_placesWithin_15 ?_
      refine lv_iconst (v := (-1)) hx hb dBK_placesWithin_16 (by decide) ?_
      refine lv_icmp_eq (tgt := 36) hx hb dBK_placesWithin_17 rfl (fun h17 => ?_) (fun h17 => ?_)
      · refine lv_iinc (k := 0) (v := nI (i + 1)) hx hb dBK_placesWithin_36 hl rfl (nI_1 i) (by decide) rfl (fun ls hl => ?_)
        have hl : lv_has ls 4 [(3, .int (nI (i + 1))), (2, .int sm), (0, .ref (ad 0)), (1, .int k)] := hl
        refine lv_goto (tgt := 4) hx hb dBK_placesWithin_39 rfl ?_
        exact ih (i + 1) sm _ _ _ (by omega) (hsm) hD hP hS hl
      · refine lv_aload_n hx hb dBK_placesWithin_20 rfl (lv_at hl 2 rfl) ?_
        refine g_BK_9 X hP (by omega) (h0) rfl dBK_placesWithin_21 ?_
        refine lv_iload_n hx hb dBK_placesWithin_24 rfl (lv_at hl 0 rfl) ?_
        refine q_iald i X hP (by omega) (h1) (rfl) (by omega) (by decide) dBK_placesWithin_25 ?_
        refine lv_iload_n hx hb dBK_placesWithin_26 rfl (lv_at hl 3 rfl) ?_
        refine lv_icmp_ge (tgt := 36) hx hb dBK_placesWithin_27 rfl (fun h27 => ?_) (fun h27 => ?_)
        · refine lv_iinc (k := 0) (v := nI (i + 1)) hx hb dBK_placesWithin_36 hl rfl (nI_1 i) (by decide) rfl (fun ls hl => ?_)
          have hl : lv_has ls 4 [(3, .int (nI (i + 1))), (2, .int sm), (0, .ref (ad 0)), (1, .int k)] := hl
          refine lv_goto (tgt := 4) hx hb dBK_placesWithin_39 rfl ?_
          exact ih (i + 1) sm _ _ _ (by omega) (hsm) hD hP hS hl
        · refine lv_iload_n hx hb dBK_placesWithin_30 rfl (lv_at hl 1 rfl) ?_
          refine lv_iconst (v := 1) hx hb dBK_placesWithin_31 (by decide) ?_
          refine lv_iload_n hx hb dBK_placesWithin_32 rfl (lv_at hl 0 rfl) ?_
          refine lv_ishl hx hb dBK_placesWithin_33 ?_
          refine lv_iadd hx hb dBK_placesWithin_34 ?_
          refine lv_istore_n hx hb dBK_placesWithin_35 rfl hl (by decide) rfl (fun ls hl => ?_)
          have hl : lv_has ls 4 [(2, .int (sm + (1 <<< ((nI i) &&& 31)))), (3, .int (nI i)), (0, .ref (ad 0)), (1, .int k)] := hl
          refine lv_iinc (k := 1) (v := nI (i + 1)) hx hb dBK_placesWithin_36 hl rfl (nI_1 i) (by decide) rfl (fun ls hl => ?_)
          have hl : lv_has ls 4 [(3, .int (nI (i + 1))), (2, .int (sm + (1 <<< ((nI i) &&& 31)))), (0, .ref (ad 0)), (1, .int k)] := hl
          refine lv_goto (tgt := 4) hx hb dBK_placesWithin_39 rfl ?_
          exact ih (i + 1) (sm + (1 <<< ((nI i) &&& 31))) _ _ _ (by omega) (fun q => absurd (q i (by omega)) h17) hD hP hS hl
  exact loop 8 0 0 _ _ _ (by omega) (fun _ => rfl) hD hP hS hl
set_option maxHeartbeats 4000000 in
set_option maxRecDepth 100000 in
theorem c_RW_events (l : Launch) (D : va_G) (tc : Nat → ClassId) (ad : Nat → Nat) (E : Nat → va_E)  (hF : RWf tc ad E) : Ct l D tc yRW_events 0 66 ad E [.ref (ad 0)] (fun o E2 => o = .returned (some (.int 0)) ∧ E2 = E) := by
  refine Ct.ofW (cc := cRW_events) (maxL := 1) (ret := (some .int)) (own := R_RW) (by decide) rfl w_214 (Nat.le_of_ble_eq_true rfl) ?_
  intro p e s m args below meth c ls X hlk hr hD hP hS hl
  have hx := X.1
  have hb := X.2.1
  have hl : lv_has ls 1 [(0, .ref (ad 0))] := hl
  have hF0 := hF
  obtain ⟨hR, hpg, hwk, hlo3, hck, ⟨fc, fk, tt0, tt1, tt2⟩, ⟨fr, fp, fw, fd, ⟨b0, b1, b2, b3, b4⟩, hfr, hfp, hfw, hfd⟩, ⟨cr, cp, cw, cd, ⟨c0, c1, c2, c3, c4⟩, hcr, hcp, hcw, hcd⟩⟩ := hF
  have hR0 := hR
  obtain ⟨rh0, ⟨ra1, rh1, rx1⟩, ⟨ra2, rh2, rx2⟩, ⟨ra3, rh3, rx3⟩, ⟨ra4, rh4, rx4⟩⟩ := hR
  refine lv_aload_n hx hb dRW_events_0 rfl (lv_at hl 0 rfl) ?_
  refine g_RW_40 X hP (by omega) (rh0) rfl dRW_events_1 ?_
  refine g_RW_152 X hP (by omega) (tt0) rfl dRW_events_4 ?_
  exact q_iret X hlk hr hP hS dRW_events_7 (⟨rfl, rfl⟩)
set_option maxHeartbeats 4000000 in
set_option maxRecDepth 100000 in
theorem c_RW_event (l : Launch) (D : va_G) (tc : Nat → ClassId) (ad : Nat → Nat) (E : Nat → va_E) (k : Int32) (hF : RWf tc ad E) : Ct l D tc yRW_event 1 66 ad E [.ref (ad 0), .int k] (fun o E2 => o = .returned (some (.int (-1))) ∧ E2 = E) := by
  refine Ct.ofW (cc := cRW_event) (maxL := 2) (ret := (some .int)) (own := R_RW) (by decide) rfl w_218 (Nat.le_of_ble_eq_true rfl) ?_
  intro p e s m args below meth c ls X hlk hr hD hP hS hl
  have hx := X.1
  have hb := X.2.1
  have hl : lv_has ls 2 [(0, .ref (ad 0)), (1, .int k)] := hl
  have hF0 := hF
  obtain ⟨hR, hpg, hwk, hlo3, hck, ⟨fc, fk, tt0, tt1, tt2⟩, ⟨fr, fp, fw, fd, ⟨b0, b1, b2, b3, b4⟩, hfr, hfp, hfw, hfd⟩, ⟨cr, cp, cw, cd, ⟨c0, c1, c2, c3, c4⟩, hcr, hcp, hcw, hcd⟩⟩ := hF
  have hR0 := hR
  obtain ⟨rh0, ⟨ra1, rh1, rx1⟩, ⟨ra2, rh2, rx2⟩, ⟨ra3, rh3, rx3⟩, ⟨ra4, rh4, rx4⟩⟩ := hR
  refine lv_aload_n hx hb dRW_event_0 rfl (lv_at hl 0 rfl) ?_
  refine g_RW_40 X hP (by omega) (rh0) rfl dRW_event_1 ?_
  refine lv_iload_n hx hb dRW_event_4 rfl (lv_at hl 1 rfl) ?_
  refine x_iE (f := fun k => 53 + k) (x_runVN (C := R_TR) (As := [.int k]) (rest := []) X (c_TR_has l D tc (fun k => ad (53 + k)) (fun k => E (53 + k)) 0 _ _ k tt0 (by decide)) rfl rfl (by decide) (by decide) w_222 w_6 w_219 w_221 sel_TR_has ry_TR_has (x_recv X hP (by omega) (tt0) rfl) (ct_pre X hP hD (fr_lt 3 66 53 (by omega)) (fr_inj 3 53)) ct_blind hl.1 (Nat.le_of_ble_eq_true rfl) dRW_event_5 ⟨Nat.zero_le _, Nat.zero_le _⟩) hD hP hS (fr_lt 3 66 53 (by omega)) (fr_inj 3 53) (fun H locs hD hP hS => ?_)
  refine lv_if_eq (tgt := 23) hx hb dRW_event_8 rfl (fun h8 => ?_) (fun h8 => absurd (by rw [wi_0]; rfl) h8)
  refine lv_iconst (v := (-1)) hx hb dRW_event_23 (by decide) ?_
  exact q_iret X hlk hr hP hS dRW_event_24 (⟨rfl, rfl⟩)
set_option maxHeartbeats 4000000 in
set_option maxRecDepth 100000 in
theorem c_RW_before (l : Launch) (D : va_G) (tc : Nat → ClassId) (ad : Nat → Nat) (E : Nat → va_E) (i j : Int32) (hF : RWf tc ad E) : Ct l D tc yRW_before 1 66 ad E [.ref (ad 0), .int i, .int j] (fun o E2 => o = .returned (some (.int 0)) ∧ E2 = E) := by
  refine Ct.ofW (cc := cRW_before) (maxL := 3) (ret := (some .boolean)) (own := R_RW) (by decide) rfl w_226 (Nat.le_of_ble_eq_true rfl) ?_
  intro p e s m args below meth c ls X hlk hr hD hP hS hl
  have hx := X.1
  have hb := X.2.1
  have hl : lv_has ls 3 [(0, .ref (ad 0)), (1, .int i), (2, .int j)] := hl
  have hF0 := hF
  obtain ⟨hR, hpg, hwk, hlo3, hck, ⟨fc, fk, tt0, tt1, tt2⟩, ⟨fr, fp, fw, fd, ⟨b0, b1, b2, b3, b4⟩, hfr, hfp, hfw, hfd⟩, ⟨cr, cp, cw, cd, ⟨c0, c1, c2, c3, c4⟩, hcr, hcp, hcw, hcd⟩⟩ := hF
  have hR0 := hR
  obtain ⟨rh0, ⟨ra1, rh1, rx1⟩, ⟨ra2, rh2, rx2⟩, ⟨ra3, rh3, rx3⟩, ⟨ra4, rh4, rx4⟩⟩ := hR
  refine lv_aload_n hx hb dRW_before_0 rfl (lv_at hl 0 rfl) ?_
  refine g_RW_40 X hP (by omega) (rh0) rfl dRW_before_1 ?_
  refine lv_iload_n hx hb dRW_before_4 rfl (lv_at hl 1 rfl) ?_
  refine x_iE (f := fun k => 53 + k) (x_runVN (C := R_TR) (As := [.int i]) (rest := []) X (c_TR_has l D tc (fun k => ad (53 + k)) (fun k => E (53 + k)) 0 _ _ i tt0 (by decide)) rfl rfl (by decide) (by decide) w_222 w_6 w_219 w_221 sel_TR_has ry_TR_has (x_recv X hP (by omega) (tt0) rfl) (ct_pre X hP hD (fr_lt 3 66 53 (by omega)) (fr_inj 3 53)) ct_blind hl.1 (Nat.le_of_ble_eq_true rfl) dRW_before_5 ⟨Nat.zero_le _, Nat.zero_le _⟩) hD hP hS (fr_lt 3 66 53 (by omega)) (fr_inj 3 53) (fun H locs hD hP hS => ?_)
  refine lv_if_eq (tgt := 38) hx hb dRW_before_8 rfl (fun h8 => ?_) (fun h8 => absurd (by rw [wi_0]; rfl) h8)
  refine lv_iconst (v := 0) hx hb dRW_before_38 (by decide) ?_
  exact q_zret X hlk hr (by decide) hP hS dRW_before_39 (⟨rfl, rfl⟩)
set_option maxHeartbeats 4000000 in
set_option maxRecDepth 100000 in
theorem c_RW_state (l : Launch) (D : va_G) (tc : Nat → ClassId) (ad : Nat → Nat) (E : Nat → va_E) (t : Int32) (hF : RWf tc ad E) : Ct l D tc yRW_state 1 66 ad E [.ref (ad 0), .int t] (fun o E2 => o = .returned (some (.long (-1))) ∧ E2 = E) := by
  refine Ct.ofW (cc := cRW_state) (maxL := 3) (ret := (some .long)) (own := R_RW) (by decide) rfl w_203 (Nat.le_of_ble_eq_true rfl) ?_
  intro p e s m args below meth c ls X hlk hr hD hP hS hl
  have hx := X.1
  have hb := X.2.1
  have hl : lv_has ls 3 [(0, .ref (ad 0)), (1, .int t)] := hl
  have hF0 := hF
  obtain ⟨hR, hpg, hwk, hlo3, hck, ⟨fc, fk, tt0, tt1, tt2⟩, ⟨fr, fp, fw, fd, ⟨b0, b1, b2, b3, b4⟩, hfr, hfp, hfw, hfd⟩, ⟨cr, cp, cw, cd, ⟨c0, c1, c2, c3, c4⟩, hcr, hcp, hcw, hcd⟩⟩ := hF
  have hR0 := hR
  obtain ⟨rh0, ⟨ra1, rh1, rx1⟩, ⟨ra2, rh2, rx2⟩, ⟨ra3, rh3, rx3⟩, ⟨ra4, rh4, rx4⟩⟩ := hR
  refine lv_aload_n hx hb dRW_state_0 rfl (lv_at hl 0 rfl) ?_
  refine g_RW_54 X hP (by omega) (rh0) rfl dRW_state_1 ?_
  refine lv_if_eq (tgt := 14) hx hb dRW_state_4 rfl (fun h4 => ?_) (fun h4 => absurd (rfl) h4)
  refine lv_ldc2 (v := (-1)) hx hb X.2.2.2.1 (X.2.2.2.2.1 _ w_204) dRW_state_14 ?_
  exact q_lret X hlk hr hP hS dRW_state_17 (⟨rfl, rfl⟩)
set_option maxHeartbeats 4000000 in
set_option maxRecDepth 100000 in
theorem c_RW_holder (l : Launch) (D : va_G) (tc : Nat → ClassId) (ad : Nat → Nat) (E : Nat → va_E) (l1 : Int32) (hF : RWf tc ad E) : Ct l D tc yRW_holder 1 66 ad E [.ref (ad 0), .int l1] (fun o E2 => o = .returned (some (.int (-1))) ∧ E2 = E) := by
  refine Ct.ofW (cc := cRW_holder) (maxL := 2) (ret := (some .int)) (own := R_RW) (by decide) rfl w_210 (Nat.le_of_ble_eq_true rfl) ?_
  intro p e s m args below meth c ls X hlk hr hD hP hS hl
  have hx := X.1
  have hb := X.2.1
  have hl : lv_has ls 2 [(0, .ref (ad 0)), (1, .int l1)] := hl
  have hF0 := hF
  obtain ⟨hR, hpg, hwk, hlo3, hck, ⟨fc, fk, tt0, tt1, tt2⟩, ⟨fr, fp, fw, fd, ⟨b0, b1, b2, b3, b4⟩, hfr, hfp, hfw, hfd⟩, ⟨cr, cp, cw, cd, ⟨c0, c1, c2, c3, c4⟩, hcr, hcp, hcw, hcd⟩⟩ := hF
  have hR0 := hR
  obtain ⟨rh0, ⟨ra1, rh1, rx1⟩, ⟨ra2, rh2, rx2⟩, ⟨ra3, rh3, rx3⟩, ⟨ra4, rh4, rx4⟩⟩ := hR
  refine lv_iload_n hx hb dRW_holder_0 rfl (lv_at hl 1 rfl) ?_
  refine lv_if_lt (tgt := 21) hx hb dRW_holder_1 rfl (fun h1 => ?_) (fun h1 => ?_)
  · refine lv_iconst (v := (-1)) hx hb dRW_holder_21 (by decide) ?_
    exact q_iret X hlk hr hP hS dRW_holder_22 (⟨rfl, rfl⟩)
  · refine lv_iload_n hx hb dRW_holder_4 rfl (lv_at hl 1 rfl) ?_
    refine lv_iconst (v := 3) hx hb dRW_holder_5 (by decide) ?_
    refine lv_icmp_ge (tgt := 21) hx hb dRW_holder_6 rfl (fun h6 => ?_) (fun h6 => ?_)
    · refine lv_iconst (v := (-1)) hx hb dRW_holder_21 (by decide) ?_
      exact q_iret X hlk hr hP hS dRW_holder_22 (⟨rfl, rfl⟩)
    · obtain ⟨j, hj, rfl⟩ := wi_of (n := 3) (by decide) (wi_t (N := 3) (by decide) h1 h6)
      obtain ⟨lk0, lk1, lkf, lk2⟩ := hlo3 j hj
      refine lv_aload_n hx hb dRW_holder_9 rfl (lv_at hl 0 rfl) ?_
      refine g_RW_25 X hP (by omega) (rh0) rfl dRW_holder_10 ?_
      refine lv_iload_n hx hb dRW_holder_13 rfl (lv_at hl 1 rfl) ?_
      refine q_aald (t0 := 5) j X hP (by omega) (rh3) rfl (rfl) (by omega) (by decide) (rx3 j (by omega)) dRW_holder_14 ?_
      refine g_RW_146 X hP (by omega) (lk0) rfl dRW_holder_15 ?_
      refine lv_if_ne (tgt := 23) hx hb dRW_holder_18 rfl (fun h18 => absurd h18 (fun q => q rfl)) (fun h18 => ?_)
      refine lv_iconst (v := (-1)) hx hb dRW_holder_21 (by decide) ?_
      exact q_iret X hlk hr hP hS dRW_holder_22 (⟨rfl, rfl⟩)
set_option maxHeartbeats 4000000 in
set_option maxRecDepth 100000 in
theorem c_RW_race (l : Launch) (D : va_G) (tc : Nat → ClassId) (ad : Nat → Nat) (E : Nat → va_E) (p1 : Int32) (hF : RWf tc ad E) : Ct l D tc yRW_race 2 66 ad E [.ref (ad 0), .int p1] (fun o E2 => o = .returned (some (.int (-1))) ∧ E2 = E) := by
  refine Ct.ofW (cc := cRW_race) (maxL := 2) (ret := (some .int)) (own := R_RW) (by decide) rfl w_238 (Nat.le_of_ble_eq_true rfl) ?_
  intro p e s m args below meth c ls X hlk hr hD hP hS hl
  have hx := X.1
  have hb := X.2.1
  have hl : lv_has ls 2 [(0, .ref (ad 0)), (1, .int p1)] := hl
  have hF0 := hF
  obtain ⟨hR, hpg, hwk, hlo3, hck, ⟨fc, fk, tt0, tt1, tt2⟩, ⟨fr, fp, fw, fd, ⟨b0, b1, b2, b3, b4⟩, hfr, hfp, hfw, hfd⟩, ⟨cr, cp, cw, cd, ⟨c0, c1, c2, c3, c4⟩, hcr, hcp, hcw, hcd⟩⟩ := hF
  have hR0 := hR
  obtain ⟨rh0, ⟨ra1, rh1, rx1⟩, ⟨ra2, rh2, rx2⟩, ⟨ra3, rh3, rx3⟩, ⟨ra4, rh4, rx4⟩⟩ := hR
  refine lv_iload_n hx hb dRW_race_0 rfl (lv_at hl 1 rfl) ?_
  refine x_iE (f := fun k => 0 + k) (x_runS (As := [.int p1]) (rest := []) X (c_RW_isVariable l D tc (fun k => ad (0 + k)) (fun k => E (0 + k)) p1) rfl rfl (by decide) (by decide) w_167 w_1 w_165 w_166 ry_RW_isVariable (ct_pre X hP hD (fr_lt 0 66 0 (by omega)) (fr_inj 0 0)) ct_blind hl.1 (Nat.le_of_ble_eq_true rfl) dRW_race_1 ⟨Nat.zero_le _, Nat.zero_le _⟩) hD hP hS (fr_lt 0 66 0 (by omega)) (fr_inj 0 0) (fun H locs hD hP hS => ?_)
  refine lv_if_eq (tgt := 19) hx hb dRW_race_4 rfl (fun h4 => ?_) (fun h4 => ?_)
  · refine lv_iconst (v := (-1)) hx hb dRW_race_19 (by decide) ?_
    exact q_iret X hlk hr hP hS dRW_race_20 (⟨rfl, rfl⟩)
  · obtain ⟨j, hj, rfl⟩ := wi_of (n := 8) (by decide) (bi_t h4)
    refine lv_aload_n hx hb dRW_race_7 rfl (lv_at hl 0 rfl) ?_
    refine x_rE (v := ad 56) (f := fun k => 0 + k) (x_runV (C := R_RW) (As := []) (rest := []) X (c_RW_ownBook l D tc (fun k => ad (0 + k)) (fun k => E (0 + k)) 0 0 (by simpa only [Nat.zero_add] using hR0)) rfl rfl (by decide) (by decide) w_242 w_1 w_239 w_241 sel_RW_ownBook ry_RW_ownBook (x_recv X hP (by omega) (rh0) rfl) (ct_pre X hP hD (fr_lt 66 66 0 (by omega)) (fr_inj 66 0)) ct_blind hl.1 (Nat.le_of_ble_eq_true rfl) dRW_race_8 ⟨Nat.zero_le _, Nat.zero_le _⟩) hD hP hS (fr_lt 66 66 0 (by omega)) (fr_inj 66 0) (fun H locs hD hP hS => ?_)
    refine g_RW_171 X hP (by omega) (b0) rfl dRW_race_11 ?_
    refine lv_iload_n hx hb dRW_race_14 rfl (lv_at hl 1 rfl) ?_
    refine q_iald j X hP (by omega) (b1) (rfl) (by omega) (by decide) dRW_race_15 ?_
    refine lv_goto (tgt := 20) hx hb dRW_race_16 rfl ?_
    exact q_iret X hlk hr hP hS dRW_race_20 (⟨by rw [hfr j hj], rfl⟩)
set_option maxHeartbeats 4000000 in
set_option maxRecDepth 100000 in
theorem c_RW_partner (l : Launch) (D : va_G) (tc : Nat → ClassId) (ad : Nat → Nat) (E : Nat → va_E) (p1 : Int32) (hF : RWf tc ad E) : Ct l D tc yRW_partner 2 66 ad E [.ref (ad 0), .int p1] (fun o E2 => o = .returned (some (.int (-1))) ∧ E2 = E) := by
  refine Ct.ofW (cc := cRW_partner) (maxL := 2) (ret := (some .int)) (own := R_RW) (by decide) rfl w_250 (Nat.le_of_ble_eq_true rfl) ?_
  intro p e s m args below meth c ls X hlk hr hD hP hS hl
  have hx := X.1
  have hb := X.2.1
  have hl : lv_has ls 2 [(0, .ref (ad 0)), (1, .int p1)] := hl
  have hF0 := hF
  obtain ⟨hR, hpg, hwk, hlo3, hck, ⟨fc, fk, tt0, tt1, tt2⟩, ⟨fr, fp, fw, fd, ⟨b0, b1, b2, b3, b4⟩, hfr, hfp, hfw, hfd⟩, ⟨cr, cp, cw, cd, ⟨c0, c1, c2, c3, c4⟩, hcr, hcp, hcw, hcd⟩⟩ := hF
  have hR0 := hR
  obtain ⟨rh0, ⟨ra1, rh1, rx1⟩, ⟨ra2, rh2, rx2⟩, ⟨ra3, rh3, rx3⟩, ⟨ra4, rh4, rx4⟩⟩ := hR
  refine lv_iload_n hx hb dRW_partner_0 rfl (lv_at hl 1 rfl) ?_
  refine x_iE (f := fun k => 0 + k) (x_runS (As := [.int p1]) (rest := []) X (c_RW_isVariable l D tc (fun k => ad (0 + k)) (fun k => E (0 + k)) p1) rfl rfl (by decide) (by decide) w_167 w_1 w_165 w_166 ry_RW_isVariable (ct_pre X hP hD (fr_lt 0 66 0 (by omega)) (fr_inj 0 0)) ct_blind hl.1 (Nat.le_of_ble_eq_true rfl) dRW_partner_1 ⟨Nat.zero_le _, Nat.zero_le _⟩) hD hP hS (fr_lt 0 66 0 (by omega)) (fr_inj 0 0) (fun H locs hD hP hS => ?_)
  refine lv_if_eq (tgt := 19) hx hb dRW_partner_4 rfl (fun h4 => ?_) (fun h4 => ?_)
  · refine lv_iconst (v := (-1)) hx hb dRW_partner_19 (by decide) ?_
    exact q_iret X hlk hr hP hS dRW_partner_20 (⟨rfl, rfl⟩)
  · obtain ⟨j, hj, rfl⟩ := wi_of (n := 8) (by decide) (bi_t h4)
    refine lv_aload_n hx hb dRW_partner_7 rfl (lv_at hl 0 rfl) ?_
    refine x_rE (v := ad 56) (f := fun k => 0 + k) (x_runV (C := R_RW) (As := []) (rest := []) X (c_RW_ownBook l D tc (fun k => ad (0 + k)) (fun k => E (0 + k)) 0 0 (by simpa only [Nat.zero_add] using hR0)) rfl rfl (by decide) (by decide) w_242 w_1 w_239 w_241 sel_RW_ownBook ry_RW_ownBook (x_recv X hP (by omega) (rh0) rfl) (ct_pre X hP hD (fr_lt 66 66 0 (by omega)) (fr_inj 66 0)) ct_blind hl.1 (Nat.le_of_ble_eq_true rfl) dRW_partner_8 ⟨Nat.zero_le _, Nat.zero_le _⟩) hD hP hS (fr_lt 66 66 0 (by omega)) (fr_inj 66 0) (fun H locs hD hP hS => ?_)
    refine g_RW_174 X hP (by omega) (b0) rfl dRW_partner_11 ?_
    refine lv_iload_n hx hb dRW_partner_14 rfl (lv_at hl 1 rfl) ?_
    refine q_iald j X hP (by omega) (b2) (rfl) (by omega) (by decide) dRW_partner_15 ?_
    refine lv_goto (tgt := 20) hx hb dRW_partner_16 rfl ?_
    exact q_iret X hlk hr hP hS dRW_partner_20 (⟨by rw [hfp j hj], rfl⟩)
set_option maxHeartbeats 4000000 in
set_option maxRecDepth 100000 in
theorem c_RW_races (l : Launch) (D : va_G) (tc : Nat → ClassId) (ad : Nat → Nat) (E : Nat → va_E)  (hF : RWf tc ad E) : Ct l D tc yRW_races 2 66 ad E [.ref (ad 0)] (fun o E2 => o = .returned (some (.int 0)) ∧ E2 = E) := by
  refine Ct.ofW (cc := cRW_races) (maxL := 1) (ret := (some .int)) (own := R_RW) (by decide) rfl w_254 (Nat.le_of_ble_eq_true rfl) ?_
  intro p e s m args below meth c ls X hlk hr hD hP hS hl
  have hx := X.1
  have hb := X.2.1
  have hl : lv_has ls 1 [(0, .ref (ad 0))] := hl
  have hF0 := hF
  obtain ⟨hR, hpg, hwk, hlo3, hck, ⟨fc, fk, tt0, tt1, tt2⟩, ⟨fr, fp, fw, fd, ⟨b0, b1, b2, b3, b4⟩, hfr, hfp, hfw, hfd⟩, ⟨cr, cp, cw, cd, ⟨c0, c1, c2, c3, c4⟩, hcr, hcp, hcw, hcd⟩⟩ := hF
  have hR0 := hR
  obtain ⟨rh0, ⟨ra1, rh1, rx1⟩, ⟨ra2, rh2, rx2⟩, ⟨ra3, rh3, rx3⟩, ⟨ra4, rh4, rx4⟩⟩ := hR
  refine lv_aload_n hx hb dRW_races_0 rfl (lv_at hl 0 rfl) ?_
  refine x_rE (v := ad 56) (f := fun k => 0 + k) (x_runV (C := R_RW) (As := []) (rest := []) X (c_RW_ownBook l D tc (fun k => ad (0 + k)) (fun k => E (0 + k)) 0 0 (by simpa only [Nat.zero_add] using hR0)) rfl rfl (by decide) (by decide) w_242 w_1 w_239 w_241 sel_RW_ownBook ry_RW_ownBook (x_recv X hP (by omega) (rh0) rfl) (ct_pre X hP hD (fr_lt 66 66 0 (by omega)) (fr_inj 66 0)) ct_blind hl.1 (Nat.le_of_ble_eq_true rfl) dRW_races_1 ⟨Nat.zero_le _, Nat.zero_le _⟩) hD hP hS (fr_lt 66 66 0 (by omega)) (fr_inj 66 0) (fun H locs hD hP hS => ?_)
  refine lv_aload_n hx hb dRW_races_4 rfl (lv_at hl 0 rfl) ?_
  refine g_RW_40 X hP (by omega) (rh0) rfl dRW_races_5 ?_
  refine g_RW_152 X hP (by omega) (tt0) rfl dRW_races_8 ?_
  refine x_iX (f := fun k => 56 + k) (x_runVN (C := R_BK) (As := [.int (nI 0)]) (rest := []) X (c_BK_placesWithin l D tc (fun k => ad (56 + k)) (fun k => E (56 + k)) fr _ _ _ (nI 0) b0 b1) rfl rfl (by decide) (by decide) w_258 w_7 w_255 w_257 sel_BK_placesWithin ry_BK_placesWithin (x_recv X hP (by omega) (b0) rfl) (ct_pre X hP hD (fr_lt 5 66 56 (by omega)) (fr_inj 5 56)) ct_blind hl.1 (Nat.le_of_ble_eq_true rfl) dRW_races_11 ⟨Nat.zero_le _, Nat.zero_le _⟩) hD hP hS (fr_lt 5 66 56 (by omega)) (fr_inj 5 56) (fun z H locs hz hD hP hS => ?_)
  refine x_iX (f := fun k => 0 + k) (x_runS (As := [.int z]) (rest := []) X (c_IN_bitCount l D tc (fun k => ad (0 + k)) (fun k => E (0 + k)) z) rfl rfl (by decide) (by decide) w_261 w_19 w_259 w_260 ry_IN_bitCount (ct_pre X hP hD (fr_lt 0 66 0 (by omega)) (fr_inj 0 0)) ct_blind hl.1 (Nat.le_of_ble_eq_true rfl) dRW_races_14 ⟨Nat.zero_le _, Nat.zero_le _⟩) hD hP hS (fr_lt 0 66 0 (by omega)) (fr_inj 0 0) (fun y H locs hy hD hP hS => ?_)
  exact q_iret X hlk hr hP hS dRW_races_17 (⟨by rw [hy (hz hfr)], rfl⟩)
